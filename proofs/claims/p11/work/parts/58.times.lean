theorem le_pred100 {x : Int32} (h : ¬ x < 100) : 99 ≤ x := Int32.le_trans (by decide) (Int32.not_lt.mp h)
theorem le_pred200 {x : Int32} (h : ¬ x < 200) : 199 ≤ x := Int32.le_trans (by decide) (Int32.not_lt.mp h)
theorem sub_lt {x : Int32} {k L : Nat} (hk : k ≤ 200) (hL : L ≤ 10) (h1 : ¬ x < nI k) (h2 : ¬ nI (k + L) ≤ x) : ∃ j, j < L ∧ x - nI k = nI j := by
  have h3 := Int32.not_lt.mp h1
  obtain ⟨j, hj, rfl⟩ := nI_of (x := x) (fun q => nI_pos (n := k) (by omega) (Int32.lt_of_le_of_lt h3 q))
  have g1 := (nI_leI (by omega) hj).mp h3
  have g2 : j < k + L := Nat.lt_of_not_le (fun q => h2 (nI_le q hj))
  exact ⟨j - k, by omega, pk_sub g1⟩
set_option maxHeartbeats 4000000 in
set_option maxRecDepth 100000 in
/-- X2_timeOrder: the loop at 11 -/
theorem lp_X2_timeOrder {p : Program} {l : Launch} {e : Env} {s : State} {m : MethodId} {args : Array Value} {below : List Frame} {meth : Method} {c : Code} {Q : State → Prop} {D : va_G} {cI cJ cZ cM : Nat} {a : Nat → Nat} {iv : Nat → Int32} {av : Nat → Nat → Int32} {L9 : Nat} {A : Nat → Prop} (hx : p.tables.exec = Jvm.exec) (hb : c.code = cX2_timeOrder) (hml : c.maxLocals = 6) (hts : ∀ w ∈ wsX2_timeOrder, w.before args s = true) (hown : s.vm.findClass RX2 = some m.cls) (hG : GK D cI cJ cZ cM s) (hA : ∀ q : Nat, s.heap.size ≤ q → A q) (hL : iv 21 = nI L9) (hL10 : L9 ≤ 10) (hin : ∀ j, j < L9 → ∃ i, i < 10 ∧ (av 26) j = nI i) :
    ∀ (k9 : Nat) (k_ : Nat) (h_ : Nat) (z : Int32) (f27 : Nat → Int32), (k_ ≤ L9) → (h_ ≤ 10) → L9 - k_ < k9 → ∀ (H : Heap) (locs : List Loc) (ls : Array Slot), va_P D vwCl [(a 6, .inr (2, [.ref (a 16), .ref (a 17), .ref (a 18), .ref (a 19), .ref (a 20), .ref (a 21), .ref (a 22), .ref (a 23), .ref (a 24), .ref (a 25), .ref (a 26), .ref (a 27), .int (iv 20), .int (iv 21), .int (iv 22), .int (iv 23)])), (a 17, .inl (cI, 10, .inl (av 17))), (a 20, .inl (cI, 121, .inl (av 20))), (a 21, .inl (cI, 240, .inl (av 21))), (a 26, .inl (cI, 10, .inl (av 26))), (a 27, .inl (cI, 10, .inl f27)), (a 5, .inr (4, [.ref (a 13), .ref (a 14), .int (iv 5), .int (iv 6), .int (iv 7), .int (iv 8), .int (iv 9), .int (iv 10), .int (iv 11), .int (iv 12)]))] H → va_D A [(a 6, .inr (2, [.ref (a 16), .ref (a 17), .ref (a 18), .ref (a 19), .ref (a 20), .ref (a 21), .ref (a 22), .ref (a 23), .ref (a 24), .ref (a 25), .ref (a 26), .ref (a 27), .int (iv 20), .int (iv 21), .int (iv 22), .int (iv 23)])), (a 17, .inl (cI, 10, .inl (av 17))), (a 20, .inl (cI, 121, .inl (av 20))), (a 21, .inl (cI, 240, .inl (av 21))), (a 26, .inl (cI, 10, .inl (av 26))), (a 27, .inl (cI, 10, .inl f27)), (a 5, .inr (4, [.ref (a 13), .ref (a 14), .int (iv 5), .int (iv 6), .int (iv 7), .int (iv 8), .int (iv 9), .int (iv 10), .int (iv 11), .int (iv 12)]))] → va_S A s.heap H locs → lv_has ls 6 [(4, .int (nI k_)), (2, .int (nI h_)), (3, .int z), (0, .ref (a 6)), (1, .ref (a 5))] → (∀ (f27 : Nat → Int32) (H : Heap) (locs : List Loc) (ls : Array Slot), va_P D vwCl [(a 6, .inr (2, [.ref (a 16), .ref (a 17), .ref (a 18), .ref (a 19), .ref (a 20), .ref (a 21), .ref (a 22), .ref (a 23), .ref (a 24), .ref (a 25), .ref (a 26), .ref (a 27), .int (iv 20), .int (iv 21), .int (iv 22), .int (iv 23)])), (a 17, .inl (cI, 10, .inl (av 17))), (a 20, .inl (cI, 121, .inl (av 20))), (a 21, .inl (cI, 240, .inl (av 21))), (a 26, .inl (cI, 10, .inl (av 26))), (a 27, .inl (cI, 10, .inl f27)), (a 5, .inr (4, [.ref (a 13), .ref (a 14), .int (iv 5), .int (iv 6), .int (iv 7), .int (iv 8), .int (iv 9), .int (iv 10), .int (iv 11), .int (iv 12)]))] H → va_D A [(a 6, .inr (2, [.ref (a 16), .ref (a 17), .ref (a 18), .ref (a 19), .ref (a 20), .ref (a 21), .ref (a 22), .ref (a 23), .ref (a 24), .ref (a 25), .ref (a 26), .ref (a 27), .int (iv 20), .int (iv 21), .int (iv 22), .int (iv 23)])), (a 17, .inl (cI, 10, .inl (av 17))), (a 20, .inl (cI, 121, .inl (av 20))), (a 21, .inl (cI, 240, .inl (av 21))), (a 26, .inl (cI, 10, .inl (av 26))), (a 27, .inl (cI, 10, .inl f27)), (a 5, .inr (4, [.ref (a 13), .ref (a 14), .int (iv 5), .int (iv 6), .int (iv 7), .int (iv 8), .int (iv 9), .int (iv 10), .int (iv 11), .int (iv 12)]))] → va_S A s.heap H locs → lv_has ls 6 [(0, .ref (a 6))] → W p l e (headSpec wsX2_timeOrder ({ frames := 1, cells := 0, slots := 0, locals := 24 } : Room)).room s m args below meth c H locs 0 0 Q (F0 m 81 ls [])) → W p l e (headSpec wsX2_timeOrder ({ frames := 1, cells := 0, slots := 0, locals := 24 } : Room)).room s m args below meth c H locs 0 0 Q (F0 m 11 ls []) := by
  have hK := hG.1
  have hN := hG.2
  intro k9
  induction k9 with
  | zero => intro k_ h_ z f27 hk hh hfu; exact absurd hfu (Nat.not_lt_zero _)
  | succ k9 ih =>
    intro k_ h_ z f27 hk hh hfu H locs ls hP hD hS hl kk0
    rcases Nat.lt_or_ge k_ L9 with hlt | hge
    · obtain ⟨i9, hi9, e9⟩ := hin k_ hlt
      refine lv_iload hx hb dX2_timeOrder_11 (lv_at hl 0 rfl) ?_
      refine lv_aload_n hx hb dX2_timeOrder_13 rfl (lv_at hl 3 rfl) ?_
      refine va_get (D := D) (ci := 2) (v := .int (iv 21)) (C := RX2) (T := TX2) (N := 16) hx hb hts (fun _ h9 => List.mem_cons_of_mem _ (List.mem_append_right _ h9)) hown hK hP 0 rfl rfl 13 (by decide) (hts (.fieldLink RX2 72 "BuoyTender$Planner" "length" "I") (by decide +kernel)) (fun _ h9 => h9) rfl dX2_timeOrder_14 ?_
      refine lv_topi (fun z_1 ez_1 => ?_)
      obtain rfl : z_1 = nI L9 := ez_1.trans hL
      refine lv_icmp_ge (tgt := 81) hx hb dX2_timeOrder_17 (by decide) (fun c_2 => absurd c_2 (nI_ge hlt (by omega))) (fun c_2 => ?_)
      refine lv_aload_n hx hb dX2_timeOrder_20 rfl (lv_at hl 3 rfl) ?_
      refine va_get (D := D) (ci := 2) (v := .ref (a 26)) (C := RX2) (T := TX2) (N := 16) hx hb hts (fun _ h9 => List.mem_cons_of_mem _ (List.mem_append_right _ h9)) hown hK hP 0 rfl rfl 10 (by decide) (hts (.fieldLink RX2 42 "BuoyTender$Planner" "order" "[I") (by decide +kernel)) (fun _ h9 => h9) rfl dX2_timeOrder_21 ?_
      refine lv_iload hx hb dX2_timeOrder_24 (lv_at hl 0 rfl) ?_
      refine va_iald hx hb hK hP 4 0 rfl rfl (vp_in_nI (by omega) (by decide)) dX2_timeOrder_26 ?_
      refine lv_topi (fun z_3 ez_3 => ?_)
      obtain rfl : z_3 = (av 26) k_ := ez_3.trans (congrArg (av 26) (nI_clamp (by omega)))
      refine lv_topi (fun z_4 ez_4 => ?_)
      obtain rfl : z_4 = nI i9 := ez_4.trans e9
      refine lv_istore (lv' := [(5, .int (nI i9)), (4, .int (nI k_)), (2, .int (nI h_)), (3, .int z), (0, .ref (a 6)), (1, .ref (a 5))]) hx hb dX2_timeOrder_27 hl (by decide) rfl (fun ls hl => ?_)
      refine lv_aload_n hx hb dX2_timeOrder_29 rfl (lv_at hl 4 rfl) ?_
      refine va_get (D := D) (ci := 2) (v := .ref (a 27)) (C := RX2) (T := TX2) (N := 16) hx hb hts (fun _ h9 => List.mem_cons_of_mem _ (List.mem_append_right _ h9)) hown hK hP 0 rfl rfl 11 (by decide) (hts (.fieldLink RX2 45 "BuoyTender$Planner" "begins" "[I") (by decide +kernel)) (fun _ h9 => h9) rfl dX2_timeOrder_30 ?_
      refine lv_iload hx hb dX2_timeOrder_33 (lv_at hl 1 rfl) ?_
      refine lv_aload_n hx hb dX2_timeOrder_35 rfl (lv_at hl 4 rfl) ?_
      refine lv_iload hx hb dX2_timeOrder_36 (lv_at hl 0 rfl) ?_
      refine lv_iload_n hx hb dX2_timeOrder_38 rfl (lv_at hl 3 rfl) ?_
      refine lv_aload_n hx hb dX2_timeOrder_39 rfl (lv_at hl 4 rfl) ?_
      refine va_get (D := D) (ci := 2) (v := .ref (a 20)) (C := RX2) (T := TX2) (N := 16) hx hb hts (fun _ h9 => List.mem_cons_of_mem _ (List.mem_append_right _ h9)) hown hK hP 0 rfl rfl 4 (by decide) (hts (.fieldLink RX2 24 "BuoyTender$Planner" "ways" "[I") (by decide +kernel)) (fun _ h9 => h9) rfl dX2_timeOrder_40 ?_
      refine lv_iload_n hx hb dX2_timeOrder_43 rfl (lv_at hl 2 rfl) ?_
      refine lv_bipush (v := 11) hx hb dX2_timeOrder_44 (by decide) ?_
      refine lv_imul hx hb dX2_timeOrder_46 ?_
      refine lv_topi (fun z_5 ez_5 => ?_)
      obtain rfl : z_5 = nI (h_ * 11) := ez_5.trans (pk_mul h_ 11)
      refine lv_iload hx hb dX2_timeOrder_47 (lv_at hl 0 rfl) ?_
      refine lv_iadd hx hb dX2_timeOrder_49 ?_
      refine lv_topi (fun z_6 ez_6 => ?_)
      obtain rfl : z_6 = nI ((h_ * 11) + i9) := ez_6.trans (nI_add (h_ * 11) i9)
      refine va_iald hx hb hK hP 2 0 rfl rfl (vp_in_nI (by omega) (by decide)) dX2_timeOrder_50 ?_
      refine lv_topi (fun z_7 ez_7 => ?_)
      obtain rfl : z_7 = (av 20) ((h_ * 11) + i9) := ez_7.trans (congrArg (av 20) (nI_clamp (by omega)))
      refine lv_iadd hx hb dX2_timeOrder_51 ?_
      have hPc := hP.sub (ws' := [(a 6, .inr (2, [.ref (a 16), .ref (a 17), .ref (a 18), .ref (a 19), .ref (a 20), .ref (a 21), .ref (a 22), .ref (a 23), .ref (a 24), .ref (a 25), .ref (a 26), .ref (a 27), .int (iv 20), .int (iv 21), .int (iv 22), .int (iv 23)])), (a 21, .inl (cI, 240, .inl (av 21)))]) [0, 3] rfl
      refine vp_callSi (va_Run.run (va_runV (As := [.int (nI i9), .int (z + ((av 20) ((h_ * 11) + i9)))]) (rest := [.int (nI k_), .ref (a 27)]) ⟨hx, hb, hml, hown, hts⟩ (k_X2_beginFrom l D cI cJ cZ cM a iv av i9 (by omega) (z + ((av 20) ((h_ * 11) + i9)))) (cwV 2 hts gX2_timeOrder_X2_beginFrom rfl rfl rfl (by decide +kernel) ⟨Nat.le_of_ble_eq_true rfl, Nat.le_of_ble_eq_true rfl⟩) (ro_V hG hPc (va_recv hK hPc (ci := 2) (q0 := 0) rfl rfl)) rfl rfl hl.1 rfl (lv_room (Nat.le_of_ble_eq_true rfl)) dX2_timeOrder_52 ⟨Nat.le_of_ble_eq_true rfl, Nat.le_of_ble_eq_true rfl⟩)) (fun r_8 h_8 => ?_)
      refine va_iast hx hb hK hP hD hS 5 0 rfl rfl (vp_in_nI (by omega) (by decide)) dX2_timeOrder_55 (fun H locs hP hD hS => ?_)
      rw [nI_clamp (by omega)] at hP hD
      have hP : va_P D vwCl [(a 6, .inr (2, [.ref (a 16), .ref (a 17), .ref (a 18), .ref (a 19), .ref (a 20), .ref (a 21), .ref (a 22), .ref (a 23), .ref (a 24), .ref (a 25), .ref (a 26), .ref (a 27), .int (iv 20), .int (iv 21), .int (iv 22), .int (iv 23)])), (a 17, .inl (cI, 10, .inl (av 17))), (a 20, .inl (cI, 121, .inl (av 20))), (a 21, .inl (cI, 240, .inl (av 21))), (a 26, .inl (cI, 10, .inl (av 26))), (a 27, .inl (cI, 10, .inl (upd f27 k_ r_8))), (a 5, .inr (4, [.ref (a 13), .ref (a 14), .int (iv 5), .int (iv 6), .int (iv 7), .int (iv 8), .int (iv 9), .int (iv 10), .int (iv 11), .int (iv 12)]))] H := hP
      have hD : va_D A [(a 6, .inr (2, [.ref (a 16), .ref (a 17), .ref (a 18), .ref (a 19), .ref (a 20), .ref (a 21), .ref (a 22), .ref (a 23), .ref (a 24), .ref (a 25), .ref (a 26), .ref (a 27), .int (iv 20), .int (iv 21), .int (iv 22), .int (iv 23)])), (a 17, .inl (cI, 10, .inl (av 17))), (a 20, .inl (cI, 121, .inl (av 20))), (a 21, .inl (cI, 240, .inl (av 21))), (a 26, .inl (cI, 10, .inl (av 26))), (a 27, .inl (cI, 10, .inl (upd f27 k_ r_8))), (a 5, .inr (4, [.ref (a 13), .ref (a 14), .int (iv 5), .int (iv 6), .int (iv 7), .int (iv 8), .int (iv 9), .int (iv 10), .int (iv 11), .int (iv 12)]))] := hD
      refine lv_aload_n hx hb dX2_timeOrder_56 rfl (lv_at hl 4 rfl) ?_
      refine va_get (D := D) (ci := 2) (v := .ref (a 27)) (C := RX2) (T := TX2) (N := 16) hx hb hts (fun _ h9 => List.mem_cons_of_mem _ (List.mem_append_right _ h9)) hown hK hP 0 rfl rfl 11 (by decide) (hts (.fieldLink RX2 45 "BuoyTender$Planner" "begins" "[I") (by decide +kernel)) (fun _ h9 => h9) rfl dX2_timeOrder_57 ?_
      refine lv_iload hx hb dX2_timeOrder_60 (lv_at hl 1 rfl) ?_
      refine va_iald hx hb hK hP 5 0 rfl rfl (vp_in_nI (by omega) (by decide)) dX2_timeOrder_62 ?_
      refine lv_topi (fun z_9 ez_9 => ?_)
      obtain rfl : z_9 = (upd f27 k_ r_8) k_ := ez_9.trans (congrArg (upd f27 k_ r_8) (nI_clamp (by omega)))
      refine lv_aload_n hx hb dX2_timeOrder_63 rfl (lv_at hl 4 rfl) ?_
      refine va_get (D := D) (ci := 2) (v := .ref (a 17)) (C := RX2) (T := TX2) (N := 16) hx hb hts (fun _ h9 => List.mem_cons_of_mem _ (List.mem_append_right _ h9)) hown hK hP 0 rfl rfl 1 (by decide) (hts (.fieldLink RX2 15 "BuoyTender$Planner" "minutes" "[I") (by decide +kernel)) (fun _ h9 => h9) rfl dX2_timeOrder_64 ?_
      refine lv_iload hx hb dX2_timeOrder_67 (lv_at hl 0 rfl) ?_
      refine va_iald hx hb hK hP 1 0 rfl rfl (vp_in_nI (by omega) (by decide)) dX2_timeOrder_69 ?_
      refine lv_topi (fun z_10 ez_10 => ?_)
      obtain rfl : z_10 = (av 17) i9 := ez_10.trans (congrArg (av 17) (nI_clamp (by omega)))
      refine lv_iadd hx hb dX2_timeOrder_70 ?_
      refine lv_istore_n (lv' := [(3, .int (((upd f27 k_ r_8) k_) + ((av 17) i9))), (5, .int (nI i9)), (4, .int (nI k_)), (2, .int (nI h_)), (0, .ref (a 6)), (1, .ref (a 5))]) hx hb dX2_timeOrder_71 rfl hl (by decide) rfl (fun ls hl => ?_)
      refine lv_iload hx hb dX2_timeOrder_72 (lv_at hl 1 rfl) ?_
      refine lv_istore_n (lv' := [(2, .int (nI i9)), (3, .int (((upd f27 k_ r_8) k_) + ((av 17) i9))), (5, .int (nI i9)), (4, .int (nI k_)), (0, .ref (a 6)), (1, .ref (a 5))]) hx hb dX2_timeOrder_74 rfl hl (by decide) rfl (fun ls hl => ?_)
      refine lv_iinc (v := nI (k_ + 1)) (lv' := [(4, .int (nI (k_ + 1))), (2, .int (nI i9)), (3, .int (((upd f27 k_ r_8) k_) + ((av 17) i9))), (5, .int (nI i9)), (0, .ref (a 6)), (1, .ref (a 5))]) hx hb dX2_timeOrder_75 hl (k := 3) rfl (nI_add k_ 1) (by decide) rfl (fun ls hl => ?_)
      refine lv_goto (tgt := 11) hx hb dX2_timeOrder_78 (by decide) ?_
      exact ih (k_ + 1) i9 (((upd f27 k_ r_8) k_) + ((av 17) i9)) (upd f27 k_ r_8) (by omega) (by omega) (by omega) _ _ _ hP hD hS (lv_sub hl [0, 1, 2, 4, 5] rfl) kk0
    · refine lv_iload hx hb dX2_timeOrder_11 (lv_at hl 0 rfl) ?_
      refine lv_aload_n hx hb dX2_timeOrder_13 rfl (lv_at hl 3 rfl) ?_
      refine va_get (D := D) (ci := 2) (v := .int (iv 21)) (C := RX2) (T := TX2) (N := 16) hx hb hts (fun _ h9 => List.mem_cons_of_mem _ (List.mem_append_right _ h9)) hown hK hP 0 rfl rfl 13 (by decide) (hts (.fieldLink RX2 72 "BuoyTender$Planner" "length" "I") (by decide +kernel)) (fun _ h9 => h9) rfl dX2_timeOrder_14 ?_
      refine lv_topi (fun z_11 ez_11 => ?_)
      obtain rfl : z_11 = nI L9 := ez_11.trans hL
      refine lv_icmp_ge (tgt := 81) hx hb dX2_timeOrder_17 (by decide) (fun c_12 => ?_) (fun c_12 => absurd (nI_le hge (by omega)) c_12)
      exact kk0 f27 _ _ _  hP hD hS (lv_sub hl [3] rfl)
set_option maxHeartbeats 4000000 in
set_option maxRecDepth 100000 in
/-- X2_timeOrder -/
theorem k_X2_timeOrder (l : Launch) (D : va_G) (cI cJ cZ cM : Nat) (a : Nat → Nat) (iv : Nat → Int32) (av : Nat → Nat → Int32) (hord : ordOk (iv 21) (av 26)) (sz : Nat) : Met l yX2_timeOrder wsX2_timeOrder ({ frames := 1, cells := 0, slots := 0, locals := 24 } : Room) (RW D cI cJ cZ cM [.ref (a 6), .ref (a 5)] [(a 6, .inr (2, [.ref (a 16), .ref (a 17), .ref (a 18), .ref (a 19), .ref (a 20), .ref (a 21), .ref (a 22), .ref (a 23), .ref (a 24), .ref (a 25), .ref (a 26), .ref (a 27), .int (iv 20), .int (iv 21), .int (iv 22), .int (iv 23)])), (a 17, .inl (cI, 10, .inl (av 17))), (a 20, .inl (cI, 121, .inl (av 20))), (a 21, .inl (cI, 240, .inl (av 21))), (a 26, .inl (cI, 10, .inl (av 26))), (a 27, .inl (cI, 10, .inl (av 27))), (a 5, .inr (4, [.ref (a 13), .ref (a 14), .int (iv 5), .int (iv 6), .int (iv 7), .int (iv 8), .int (iv 9), .int (iv 10), .int (iv 11), .int (iv 12)]))] sz) (va_Qv (S := (Nat → Int32)) (fun u => True) (BB D (fun u => [(a 6, .inr (2, [.ref (a 16), .ref (a 17), .ref (a 18), .ref (a 19), .ref (a 20), .ref (a 21), .ref (a 22), .ref (a 23), .ref (a 24), .ref (a 25), .ref (a 26), .ref (a 27), .int (iv 20), .int (iv 21), .int (iv 22), .int (iv 23)])), (a 17, .inl (cI, 10, .inl (av 17))), (a 20, .inl (cI, 121, .inl (av 20))), (a 21, .inl (cI, 240, .inl (av 21))), (a 26, .inl (cI, 10, .inl (av 26))), (a 27, .inl (cI, 10, .inl u)), (a 5, .inr (4, [.ref (a 13), .ref (a 14), .int (iv 5), .int (iv 6), .int (iv 7), .int (iv 8), .int (iv 9), .int (iv 10), .int (iv 11), .int (iv 12)]))]) (va_A [(a 6, .inr (2, [.ref (a 16), .ref (a 17), .ref (a 18), .ref (a 19), .ref (a 20), .ref (a 21), .ref (a 22), .ref (a 23), .ref (a 24), .ref (a 25), .ref (a 26), .ref (a 27), .int (iv 20), .int (iv 21), .int (iv 22), .int (iv 23)])), (a 17, .inl (cI, 10, .inl (av 17))), (a 20, .inl (cI, 121, .inl (av 20))), (a 21, .inl (cI, 240, .inl (av 21))), (a 26, .inl (cI, 10, .inl (av 26))), (a 27, .inl (cI, 10, .inl (av 27))), (a 5, .inr (4, [.ref (a 13), .ref (a 14), .int (iv 5), .int (iv 6), .int (iv 7), .int (iv 8), .int (iv 9), .int (iv 10), .int (iv 11), .int (iv 12)]))] sz)) (va_A [(a 6, .inr (2, [.ref (a 16), .ref (a 17), .ref (a 18), .ref (a 19), .ref (a 20), .ref (a 21), .ref (a 22), .ref (a 23), .ref (a 24), .ref (a 25), .ref (a 26), .ref (a 27), .int (iv 20), .int (iv 21), .int (iv 22), .int (iv 23)])), (a 17, .inl (cI, 10, .inl (av 17))), (a 20, .inl (cI, 121, .inl (av 20))), (a 21, .inl (cI, 240, .inl (av 21))), (a 26, .inl (cI, 10, .inl (av 26))), (a 27, .inl (cI, 10, .inl (av 27))), (a 5, .inr (4, [.ref (a 13), .ref (a 14), .int (iv 5), .int (iv 6), .int (iv 7), .int (iv 8), .int (iv 9), .int (iv 10), .int (iv 11), .int (iv 12)]))] sz)) 0 0 (va_A [(a 6, .inr (2, [.ref (a 16), .ref (a 17), .ref (a 18), .ref (a 19), .ref (a 20), .ref (a 21), .ref (a 22), .ref (a 23), .ref (a 24), .ref (a 25), .ref (a 26), .ref (a 27), .int (iv 20), .int (iv 21), .int (iv 22), .int (iv 23)])), (a 17, .inl (cI, 10, .inl (av 17))), (a 20, .inl (cI, 121, .inl (av 20))), (a 21, .inl (cI, 240, .inl (av 21))), (a 26, .inl (cI, 10, .inl (av 26))), (a 27, .inl (cI, 10, .inl (av 27))), (a 5, .inr (4, [.ref (a 13), .ref (a 14), .int (iv 5), .int (iv 6), .int (iv 7), .int (iv 8), .int (iv 9), .int (iv 10), .int (iv 11), .int (iv 12)]))] sz) := by
  refine Met.ofW (cc := cX2_timeOrder) (maxL := 6) (ret := none) (by decide) rfl ?_
  intro p e s m args below meth c s₁ B hml hv
  obtain ⟨rfl, hsz, hG, hP, hD0⟩ := hv
  have hx := B.exec
  have hb := B.bytes
  have hr := B.returns
  have hts := atoms_spec (ws := wsX2_timeOrder) B.pre
  have hown : s.vm.findClass RX2 = some m.cls := findClass_of_methodNamed B.named
  have hlocks := B.notSynchronized
  have hK := hG.1
  have hN := hG.2
  subst hsz
  have hD := hD0.self (sz := s.heap.size)
  generalize hAe : va_A [(a 6, .inr (2, [.ref (a 16), .ref (a 17), .ref (a 18), .ref (a 19), .ref (a 20), .ref (a 21), .ref (a 22), .ref (a 23), .ref (a 24), .ref (a 25), .ref (a 26), .ref (a 27), .int (iv 20), .int (iv 21), .int (iv 22), .int (iv 23)])), (a 17, .inl (cI, 10, .inl (av 17))), (a 20, .inl (cI, 121, .inl (av 20))), (a 21, .inl (cI, 240, .inl (av 21))), (a 26, .inl (cI, 10, .inl (av 26))), (a 27, .inl (cI, 10, .inl (av 27))), (a 5, .inr (4, [.ref (a 13), .ref (a 14), .int (iv 5), .int (iv 6), .int (iv 7), .int (iv 8), .int (iv 9), .int (iv 10), .int (iv 11), .int (iv 12)]))] s.heap.size = A at hD ⊢
  have hA : ∀ q : Nat, s.heap.size ≤ q → A q := fun q h => by rw [← hAe]; exact Or.inr h
  have hS : va_S A s.heap s.heap [] := va_S.rf
  have hP : va_P D vwCl [(a 6, .inr (2, [.ref (a 16), .ref (a 17), .ref (a 18), .ref (a 19), .ref (a 20), .ref (a 21), .ref (a 22), .ref (a 23), .ref (a 24), .ref (a 25), .ref (a 26), .ref (a 27), .int (iv 20), .int (iv 21), .int (iv 22), .int (iv 23)])), (a 17, .inl (cI, 10, .inl (av 17))), (a 20, .inl (cI, 121, .inl (av 20))), (a 21, .inl (cI, 240, .inl (av 21))), (a 26, .inl (cI, 10, .inl (av 26))), (a 27, .inl (cI, 10, .inl (av 27))), (a 5, .inr (4, [.ref (a 13), .ref (a 14), .int (iv 5), .int (iv 6), .int (iv 7), .int (iv 8), .int (iv 9), .int (iv 10), .int (iv 11), .int (iv 12)]))] s.heap := hP
  have hl := lv_entry ([.ref (a 6), .ref (a 5)]) (n := 6) (Nat.le_of_ble_eq_true rfl)
  rw [lg_entry_eq]
  generalize (lg_sl ([.ref (a 6), .ref (a 5)]) ++ List.replicate (6 - (lg_sl ([.ref (a 6), .ref (a 5)])).length) Slot.unset).toArray = ls at hl ⊢
  have hl : lv_has ls 6 [(0, .ref (a 6)), (1, .ref (a 5))] := hl
  rcases hord with hm | ⟨L9, hL, hL10, hin⟩
  · refine lv_bipush (v := 10) hx hb dX2_timeOrder_0 (by decide) ?_
    refine lv_istore_n (lv' := [(2, .int 10), (0, .ref (a 6)), (1, .ref (a 5))]) hx hb dX2_timeOrder_2 rfl hl (by decide) rfl (fun ls hl => ?_)
    refine lv_aload_n hx hb dX2_timeOrder_3 rfl (lv_at hl 2 rfl) ?_
    refine va_getN (D := D) (ci := 4) (v := .int (iv 7)) (C := RX4) (T := TX4) (N := 10) hx hb hts (fun _ h9 => List.mem_cons_of_mem _ (List.mem_append_left _ (List.mem_append_right _ h9))) hown hK hP 6 rfl rfl 4 (by decide) (va_Nw.use rfl (hN.1 (RX2, 136, "BuoyTender$Ship", "minute", "I", "BuoyTender") (by decide +kernel))) (fun _ h9 => h9) rfl dX2_timeOrder_4 ?_
    refine lv_istore_n (lv' := [(3, .int (iv 7)), (2, .int 10), (0, .ref (a 6)), (1, .ref (a 5))]) hx hb dX2_timeOrder_7 rfl hl (by decide) rfl (fun ls hl => ?_)
    refine lv_iconst (v := 0) hx hb dX2_timeOrder_8 (by decide) ?_
    refine lv_istore (lv' := [(4, .int 0), (3, .int (iv 7)), (2, .int 10), (0, .ref (a 6)), (1, .ref (a 5))]) hx hb dX2_timeOrder_9 hl (by decide) rfl (fun ls hl => ?_)
    refine lv_iload hx hb dX2_timeOrder_11 (lv_at hl 0 rfl) ?_
    refine lv_aload_n hx hb dX2_timeOrder_13 rfl (lv_at hl 3 rfl) ?_
    refine va_get (D := D) (ci := 2) (v := .int (iv 21)) (C := RX2) (T := TX2) (N := 16) hx hb hts (fun _ h9 => List.mem_cons_of_mem _ (List.mem_append_right _ h9)) hown hK hP 0 rfl rfl 13 (by decide) (hts (.fieldLink RX2 72 "BuoyTender$Planner" "length" "I") (by decide +kernel)) (fun _ h9 => h9) rfl dX2_timeOrder_14 ?_
    refine lv_topi (fun z_1 ez_1 => ?_)
    obtain rfl : z_1 = (-1) := ez_1.trans hm
    refine lv_icmp_ge (tgt := 81) hx hb dX2_timeOrder_17 (by decide) (fun _ => ?_) (fun c_2 => False.elim (by revert c_2; decide))
    have hP9 := hP.sub (ws' := [(a 6, .inr (2, [.ref (a 16), .ref (a 17), .ref (a 18), .ref (a 19), .ref (a 20), .ref (a 21), .ref (a 22), .ref (a 23), .ref (a 24), .ref (a 25), .ref (a 26), .ref (a 27), .int (iv 20), .int (iv 21), .int (iv 22), .int (iv 23)])), (a 17, .inl (cI, 10, .inl (av 17))), (a 20, .inl (cI, 121, .inl (av 20))), (a 21, .inl (cI, 240, .inl (av 21))), (a 26, .inl (cI, 10, .inl (av 26))), (a 27, .inl (cI, 10, .inl (av 27))), (a 5, .inr (4, [.ref (a 13), .ref (a 14), .int (iv 5), .int (iv 6), .int (iv 7), .int (iv 8), .int (iv 9), .int (iv 10), .int (iv 11), .int (iv 12)]))]) [0, 1, 2, 3, 4, 5, 6] rfl
    have hD9 := hD.sub (ws' := [(a 6, .inr (2, [.ref (a 16), .ref (a 17), .ref (a 18), .ref (a 19), .ref (a 20), .ref (a 21), .ref (a 22), .ref (a 23), .ref (a 24), .ref (a 25), .ref (a 26), .ref (a 27), .int (iv 20), .int (iv 21), .int (iv 22), .int (iv 23)])), (a 17, .inl (cI, 10, .inl (av 17))), (a 20, .inl (cI, 121, .inl (av 20))), (a 21, .inl (cI, 240, .inl (av 21))), (a 26, .inl (cI, 10, .inl (av 26))), (a 27, .inl (cI, 10, .inl (av 27))), (a 5, .inr (4, [.ref (a 13), .ref (a 14), .int (iv 5), .int (iv 6), .int (iv 7), .int (iv 8), .int (iv 9), .int (iv 10), .int (iv 11), .int (iv 12)]))]) [0, 1, 2, 3, 4, 5, 6] (by decide) rfl
    exact W.vret hx hb hr (fun t ht hW => ⟨⟨av 27, rfl, trivial, ⟨by rw [ht]; exact hP9, hD9⟩⟩, hS.F ht⟩) hS.2.2 dX2_timeOrder_81
  · refine lv_bipush (v := 10) hx hb dX2_timeOrder_0 (by decide) ?_
    refine lv_istore_n (lv' := [(2, .int 10), (0, .ref (a 6)), (1, .ref (a 5))]) hx hb dX2_timeOrder_2 rfl hl (by decide) rfl (fun ls hl => ?_)
    refine lv_aload_n hx hb dX2_timeOrder_3 rfl (lv_at hl 2 rfl) ?_
    refine va_getN (D := D) (ci := 4) (v := .int (iv 7)) (C := RX4) (T := TX4) (N := 10) hx hb hts (fun _ h9 => List.mem_cons_of_mem _ (List.mem_append_left _ (List.mem_append_right _ h9))) hown hK hP 6 rfl rfl 4 (by decide) (va_Nw.use rfl (hN.1 (RX2, 136, "BuoyTender$Ship", "minute", "I", "BuoyTender") (by decide +kernel))) (fun _ h9 => h9) rfl dX2_timeOrder_4 ?_
    refine lv_istore_n (lv' := [(3, .int (iv 7)), (2, .int 10), (0, .ref (a 6)), (1, .ref (a 5))]) hx hb dX2_timeOrder_7 rfl hl (by decide) rfl (fun ls hl => ?_)
    refine lv_iconst (v := 0) hx hb dX2_timeOrder_8 (by decide) ?_
    refine lv_istore (lv' := [(4, .int 0), (3, .int (iv 7)), (2, .int 10), (0, .ref (a 6)), (1, .ref (a 5))]) hx hb dX2_timeOrder_9 hl (by decide) rfl (fun ls hl => ?_)
    refine lp_X2_timeOrder hx hb hml hts hown hG hA hL hL10 hin (L9 + 1) 0 10 (iv 7) (av 27) (Nat.zero_le _) (by decide) (by omega) _ _ _ hP hD hS (lv_sub hl [0, 2, 1, 3, 4] rfl) (fun f27_3 H locs ls  hP hD hS hl => ?_)
    have hP9 := hP.sub (ws' := [(a 6, .inr (2, [.ref (a 16), .ref (a 17), .ref (a 18), .ref (a 19), .ref (a 20), .ref (a 21), .ref (a 22), .ref (a 23), .ref (a 24), .ref (a 25), .ref (a 26), .ref (a 27), .int (iv 20), .int (iv 21), .int (iv 22), .int (iv 23)])), (a 17, .inl (cI, 10, .inl (av 17))), (a 20, .inl (cI, 121, .inl (av 20))), (a 21, .inl (cI, 240, .inl (av 21))), (a 26, .inl (cI, 10, .inl (av 26))), (a 27, .inl (cI, 10, .inl f27_3)), (a 5, .inr (4, [.ref (a 13), .ref (a 14), .int (iv 5), .int (iv 6), .int (iv 7), .int (iv 8), .int (iv 9), .int (iv 10), .int (iv 11), .int (iv 12)]))]) [0, 1, 2, 3, 4, 5, 6] rfl
    have hD9 := hD.sub (ws' := [(a 6, .inr (2, [.ref (a 16), .ref (a 17), .ref (a 18), .ref (a 19), .ref (a 20), .ref (a 21), .ref (a 22), .ref (a 23), .ref (a 24), .ref (a 25), .ref (a 26), .ref (a 27), .int (iv 20), .int (iv 21), .int (iv 22), .int (iv 23)])), (a 17, .inl (cI, 10, .inl (av 17))), (a 20, .inl (cI, 121, .inl (av 20))), (a 21, .inl (cI, 240, .inl (av 21))), (a 26, .inl (cI, 10, .inl (av 26))), (a 27, .inl (cI, 10, .inl f27_3)), (a 5, .inr (4, [.ref (a 13), .ref (a 14), .int (iv 5), .int (iv 6), .int (iv 7), .int (iv 8), .int (iv 9), .int (iv 10), .int (iv 11), .int (iv 12)]))]) [0, 1, 2, 3, 4, 5, 6] (by decide) rfl
    exact W.vret hx hb hr (fun t ht hW => ⟨⟨f27_3, rfl, trivial, ⟨by rw [ht]; exact hP9, hD9⟩⟩, hS.F ht⟩) hS.2.2 dX2_timeOrder_81
set_option maxHeartbeats 4000000 in
set_option maxRecDepth 100000 in
/-- X2_loadDone: the loop at 4 -/
theorem lp_X2_loadDone {p : Program} {l : Launch} {e : Env} {s : State} {m : MethodId} {args : Array Value} {below : List Frame} {meth : Method} {c : Code} {Q : State → Prop} {D : va_G} {cI cJ cZ cM : Nat} {a : Nat → Nat} {iv : Nat → Int32} {av : Nat → Nat → Int32} {L9 : Nat} {H : Heap} (hx : p.tables.exec = Jvm.exec) (hb : c.code = cX2_loadDone) (hml : c.maxLocals = 3) (hts : ∀ w ∈ wsX2_loadDone, w.before args s = true) (hown : s.vm.findClass RX2 = some m.cls) (hG : GK D cI cJ cZ cM s) (hP : va_P D vwCl [(a 6, .inr (2, [.ref (a 16), .ref (a 17), .ref (a 18), .ref (a 19), .ref (a 20), .ref (a 21), .ref (a 22), .ref (a 23), .ref (a 24), .ref (a 25), .ref (a 26), .ref (a 27), .int (iv 20), .int (iv 21), .int (iv 22), .int (iv 23)])), (a 18, .inl (cI, 10, .inl (av 18))), (a 26, .inl (cI, 10, .inl (av 26)))] H) (hL : iv 21 = nI L9) (hL10 : L9 ≤ 10) (hin : ∀ j, j < L9 → ∃ i, i < 10 ∧ (av 26) j = nI i) :
    ∀ (k9 : Nat) (k_ : Nat) (z : Int32), (k_ ≤ L9) → L9 - k_ < k9 → ∀ (ls : Array Slot), lv_has ls 3 [(2, .int (nI k_)), (1, .int z), (0, .ref (a 6))] → (∀ (z : Int32) (ls : Array Slot), lv_has ls 3 [(1, .int z), (0, .ref (a 6))] → W p l e (headSpec wsX2_loadDone ({ frames := 0, cells := 0, slots := 0, locals := 0 } : Room)).room s m args below meth c H [] 0 0 Q (F0 m 32 ls [])) → W p l e (headSpec wsX2_loadDone ({ frames := 0, cells := 0, slots := 0, locals := 0 } : Room)).room s m args below meth c H [] 0 0 Q (F0 m 4 ls []) := by
  have hK := hG.1
  have hN := hG.2
  intro k9
  induction k9 with
  | zero => intro k_ z hk hfu; exact absurd hfu (Nat.not_lt_zero _)
  | succ k9 ih =>
    intro k_ z hk hfu ls hl kk0
    rcases Nat.lt_or_ge k_ L9 with hlt | hge
    · obtain ⟨i9, hi9, e9⟩ := hin k_ hlt
      refine lv_iload_n hx hb dX2_loadDone_4 rfl (lv_at hl 0 rfl) ?_
      refine lv_aload_n hx hb dX2_loadDone_5 rfl (lv_at hl 2 rfl) ?_
      refine va_get (D := D) (ci := 2) (v := .int (iv 21)) (C := RX2) (T := TX2) (N := 16) hx hb hts (fun _ h9 => List.mem_cons_of_mem _ (List.mem_append_right _ h9)) hown hK hP 0 rfl rfl 13 (by decide) (hts (.fieldLink RX2 72 "BuoyTender$Planner" "length" "I") (by decide +kernel)) (fun _ h9 => h9) rfl dX2_loadDone_6 ?_
      refine lv_topi (fun z_1 ez_1 => ?_)
      obtain rfl : z_1 = nI L9 := ez_1.trans hL
      refine lv_icmp_ge (tgt := 32) hx hb dX2_loadDone_9 (by decide) (fun c_2 => absurd c_2 (nI_ge hlt (by omega))) (fun c_2 => ?_)
      refine lv_iload_n hx hb dX2_loadDone_12 rfl (lv_at hl 1 rfl) ?_
      refine lv_aload_n hx hb dX2_loadDone_13 rfl (lv_at hl 2 rfl) ?_
      refine va_get (D := D) (ci := 2) (v := .ref (a 18)) (C := RX2) (T := TX2) (N := 16) hx hb hts (fun _ h9 => List.mem_cons_of_mem _ (List.mem_append_right _ h9)) hown hK hP 0 rfl rfl 2 (by decide) (hts (.fieldLink RX2 18 "BuoyTender$Planner" "loads" "[I") (by decide +kernel)) (fun _ h9 => h9) rfl dX2_loadDone_14 ?_
      refine lv_aload_n hx hb dX2_loadDone_17 rfl (lv_at hl 2 rfl) ?_
      refine va_get (D := D) (ci := 2) (v := .ref (a 26)) (C := RX2) (T := TX2) (N := 16) hx hb hts (fun _ h9 => List.mem_cons_of_mem _ (List.mem_append_right _ h9)) hown hK hP 0 rfl rfl 10 (by decide) (hts (.fieldLink RX2 42 "BuoyTender$Planner" "order" "[I") (by decide +kernel)) (fun _ h9 => h9) rfl dX2_loadDone_18 ?_
      refine lv_iload_n hx hb dX2_loadDone_21 rfl (lv_at hl 0 rfl) ?_
      refine va_iald hx hb hK hP 2 0 rfl rfl (vp_in_nI (by omega) (by decide)) dX2_loadDone_22 ?_
      refine lv_topi (fun z_3 ez_3 => ?_)
      obtain rfl : z_3 = (av 26) k_ := ez_3.trans (congrArg (av 26) (nI_clamp (by omega)))
      refine lv_topi (fun z_4 ez_4 => ?_)
      obtain rfl : z_4 = nI i9 := ez_4.trans e9
      refine va_iald hx hb hK hP 1 0 rfl rfl (vp_in_nI (by omega) (by decide)) dX2_loadDone_23 ?_
      refine lv_topi (fun z_5 ez_5 => ?_)
      obtain rfl : z_5 = (av 18) i9 := ez_5.trans (congrArg (av 18) (nI_clamp (by omega)))
      refine lv_iadd hx hb dX2_loadDone_24 ?_
      refine lv_istore_n (lv' := [(1, .int (z + ((av 18) i9))), (2, .int (nI k_)), (0, .ref (a 6))]) hx hb dX2_loadDone_25 rfl hl (by decide) rfl (fun ls hl => ?_)
      refine lv_iinc (v := nI (k_ + 1)) (lv' := [(2, .int (nI (k_ + 1))), (1, .int (z + ((av 18) i9))), (0, .ref (a 6))]) hx hb dX2_loadDone_26 hl (k := 1) rfl (nI_add k_ 1) (by decide) rfl (fun ls hl => ?_)
      refine lv_goto (tgt := 4) hx hb dX2_loadDone_29 (by decide) ?_
      exact ih (k_ + 1) (z + ((av 18) i9)) (by omega) (by omega) _ (lv_sub hl [0, 1, 2] rfl) kk0
    · refine lv_iload_n hx hb dX2_loadDone_4 rfl (lv_at hl 0 rfl) ?_
      refine lv_aload_n hx hb dX2_loadDone_5 rfl (lv_at hl 2 rfl) ?_
      refine va_get (D := D) (ci := 2) (v := .int (iv 21)) (C := RX2) (T := TX2) (N := 16) hx hb hts (fun _ h9 => List.mem_cons_of_mem _ (List.mem_append_right _ h9)) hown hK hP 0 rfl rfl 13 (by decide) (hts (.fieldLink RX2 72 "BuoyTender$Planner" "length" "I") (by decide +kernel)) (fun _ h9 => h9) rfl dX2_loadDone_6 ?_
      refine lv_topi (fun z_6 ez_6 => ?_)
      obtain rfl : z_6 = nI L9 := ez_6.trans hL
      refine lv_icmp_ge (tgt := 32) hx hb dX2_loadDone_9 (by decide) (fun c_7 => ?_) (fun c_7 => absurd (nI_le hge (by omega)) c_7)
      exact kk0 z _  (lv_sub hl [1, 2] rfl)
set_option maxHeartbeats 4000000 in
set_option maxRecDepth 100000 in
/-- X2_loadDone -/
theorem k_X2_loadDone (l : Launch) (D : va_G) (cI cJ cZ cM : Nat) (a : Nat → Nat) (iv : Nat → Int32) (av : Nat → Nat → Int32) (hord : ordOk (iv 21) (av 26)) : Met l yX2_loadDone wsX2_loadDone ({ frames := 0, cells := 0, slots := 0, locals := 0 } : Room) (RO D cI cJ cZ cM [.ref (a 6)] [(a 6, .inr (2, [.ref (a 16), .ref (a 17), .ref (a 18), .ref (a 19), .ref (a 20), .ref (a 21), .ref (a 22), .ref (a 23), .ref (a 24), .ref (a 25), .ref (a 26), .ref (a 27), .int (iv 20), .int (iv 21), .int (iv 22), .int (iv 23)])), (a 18, .inl (cI, 10, .inl (av 18))), (a 26, .inl (cI, 10, .inl (av 26)))]) (vp_Si (fun r => True)) 0 0 (fun _ => False) := by
  refine Met.ofW (cc := cX2_loadDone) (maxL := 3) (ret := (some .int)) (by decide) rfl ?_
  intro p e s m args below meth c s₁ B hml hv
  obtain ⟨rfl, hG, hP⟩ := hv
  have hx := B.exec
  have hb := B.bytes
  have hr := B.returns
  have hts := atoms_spec (ws := wsX2_loadDone) B.pre
  have hown : s.vm.findClass RX2 = some m.cls := findClass_of_methodNamed B.named
  have hlocks := B.notSynchronized
  have hK := hG.1
  have hN := hG.2
  have hl := lv_entry ([.ref (a 6)]) (n := 3) (Nat.le_of_ble_eq_true rfl)
  rw [lg_entry_eq]
  generalize (lg_sl ([.ref (a 6)]) ++ List.replicate (3 - (lg_sl ([.ref (a 6)])).length) Slot.unset).toArray = ls at hl ⊢
  have hl : lv_has ls 3 [(0, .ref (a 6))] := hl
  rcases hord with hm | ⟨L9, hL, hL10, hin⟩
  · refine lv_iconst (v := 0) hx hb dX2_loadDone_0 (by decide) ?_
    refine lv_istore_n (lv' := [(1, .int 0), (0, .ref (a 6))]) hx hb dX2_loadDone_1 rfl hl (by decide) rfl (fun ls hl => ?_)
    refine lv_iconst (v := 0) hx hb dX2_loadDone_2 (by decide) ?_
    refine lv_istore_n (lv' := [(2, .int 0), (1, .int 0), (0, .ref (a 6))]) hx hb dX2_loadDone_3 rfl hl (by decide) rfl (fun ls hl => ?_)
    refine lv_iload_n hx hb dX2_loadDone_4 rfl (lv_at hl 0 rfl) ?_
    refine lv_aload_n hx hb dX2_loadDone_5 rfl (lv_at hl 2 rfl) ?_
    refine va_get (D := D) (ci := 2) (v := .int (iv 21)) (C := RX2) (T := TX2) (N := 16) hx hb hts (fun _ h9 => List.mem_cons_of_mem _ (List.mem_append_right _ h9)) hown hK hP 0 rfl rfl 13 (by decide) (hts (.fieldLink RX2 72 "BuoyTender$Planner" "length" "I") (by decide +kernel)) (fun _ h9 => h9) rfl dX2_loadDone_6 ?_
    refine lv_topi (fun z_1 ez_1 => ?_)
    obtain rfl : z_1 = (-1) := ez_1.trans hm
    refine lv_icmp_ge (tgt := 32) hx hb dX2_loadDone_9 (by decide) (fun _ => ?_) (fun c_2 => False.elim (by revert c_2; decide))
    refine lv_iload_n hx hb dX2_loadDone_32 rfl (lv_at hl 1 rfl) ?_
    exact W.iret (v := 0) hx hb hr (fun t ht hW => ⟨0, rfl, trivial, ht⟩) (fun _ h => by cases h) dX2_loadDone_33
  · refine lv_iconst (v := 0) hx hb dX2_loadDone_0 (by decide) ?_
    refine lv_istore_n (lv' := [(1, .int 0), (0, .ref (a 6))]) hx hb dX2_loadDone_1 rfl hl (by decide) rfl (fun ls hl => ?_)
    refine lv_iconst (v := 0) hx hb dX2_loadDone_2 (by decide) ?_
    refine lv_istore_n (lv' := [(2, .int 0), (1, .int 0), (0, .ref (a 6))]) hx hb dX2_loadDone_3 rfl hl (by decide) rfl (fun ls hl => ?_)
    have hPl := hP.sub (ws' := [(a 6, .inr (2, [.ref (a 16), .ref (a 17), .ref (a 18), .ref (a 19), .ref (a 20), .ref (a 21), .ref (a 22), .ref (a 23), .ref (a 24), .ref (a 25), .ref (a 26), .ref (a 27), .int (iv 20), .int (iv 21), .int (iv 22), .int (iv 23)])), (a 18, .inl (cI, 10, .inl (av 18))), (a 26, .inl (cI, 10, .inl (av 26)))]) [0, 1, 2] rfl
    refine lp_X2_loadDone hx hb hml hts hown hG hPl hL hL10 hin (L9 + 1) 0 0 (Nat.zero_le _) (by omega) _ (lv_sub hl [0, 1, 2] rfl) (fun z_3 ls  hl => ?_)
    refine lv_iload_n hx hb dX2_loadDone_32 rfl (lv_at hl 0 rfl) ?_
    exact W.iret (v := z_3) hx hb hr (fun t ht hW => ⟨z_3, rfl, trivial, ht⟩) (fun _ h => by cases h) dX2_loadDone_33
set_option maxHeartbeats 4000000 in
set_option maxRecDepth 100000 in
/-- X2_step -/
theorem k_X2_step (l : Launch) (D : va_G) (cI cJ cZ cM : Nat) (a : Nat → Nat) (iv : Nat → Int32) (av : Nat → Nat → Int32) (hord : ordOk (iv 21) (av 26)) (x1 : Int32) : Met l yX2_step wsX2_step ({ frames := 0, cells := 0, slots := 0, locals := 0 } : Room) (RO D cI cJ cZ cM [.ref (a 6), .int x1] [(a 6, .inr (2, [.ref (a 16), .ref (a 17), .ref (a 18), .ref (a 19), .ref (a 20), .ref (a 21), .ref (a 22), .ref (a 23), .ref (a 24), .ref (a 25), .ref (a 26), .ref (a 27), .int (iv 20), .int (iv 21), .int (iv 22), .int (iv 23)])), (a 16, .inl (cI, 10, .inl (av 16))), (a 26, .inl (cI, 10, .inl (av 26))), (a 27, .inl (cI, 10, .inl (av 27)))]) (vp_Si (fun r => True)) 0 0 (fun _ => False) := by
  refine Met.ofW (cc := cX2_step) (maxL := 2) (ret := (some .int)) (by decide) rfl ?_
  intro p e s m args below meth c s₁ B hml hv
  obtain ⟨rfl, hG, hP⟩ := hv
  have hx := B.exec
  have hb := B.bytes
  have hr := B.returns
  have hts := atoms_spec (ws := wsX2_step) B.pre
  have hown : s.vm.findClass RX2 = some m.cls := findClass_of_methodNamed B.named
  have hlocks := B.notSynchronized
  have hK := hG.1
  have hN := hG.2
  have hl := lv_entry ([.ref (a 6), .int x1]) (n := 2) (Nat.le_of_ble_eq_true rfl)
  rw [lg_entry_eq]
  generalize (lg_sl ([.ref (a 6), .int x1]) ++ List.replicate (2 - (lg_sl ([.ref (a 6), .int x1])).length) Slot.unset).toArray = ls at hl ⊢
  have hl : lv_has ls 2 [(0, .ref (a 6)), (1, .int x1)] := hl
  rcases hord with hm | ⟨L9, hL, hL10, hin⟩
  · refine lv_iload_n hx hb dX2_step_0 rfl (lv_at hl 1 rfl) ?_
    refine lv_bipush (v := 100) hx hb dX2_step_1 (by decide) ?_
    refine lv_icmp_lt (tgt := 32) hx hb dX2_step_3 (by decide) (fun c_1 => ?_) (fun c_1 => ?_)
    · refine lv_iload_n hx hb dX2_step_32 rfl (lv_at hl 1 rfl) ?_
      refine lv_sipush (v := 200) hx hb dX2_step_33 (by decide) ?_
      refine lv_icmp_lt (tgt := 62) hx hb dX2_step_36 (by decide) (fun c_2 => ?_) (fun c_2 => ?_)
      · refine lv_iconst (v := (-1)) hx hb dX2_step_62 (by decide) ?_
        exact W.iret (v := (-1)) hx hb hr (fun t ht hW => ⟨(-1), rfl, trivial, ht⟩) (fun _ h => by cases h) dX2_step_63
      refine lv_iload_n hx hb dX2_step_39 rfl (lv_at hl 1 rfl) ?_
      refine lv_sipush (v := 200) hx hb dX2_step_40 (by decide) ?_
      refine lv_aload_n hx hb dX2_step_43 rfl (lv_at hl 0 rfl) ?_
      refine va_get (D := D) (ci := 2) (v := .int (iv 21)) (C := RX2) (T := TX2) (N := 16) hx hb hts (fun _ h9 => List.mem_cons_of_mem _ (List.mem_append_right _ h9)) hown hK hP 0 rfl rfl 13 (by decide) (hts (.fieldLink RX2 72 "BuoyTender$Planner" "length" "I") (by decide +kernel)) (fun _ h9 => h9) rfl dX2_step_44 ?_
      refine lv_topi (fun z_3 ez_3 => ?_)
      obtain rfl : z_3 = (-1) := ez_3.trans hm
      refine lv_iadd hx hb dX2_step_47 ?_
      refine lv_topi (fun z_4 ez_4 => ?_)
      obtain rfl : z_4 = 199 := ez_4.trans (by decide)
      refine lv_icmp_ge (tgt := 62) hx hb dX2_step_48 (by decide) (fun c_5 => ?_) (fun c_5 => absurd (le_pred200 c_2) c_5)
      refine lv_iconst (v := (-1)) hx hb dX2_step_62 (by decide) ?_
      exact W.iret (v := (-1)) hx hb hr (fun t ht hW => ⟨(-1), rfl, trivial, ht⟩) (fun _ h => by cases h) dX2_step_63
    refine lv_iload_n hx hb dX2_step_6 rfl (lv_at hl 1 rfl) ?_
    refine lv_bipush (v := 100) hx hb dX2_step_7 (by decide) ?_
    refine lv_aload_n hx hb dX2_step_9 rfl (lv_at hl 0 rfl) ?_
    refine va_get (D := D) (ci := 2) (v := .int (iv 21)) (C := RX2) (T := TX2) (N := 16) hx hb hts (fun _ h9 => List.mem_cons_of_mem _ (List.mem_append_right _ h9)) hown hK hP 0 rfl rfl 13 (by decide) (hts (.fieldLink RX2 72 "BuoyTender$Planner" "length" "I") (by decide +kernel)) (fun _ h9 => h9) rfl dX2_step_10 ?_
    refine lv_topi (fun z_6 ez_6 => ?_)
    obtain rfl : z_6 = (-1) := ez_6.trans hm
    refine lv_iadd hx hb dX2_step_13 ?_
    refine lv_topi (fun z_7 ez_7 => ?_)
    obtain rfl : z_7 = 99 := ez_7.trans (by decide)
    refine lv_icmp_ge (tgt := 32) hx hb dX2_step_14 (by decide) (fun c_8 => ?_) (fun c_8 => absurd (le_pred100 c_1) c_8)
    refine lv_iload_n hx hb dX2_step_32 rfl (lv_at hl 1 rfl) ?_
    refine lv_sipush (v := 200) hx hb dX2_step_33 (by decide) ?_
    refine lv_icmp_lt (tgt := 62) hx hb dX2_step_36 (by decide) (fun c_9 => ?_) (fun c_9 => ?_)
    · refine lv_iconst (v := (-1)) hx hb dX2_step_62 (by decide) ?_
      exact W.iret (v := (-1)) hx hb hr (fun t ht hW => ⟨(-1), rfl, trivial, ht⟩) (fun _ h => by cases h) dX2_step_63
    refine lv_iload_n hx hb dX2_step_39 rfl (lv_at hl 1 rfl) ?_
    refine lv_sipush (v := 200) hx hb dX2_step_40 (by decide) ?_
    refine lv_aload_n hx hb dX2_step_43 rfl (lv_at hl 0 rfl) ?_
    refine va_get (D := D) (ci := 2) (v := .int (iv 21)) (C := RX2) (T := TX2) (N := 16) hx hb hts (fun _ h9 => List.mem_cons_of_mem _ (List.mem_append_right _ h9)) hown hK hP 0 rfl rfl 13 (by decide) (hts (.fieldLink RX2 72 "BuoyTender$Planner" "length" "I") (by decide +kernel)) (fun _ h9 => h9) rfl dX2_step_44 ?_
    refine lv_topi (fun z_10 ez_10 => ?_)
    obtain rfl : z_10 = (-1) := ez_10.trans hm
    refine lv_iadd hx hb dX2_step_47 ?_
    refine lv_topi (fun z_11 ez_11 => ?_)
    obtain rfl : z_11 = 199 := ez_11.trans (by decide)
    refine lv_icmp_ge (tgt := 62) hx hb dX2_step_48 (by decide) (fun c_12 => ?_) (fun c_12 => absurd (le_pred200 c_9) c_12)
    refine lv_iconst (v := (-1)) hx hb dX2_step_62 (by decide) ?_
    exact W.iret (v := (-1)) hx hb hr (fun t ht hW => ⟨(-1), rfl, trivial, ht⟩) (fun _ h => by cases h) dX2_step_63
  · refine lv_iload_n hx hb dX2_step_0 rfl (lv_at hl 1 rfl) ?_
    refine lv_bipush (v := 100) hx hb dX2_step_1 (by decide) ?_
    refine lv_icmp_lt (tgt := 32) hx hb dX2_step_3 (by decide) (fun c_13 => ?_) (fun c_13 => ?_)
    · refine lv_iload_n hx hb dX2_step_32 rfl (lv_at hl 1 rfl) ?_
      refine lv_sipush (v := 200) hx hb dX2_step_33 (by decide) ?_
      refine lv_icmp_lt (tgt := 62) hx hb dX2_step_36 (by decide) (fun c_14 => ?_) (fun c_14 => ?_)
      · refine lv_iconst (v := (-1)) hx hb dX2_step_62 (by decide) ?_
        exact W.iret (v := (-1)) hx hb hr (fun t ht hW => ⟨(-1), rfl, trivial, ht⟩) (fun _ h => by cases h) dX2_step_63
      refine lv_iload_n hx hb dX2_step_39 rfl (lv_at hl 1 rfl) ?_
      refine lv_sipush (v := 200) hx hb dX2_step_40 (by decide) ?_
      refine lv_aload_n hx hb dX2_step_43 rfl (lv_at hl 0 rfl) ?_
      refine va_get (D := D) (ci := 2) (v := .int (iv 21)) (C := RX2) (T := TX2) (N := 16) hx hb hts (fun _ h9 => List.mem_cons_of_mem _ (List.mem_append_right _ h9)) hown hK hP 0 rfl rfl 13 (by decide) (hts (.fieldLink RX2 72 "BuoyTender$Planner" "length" "I") (by decide +kernel)) (fun _ h9 => h9) rfl dX2_step_44 ?_
      refine lv_topi (fun z_15 ez_15 => ?_)
      obtain rfl : z_15 = nI L9 := ez_15.trans hL
      refine lv_iadd hx hb dX2_step_47 ?_
      refine lv_topi (fun z_16 ez_16 => ?_)
      obtain rfl : z_16 = nI (200 + L9) := ez_16.trans (nI_add 200 L9)
      refine lv_icmp_ge (tgt := 62) hx hb dX2_step_48 (by decide) (fun c_17 => ?_) (fun c_17 => ?_)
      · refine lv_iconst (v := (-1)) hx hb dX2_step_62 (by decide) ?_
        exact W.iret (v := (-1)) hx hb hr (fun t ht hW => ⟨(-1), rfl, trivial, ht⟩) (fun _ h => by cases h) dX2_step_63
      refine lv_aload_n hx hb dX2_step_51 rfl (lv_at hl 0 rfl) ?_
      refine va_get (D := D) (ci := 2) (v := .ref (a 27)) (C := RX2) (T := TX2) (N := 16) hx hb hts (fun _ h9 => List.mem_cons_of_mem _ (List.mem_append_right _ h9)) hown hK hP 0 rfl rfl 11 (by decide) (hts (.fieldLink RX2 45 "BuoyTender$Planner" "begins" "[I") (by decide +kernel)) (fun _ h9 => h9) rfl dX2_step_52 ?_
      refine lv_iload_n hx hb dX2_step_55 rfl (lv_at hl 1 rfl) ?_
      refine lv_sipush (v := 200) hx hb dX2_step_56 (by decide) ?_
      refine lv_isub hx hb dX2_step_59 ?_
      obtain ⟨j9, hj9, e8⟩ := sub_lt (k := 200) (by decide) (by omega) c_14 c_17
      refine lv_topi (fun z_18 ez_18 => ?_)
      obtain rfl : z_18 = nI j9 := ez_18.trans e8
      refine va_iald hx hb hK hP 3 0 rfl rfl (vp_in_nI (by omega) (by decide)) dX2_step_60 ?_
      refine lv_topi (fun z_19 ez_19 => ?_)
      obtain rfl : z_19 = (av 27) j9 := ez_19.trans (congrArg (av 27) (nI_clamp (by omega)))
      exact W.iret (v := ((av 27) j9)) hx hb hr (fun t ht hW => ⟨((av 27) j9), rfl, trivial, ht⟩) (fun _ h => by cases h) dX2_step_61
    refine lv_iload_n hx hb dX2_step_6 rfl (lv_at hl 1 rfl) ?_
    refine lv_bipush (v := 100) hx hb dX2_step_7 (by decide) ?_
    refine lv_aload_n hx hb dX2_step_9 rfl (lv_at hl 0 rfl) ?_
    refine va_get (D := D) (ci := 2) (v := .int (iv 21)) (C := RX2) (T := TX2) (N := 16) hx hb hts (fun _ h9 => List.mem_cons_of_mem _ (List.mem_append_right _ h9)) hown hK hP 0 rfl rfl 13 (by decide) (hts (.fieldLink RX2 72 "BuoyTender$Planner" "length" "I") (by decide +kernel)) (fun _ h9 => h9) rfl dX2_step_10 ?_
    refine lv_topi (fun z_20 ez_20 => ?_)
    obtain rfl : z_20 = nI L9 := ez_20.trans hL
    refine lv_iadd hx hb dX2_step_13 ?_
    refine lv_topi (fun z_21 ez_21 => ?_)
    obtain rfl : z_21 = nI (100 + L9) := ez_21.trans (nI_add 100 L9)
    refine lv_icmp_ge (tgt := 32) hx hb dX2_step_14 (by decide) (fun c_22 => ?_) (fun c_22 => ?_)
    · refine lv_iload_n hx hb dX2_step_32 rfl (lv_at hl 1 rfl) ?_
      refine lv_sipush (v := 200) hx hb dX2_step_33 (by decide) ?_
      refine lv_icmp_lt (tgt := 62) hx hb dX2_step_36 (by decide) (fun c_23 => ?_) (fun c_23 => ?_)
      · refine lv_iconst (v := (-1)) hx hb dX2_step_62 (by decide) ?_
        exact W.iret (v := (-1)) hx hb hr (fun t ht hW => ⟨(-1), rfl, trivial, ht⟩) (fun _ h => by cases h) dX2_step_63
      refine lv_iload_n hx hb dX2_step_39 rfl (lv_at hl 1 rfl) ?_
      refine lv_sipush (v := 200) hx hb dX2_step_40 (by decide) ?_
      refine lv_aload_n hx hb dX2_step_43 rfl (lv_at hl 0 rfl) ?_
      refine va_get (D := D) (ci := 2) (v := .int (iv 21)) (C := RX2) (T := TX2) (N := 16) hx hb hts (fun _ h9 => List.mem_cons_of_mem _ (List.mem_append_right _ h9)) hown hK hP 0 rfl rfl 13 (by decide) (hts (.fieldLink RX2 72 "BuoyTender$Planner" "length" "I") (by decide +kernel)) (fun _ h9 => h9) rfl dX2_step_44 ?_
      refine lv_topi (fun z_24 ez_24 => ?_)
      obtain rfl : z_24 = nI L9 := ez_24.trans hL
      refine lv_iadd hx hb dX2_step_47 ?_
      refine lv_topi (fun z_25 ez_25 => ?_)
      obtain rfl : z_25 = nI (200 + L9) := ez_25.trans (nI_add 200 L9)
      refine lv_icmp_ge (tgt := 62) hx hb dX2_step_48 (by decide) (fun c_26 => ?_) (fun c_26 => ?_)
      · refine lv_iconst (v := (-1)) hx hb dX2_step_62 (by decide) ?_
        exact W.iret (v := (-1)) hx hb hr (fun t ht hW => ⟨(-1), rfl, trivial, ht⟩) (fun _ h => by cases h) dX2_step_63
      refine lv_aload_n hx hb dX2_step_51 rfl (lv_at hl 0 rfl) ?_
      refine va_get (D := D) (ci := 2) (v := .ref (a 27)) (C := RX2) (T := TX2) (N := 16) hx hb hts (fun _ h9 => List.mem_cons_of_mem _ (List.mem_append_right _ h9)) hown hK hP 0 rfl rfl 11 (by decide) (hts (.fieldLink RX2 45 "BuoyTender$Planner" "begins" "[I") (by decide +kernel)) (fun _ h9 => h9) rfl dX2_step_52 ?_
      refine lv_iload_n hx hb dX2_step_55 rfl (lv_at hl 1 rfl) ?_
      refine lv_sipush (v := 200) hx hb dX2_step_56 (by decide) ?_
      refine lv_isub hx hb dX2_step_59 ?_
      obtain ⟨j9, hj9, e8⟩ := sub_lt (k := 200) (by decide) (by omega) c_23 c_26
      refine lv_topi (fun z_27 ez_27 => ?_)
      obtain rfl : z_27 = nI j9 := ez_27.trans e8
      refine va_iald hx hb hK hP 3 0 rfl rfl (vp_in_nI (by omega) (by decide)) dX2_step_60 ?_
      refine lv_topi (fun z_28 ez_28 => ?_)
      obtain rfl : z_28 = (av 27) j9 := ez_28.trans (congrArg (av 27) (nI_clamp (by omega)))
      exact W.iret (v := ((av 27) j9)) hx hb hr (fun t ht hW => ⟨((av 27) j9), rfl, trivial, ht⟩) (fun _ h => by cases h) dX2_step_61
    refine lv_aload_n hx hb dX2_step_17 rfl (lv_at hl 0 rfl) ?_
    refine va_get (D := D) (ci := 2) (v := .ref (a 16)) (C := RX2) (T := TX2) (N := 16) hx hb hts (fun _ h9 => List.mem_cons_of_mem _ (List.mem_append_right _ h9)) hown hK hP 0 rfl rfl 0 (by decide) (hts (.fieldLink RX2 9 "BuoyTender$Planner" "numbers" "[I") (by decide +kernel)) (fun _ h9 => h9) rfl dX2_step_18 ?_
    refine lv_aload_n hx hb dX2_step_21 rfl (lv_at hl 0 rfl) ?_
    refine va_get (D := D) (ci := 2) (v := .ref (a 26)) (C := RX2) (T := TX2) (N := 16) hx hb hts (fun _ h9 => List.mem_cons_of_mem _ (List.mem_append_right _ h9)) hown hK hP 0 rfl rfl 10 (by decide) (hts (.fieldLink RX2 42 "BuoyTender$Planner" "order" "[I") (by decide +kernel)) (fun _ h9 => h9) rfl dX2_step_22 ?_
    refine lv_iload_n hx hb dX2_step_25 rfl (lv_at hl 1 rfl) ?_
    refine lv_bipush (v := 100) hx hb dX2_step_26 (by decide) ?_
    refine lv_isub hx hb dX2_step_28 ?_
    obtain ⟨j9, hj9, e8⟩ := sub_lt (k := 100) (by decide) (by omega) c_13 c_22
    refine lv_topi (fun z_29 ez_29 => ?_)
    obtain rfl : z_29 = nI j9 := ez_29.trans e8
    obtain ⟨i9, hi9, e9⟩ := hin j9 hj9
    refine va_iald hx hb hK hP 2 0 rfl rfl (vp_in_nI (by omega) (by decide)) dX2_step_29 ?_
    refine lv_topi (fun z_30 ez_30 => ?_)
    obtain rfl : z_30 = (av 26) j9 := ez_30.trans (congrArg (av 26) (nI_clamp (by omega)))
    refine lv_topi (fun z_31 ez_31 => ?_)
    obtain rfl : z_31 = nI i9 := ez_31.trans e9
    refine va_iald hx hb hK hP 1 0 rfl rfl (vp_in_nI (by omega) (by decide)) dX2_step_30 ?_
    refine lv_topi (fun z_32 ez_32 => ?_)
    obtain rfl : z_32 = (av 16) i9 := ez_32.trans (congrArg (av 16) (nI_clamp (by omega)))
    exact W.iret (v := ((av 16) i9)) hx hb hr (fun t ht hW => ⟨((av 16) i9), rfl, trivial, ht⟩) (fun _ h => by cases h) dX2_step_31
