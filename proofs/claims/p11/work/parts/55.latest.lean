set_option maxHeartbeats 4000000 in
set_option maxRecDepth 100000 in
/-- X2_chooseBest: the loop at 17 -/
theorem lp_X2_chooseBest {p : Program} {l : Launch} {e : Env} {s : State} {m : MethodId} {args : Array Value} {below : List Frame} {meth : Method} {c : Code} {Q : State → Prop} {D : va_G} {cI cJ cZ cM : Nat} {a : Nat → Nat} {iv : Nat → Int32} {av : Nat → Nat → Int32} {cc : Nat} {A : Nat → Prop} (hx : p.tables.exec = Jvm.exec) (hb : c.code = cX2_chooseBest) (hml : c.maxLocals = 3) (hts : ∀ w ∈ wsX2_chooseBest, w.before args s = true) (hown : s.vm.findClass RX2 = some m.cls) (hG : GK D cI cJ cZ cM s) (hA : ∀ q : Nat, s.heap.size ≤ q → A q) (h_c : iv 20 = nI cc) (hcc : cc ≤ 10) :
    ∀ (k9 : Nat) (k_ : Nat) (b22 : Int32) (b23 : Int32), (k_ ≤ 2 ^ cc) → (2 ^ cc) - k_ < k9 → ∀ (H : Heap) (locs : List Loc) (ls : Array Slot), va_P D vwCl [(a 6, .inr (2, [.ref (a 16), .ref (a 17), .ref (a 18), .ref (a 19), .ref (a 20), .ref (a 21), .ref (a 22), .ref (a 23), .ref (a 24), .ref (a 25), .ref (a 26), .ref (a 27), .int (iv 20), .int (iv 21), .int b22, .int b23])), (a 19, .inl (cI, 10, .inl (av 19))), (a 24, .inl (cI, 1024, .inl (av 24)))] H → va_D A [(a 6, .inr (2, [.ref (a 16), .ref (a 17), .ref (a 18), .ref (a 19), .ref (a 20), .ref (a 21), .ref (a 22), .ref (a 23), .ref (a 24), .ref (a 25), .ref (a 26), .ref (a 27), .int (iv 20), .int (iv 21), .int b22, .int b23])), (a 19, .inl (cI, 10, .inl (av 19))), (a 24, .inl (cI, 1024, .inl (av 24)))] → va_S A s.heap H locs → lv_has ls 3 [(1, .int (nI k_)), (0, .ref (a 6))] → (∀ (b22 : Int32) (b23 : Int32) (H : Heap) (locs : List Loc) (ls : Array Slot), va_P D vwCl [(a 6, .inr (2, [.ref (a 16), .ref (a 17), .ref (a 18), .ref (a 19), .ref (a 20), .ref (a 21), .ref (a 22), .ref (a 23), .ref (a 24), .ref (a 25), .ref (a 26), .ref (a 27), .int (iv 20), .int (iv 21), .int b22, .int b23])), (a 19, .inl (cI, 10, .inl (av 19))), (a 24, .inl (cI, 1024, .inl (av 24)))] H → va_D A [(a 6, .inr (2, [.ref (a 16), .ref (a 17), .ref (a 18), .ref (a 19), .ref (a 20), .ref (a 21), .ref (a 22), .ref (a 23), .ref (a 24), .ref (a 25), .ref (a 26), .ref (a 27), .int (iv 20), .int (iv 21), .int b22, .int b23])), (a 19, .inl (cI, 10, .inl (av 19))), (a 24, .inl (cI, 1024, .inl (av 24)))] → va_S A s.heap H locs → lv_has ls 3 [(0, .ref (a 6))] → W p l e (headSpec wsX2_chooseBest ({ frames := 2, cells := 0, slots := 0, locals := 45 } : Room)).room s m args below meth c H locs 0 0 Q (F0 m 98 ls [])) → W p l e (headSpec wsX2_chooseBest ({ frames := 2, cells := 0, slots := 0, locals := 45 } : Room)).room s m args below meth c H locs 0 0 Q (F0 m 17 ls []) := by
  have hK := hG.1
  have hN := hG.2
  intro k9
  induction k9 with
  | zero => intro k_ b22 b23 hk hfu; exact absurd hfu (Nat.not_lt_zero _)
  | succ k9 ih =>
    intro k_ b22 b23 hk hfu H locs ls hP hD hS hl kk0
    have hp10 : 2 ^ cc ≤ 1024 := Nat.pow_le_pow_right (n := 2) (by decide) hcc
    rcases Nat.lt_or_ge k_ (2 ^ cc) with hlt | hge
    · refine lv_iload_n hx hb dX2_chooseBest_17 rfl (lv_at hl 0 rfl) ?_
      refine lv_iconst (v := 1) hx hb dX2_chooseBest_18 (by decide) ?_
      refine lv_aload_n hx hb dX2_chooseBest_19 rfl (lv_at hl 1 rfl) ?_
      refine va_get (D := D) (ci := 2) (v := .int (iv 20)) (C := RX2) (T := TX2) (N := 16) hx hb hts (fun _ h9 => List.mem_cons_of_mem _ (List.mem_append_right _ h9)) hown hK hP 0 rfl rfl 12 (by decide) (hts (.fieldLink RX2 76 "BuoyTender$Planner" "count" "I") (by decide +kernel)) (fun _ h9 => h9) rfl dX2_chooseBest_20 ?_
      refine lv_topi (fun z_1 ez_1 => ?_)
      obtain rfl : z_1 = nI cc := ez_1.trans h_c
      refine lv_ishl hx hb dX2_chooseBest_23 ?_
      refine lv_topi (fun z_2 ez_2 => ?_)
      obtain rfl : z_2 = nI (2 ^ cc) := ez_2.trans (nx_shl1 (by omega))
      refine lv_icmp_ge (tgt := 98) hx hb dX2_chooseBest_24 (by decide) (fun c_3 => absurd c_3 (nI_ge hlt (by omega))) (fun c_3 => ?_)
      refine lv_aload_n hx hb dX2_chooseBest_27 rfl (lv_at hl 1 rfl) ?_
      refine va_get (D := D) (ci := 2) (v := .ref (a 24)) (C := RX2) (T := TX2) (N := 16) hx hb hts (fun _ h9 => List.mem_cons_of_mem _ (List.mem_append_right _ h9)) hown hK hP 0 rfl rfl 8 (by decide) (hts (.fieldLink RX2 36 "BuoyTender$Planner" "backs" "[I") (by decide +kernel)) (fun _ h9 => h9) rfl dX2_chooseBest_28 ?_
      refine lv_iload_n hx hb dX2_chooseBest_31 rfl (lv_at hl 0 rfl) ?_
      refine va_iald hx hb hK hP 2 0 rfl rfl (vp_in_nI (by omega) (by decide)) dX2_chooseBest_32 ?_
      refine lv_topi (fun z_4 ez_4 => ?_)
      obtain rfl : z_4 = (av 24) k_ := ez_4.trans (congrArg (av 24) (nI_clamp (by omega)))
      refine lv_ldc (v := 1000000) hx hb hown (hts (.constant RX2 131 1000000) (by decide +kernel)) dX2_chooseBest_33 ?_
      refine lv_icmp_eq (tgt := 92) hx hb dX2_chooseBest_35 (by decide) (fun c_5 => ?_) (fun c_5 => ?_)
      · refine lv_iinc (v := nI (k_ + 1)) (lv' := [(1, .int (nI (k_ + 1))), (0, .ref (a 6))]) hx hb dX2_chooseBest_92 hl (k := 0) rfl (nI_add k_ 1) (by decide) rfl (fun ls hl => ?_)
        refine lv_goto (tgt := 17) hx hb dX2_chooseBest_95 (by decide) ?_
        exact ih (k_ + 1) b22 b23 (by omega) (by omega) _ _ _ hP hD hS (lv_sub hl [0, 1] rfl) kk0
      refine lv_aload_n hx hb dX2_chooseBest_38 rfl (lv_at hl 1 rfl) ?_
      refine lv_iload_n hx hb dX2_chooseBest_39 rfl (lv_at hl 0 rfl) ?_
      refine lv_aload_n hx hb dX2_chooseBest_40 rfl (lv_at hl 1 rfl) ?_
      refine va_get (D := D) (ci := 2) (v := .ref (a 19)) (C := RX2) (T := TX2) (N := 16) hx hb hts (fun _ h9 => List.mem_cons_of_mem _ (List.mem_append_right _ h9)) hown hK hP 0 rfl rfl 3 (by decide) (hts (.fieldLink RX2 21 "BuoyTender$Planner" "weights" "[I") (by decide +kernel)) (fun _ h9 => h9) rfl dX2_chooseBest_41 ?_
      have hPc := hP.sub (ws' := [(a 6, .inr (2, [.ref (a 16), .ref (a 17), .ref (a 18), .ref (a 19), .ref (a 20), .ref (a 21), .ref (a 22), .ref (a 23), .ref (a 24), .ref (a 25), .ref (a 26), .ref (a 27), .int (iv 20), .int (iv 21), .int b22, .int b23])), (a 19, .inl (cI, 10, .inl (av 19)))]) [0, 1] rfl
      refine vp_callSi (va_Run.run (va_runV (As := [.int (nI k_), .ref (a 19)]) (rest := []) ⟨hx, hb, hml, hown, hts⟩ (k_X2_sumOver l D cI cJ cZ cM a (upd (upd iv 22 b22) 23 b23) (a 19) (av 19) cc h_c hcc (nI k_)) (cwV 2 hts gX2_chooseBest_X2_sumOver rfl rfl rfl (by decide +kernel) ⟨Nat.le_of_ble_eq_true rfl, Nat.le_of_ble_eq_true rfl⟩) (ro_V hG hPc (va_recv hK hPc (ci := 2) (q0 := 0) rfl rfl)) rfl rfl hl.1 rfl (lv_room (Nat.le_of_ble_eq_true rfl)) dX2_chooseBest_44 ⟨Nat.le_of_ble_eq_true rfl, Nat.le_of_ble_eq_true rfl⟩)) (fun r_6 h_6 => ?_)
      refine lv_istore_n (lv' := [(2, .int r_6), (1, .int (nI k_)), (0, .ref (a 6))]) hx hb dX2_chooseBest_47 rfl hl (by decide) rfl (fun ls hl => ?_)
      refine lv_iload_n hx hb dX2_chooseBest_48 rfl (lv_at hl 0 rfl) ?_
      refine lv_aload_n hx hb dX2_chooseBest_49 rfl (lv_at hl 2 rfl) ?_
      refine va_get (D := D) (ci := 2) (v := .int b22) (C := RX2) (T := TX2) (N := 16) hx hb hts (fun _ h9 => List.mem_cons_of_mem _ (List.mem_append_right _ h9)) hown hK hP 0 rfl rfl 14 (by decide) (hts (.fieldLink RX2 159 "BuoyTender$Planner" "bestWeight" "I") (by decide +kernel)) (fun _ h9 => h9) rfl dX2_chooseBest_50 ?_
      refine lv_icmp_gt (tgt := 77) hx hb dX2_chooseBest_53 (by decide) (fun c_7 => ?_) (fun c_7 => ?_)
      · refine lv_aload_n hx hb dX2_chooseBest_77 rfl (lv_at hl 2 rfl) ?_
        refine lv_iload_n hx hb dX2_chooseBest_78 rfl (lv_at hl 0 rfl) ?_
        refine va_put (D := D) (ci := 2) (v := .int r_6) (ty := (tyX2 14)) (C := RX2) (T := TX2) (N := 16) hx hb hts (fun _ h9 => List.mem_cons_of_mem _ (List.mem_append_right _ h9)) tyX2 tyX2_ok nmX2 hown hK hP hD hS 0 rfl rfl 14 (by decide) (hts (.fieldLink RX2 159 "BuoyTender$Planner" "bestWeight" "I") (by decide +kernel)) (fun _ h9 => h9) rfl (by decide +kernel) rfl rfl (Nat.le_of_ble_eq_true rfl) dX2_chooseBest_79 (fun H locs hP hD hS => ?_)
        have hP : va_P D vwCl [(a 6, .inr (2, [.ref (a 16), .ref (a 17), .ref (a 18), .ref (a 19), .ref (a 20), .ref (a 21), .ref (a 22), .ref (a 23), .ref (a 24), .ref (a 25), .ref (a 26), .ref (a 27), .int (iv 20), .int (iv 21), .int r_6, .int b23])), (a 19, .inl (cI, 10, .inl (av 19))), (a 24, .inl (cI, 1024, .inl (av 24)))] H := hP
        have hD : va_D A [(a 6, .inr (2, [.ref (a 16), .ref (a 17), .ref (a 18), .ref (a 19), .ref (a 20), .ref (a 21), .ref (a 22), .ref (a 23), .ref (a 24), .ref (a 25), .ref (a 26), .ref (a 27), .int (iv 20), .int (iv 21), .int r_6, .int b23])), (a 19, .inl (cI, 10, .inl (av 19))), (a 24, .inl (cI, 1024, .inl (av 24)))] := hD
        refine lv_aload_n hx hb dX2_chooseBest_82 rfl (lv_at hl 2 rfl) ?_
        refine lv_aload_n hx hb dX2_chooseBest_83 rfl (lv_at hl 2 rfl) ?_
        refine va_get (D := D) (ci := 2) (v := .ref (a 24)) (C := RX2) (T := TX2) (N := 16) hx hb hts (fun _ h9 => List.mem_cons_of_mem _ (List.mem_append_right _ h9)) hown hK hP 0 rfl rfl 8 (by decide) (hts (.fieldLink RX2 36 "BuoyTender$Planner" "backs" "[I") (by decide +kernel)) (fun _ h9 => h9) rfl dX2_chooseBest_84 ?_
        refine lv_iload_n hx hb dX2_chooseBest_87 rfl (lv_at hl 1 rfl) ?_
        refine va_iald hx hb hK hP 2 0 rfl rfl (vp_in_nI (by omega) (by decide)) dX2_chooseBest_88 ?_
        refine lv_topi (fun z_8 ez_8 => ?_)
        obtain rfl : z_8 = (av 24) k_ := ez_8.trans (congrArg (av 24) (nI_clamp (by omega)))
        refine va_put (D := D) (ci := 2) (v := .int ((av 24) k_)) (ty := (tyX2 15)) (C := RX2) (T := TX2) (N := 16) hx hb hts (fun _ h9 => List.mem_cons_of_mem _ (List.mem_append_right _ h9)) tyX2 tyX2_ok nmX2 hown hK hP hD hS 0 rfl rfl 15 (by decide) (hts (.fieldLink RX2 162 "BuoyTender$Planner" "bestBack" "I") (by decide +kernel)) (fun _ h9 => h9) rfl (by decide +kernel) rfl rfl (Nat.le_of_ble_eq_true rfl) dX2_chooseBest_89 (fun H locs hP hD hS => ?_)
        have hP : va_P D vwCl [(a 6, .inr (2, [.ref (a 16), .ref (a 17), .ref (a 18), .ref (a 19), .ref (a 20), .ref (a 21), .ref (a 22), .ref (a 23), .ref (a 24), .ref (a 25), .ref (a 26), .ref (a 27), .int (iv 20), .int (iv 21), .int r_6, .int ((av 24) k_)])), (a 19, .inl (cI, 10, .inl (av 19))), (a 24, .inl (cI, 1024, .inl (av 24)))] H := hP
        have hD : va_D A [(a 6, .inr (2, [.ref (a 16), .ref (a 17), .ref (a 18), .ref (a 19), .ref (a 20), .ref (a 21), .ref (a 22), .ref (a 23), .ref (a 24), .ref (a 25), .ref (a 26), .ref (a 27), .int (iv 20), .int (iv 21), .int r_6, .int ((av 24) k_)])), (a 19, .inl (cI, 10, .inl (av 19))), (a 24, .inl (cI, 1024, .inl (av 24)))] := hD
        refine lv_iinc (v := nI (k_ + 1)) (lv' := [(1, .int (nI (k_ + 1))), (2, .int r_6), (0, .ref (a 6))]) hx hb dX2_chooseBest_92 hl (k := 1) rfl (nI_add k_ 1) (by decide) rfl (fun ls hl => ?_)
        refine lv_goto (tgt := 17) hx hb dX2_chooseBest_95 (by decide) ?_
        exact ih (k_ + 1) r_6 ((av 24) k_) (by omega) (by omega) _ _ _ hP hD hS (lv_sub hl [0, 2] rfl) kk0
      refine lv_iload_n hx hb dX2_chooseBest_56 rfl (lv_at hl 0 rfl) ?_
      refine lv_aload_n hx hb dX2_chooseBest_57 rfl (lv_at hl 2 rfl) ?_
      refine va_get (D := D) (ci := 2) (v := .int b22) (C := RX2) (T := TX2) (N := 16) hx hb hts (fun _ h9 => List.mem_cons_of_mem _ (List.mem_append_right _ h9)) hown hK hP 0 rfl rfl 14 (by decide) (hts (.fieldLink RX2 159 "BuoyTender$Planner" "bestWeight" "I") (by decide +kernel)) (fun _ h9 => h9) rfl dX2_chooseBest_58 ?_
      refine lv_icmp_ne (tgt := 92) hx hb dX2_chooseBest_61 (by decide) (fun c_9 => ?_) (fun c_9 => ?_)
      · refine lv_iinc (v := nI (k_ + 1)) (lv' := [(1, .int (nI (k_ + 1))), (2, .int r_6), (0, .ref (a 6))]) hx hb dX2_chooseBest_92 hl (k := 1) rfl (nI_add k_ 1) (by decide) rfl (fun ls hl => ?_)
        refine lv_goto (tgt := 17) hx hb dX2_chooseBest_95 (by decide) ?_
        exact ih (k_ + 1) b22 b23 (by omega) (by omega) _ _ _ hP hD hS (lv_sub hl [0, 2] rfl) kk0
      refine lv_aload_n hx hb dX2_chooseBest_64 rfl (lv_at hl 2 rfl) ?_
      refine va_get (D := D) (ci := 2) (v := .ref (a 24)) (C := RX2) (T := TX2) (N := 16) hx hb hts (fun _ h9 => List.mem_cons_of_mem _ (List.mem_append_right _ h9)) hown hK hP 0 rfl rfl 8 (by decide) (hts (.fieldLink RX2 36 "BuoyTender$Planner" "backs" "[I") (by decide +kernel)) (fun _ h9 => h9) rfl dX2_chooseBest_65 ?_
      refine lv_iload_n hx hb dX2_chooseBest_68 rfl (lv_at hl 1 rfl) ?_
      refine va_iald hx hb hK hP 2 0 rfl rfl (vp_in_nI (by omega) (by decide)) dX2_chooseBest_69 ?_
      refine lv_topi (fun z_10 ez_10 => ?_)
      obtain rfl : z_10 = (av 24) k_ := ez_10.trans (congrArg (av 24) (nI_clamp (by omega)))
      refine lv_aload_n hx hb dX2_chooseBest_70 rfl (lv_at hl 2 rfl) ?_
      refine va_get (D := D) (ci := 2) (v := .int b23) (C := RX2) (T := TX2) (N := 16) hx hb hts (fun _ h9 => List.mem_cons_of_mem _ (List.mem_append_right _ h9)) hown hK hP 0 rfl rfl 15 (by decide) (hts (.fieldLink RX2 162 "BuoyTender$Planner" "bestBack" "I") (by decide +kernel)) (fun _ h9 => h9) rfl dX2_chooseBest_71 ?_
      refine lv_icmp_ge (tgt := 92) hx hb dX2_chooseBest_74 (by decide) (fun c_11 => ?_) (fun c_11 => ?_)
      · refine lv_iinc (v := nI (k_ + 1)) (lv' := [(1, .int (nI (k_ + 1))), (2, .int r_6), (0, .ref (a 6))]) hx hb dX2_chooseBest_92 hl (k := 1) rfl (nI_add k_ 1) (by decide) rfl (fun ls hl => ?_)
        refine lv_goto (tgt := 17) hx hb dX2_chooseBest_95 (by decide) ?_
        exact ih (k_ + 1) b22 b23 (by omega) (by omega) _ _ _ hP hD hS (lv_sub hl [0, 2] rfl) kk0
      refine lv_aload_n hx hb dX2_chooseBest_77 rfl (lv_at hl 2 rfl) ?_
      refine lv_iload_n hx hb dX2_chooseBest_78 rfl (lv_at hl 0 rfl) ?_
      refine va_put (D := D) (ci := 2) (v := .int r_6) (ty := (tyX2 14)) (C := RX2) (T := TX2) (N := 16) hx hb hts (fun _ h9 => List.mem_cons_of_mem _ (List.mem_append_right _ h9)) tyX2 tyX2_ok nmX2 hown hK hP hD hS 0 rfl rfl 14 (by decide) (hts (.fieldLink RX2 159 "BuoyTender$Planner" "bestWeight" "I") (by decide +kernel)) (fun _ h9 => h9) rfl (by decide +kernel) rfl rfl (Nat.le_of_ble_eq_true rfl) dX2_chooseBest_79 (fun H locs hP hD hS => ?_)
      have hP : va_P D vwCl [(a 6, .inr (2, [.ref (a 16), .ref (a 17), .ref (a 18), .ref (a 19), .ref (a 20), .ref (a 21), .ref (a 22), .ref (a 23), .ref (a 24), .ref (a 25), .ref (a 26), .ref (a 27), .int (iv 20), .int (iv 21), .int r_6, .int b23])), (a 19, .inl (cI, 10, .inl (av 19))), (a 24, .inl (cI, 1024, .inl (av 24)))] H := hP
      have hD : va_D A [(a 6, .inr (2, [.ref (a 16), .ref (a 17), .ref (a 18), .ref (a 19), .ref (a 20), .ref (a 21), .ref (a 22), .ref (a 23), .ref (a 24), .ref (a 25), .ref (a 26), .ref (a 27), .int (iv 20), .int (iv 21), .int r_6, .int b23])), (a 19, .inl (cI, 10, .inl (av 19))), (a 24, .inl (cI, 1024, .inl (av 24)))] := hD
      refine lv_aload_n hx hb dX2_chooseBest_82 rfl (lv_at hl 2 rfl) ?_
      refine lv_aload_n hx hb dX2_chooseBest_83 rfl (lv_at hl 2 rfl) ?_
      refine va_get (D := D) (ci := 2) (v := .ref (a 24)) (C := RX2) (T := TX2) (N := 16) hx hb hts (fun _ h9 => List.mem_cons_of_mem _ (List.mem_append_right _ h9)) hown hK hP 0 rfl rfl 8 (by decide) (hts (.fieldLink RX2 36 "BuoyTender$Planner" "backs" "[I") (by decide +kernel)) (fun _ h9 => h9) rfl dX2_chooseBest_84 ?_
      refine lv_iload_n hx hb dX2_chooseBest_87 rfl (lv_at hl 1 rfl) ?_
      refine va_iald hx hb hK hP 2 0 rfl rfl (vp_in_nI (by omega) (by decide)) dX2_chooseBest_88 ?_
      refine lv_topi (fun z_12 ez_12 => ?_)
      obtain rfl : z_12 = (av 24) k_ := ez_12.trans (congrArg (av 24) (nI_clamp (by omega)))
      refine va_put (D := D) (ci := 2) (v := .int ((av 24) k_)) (ty := (tyX2 15)) (C := RX2) (T := TX2) (N := 16) hx hb hts (fun _ h9 => List.mem_cons_of_mem _ (List.mem_append_right _ h9)) tyX2 tyX2_ok nmX2 hown hK hP hD hS 0 rfl rfl 15 (by decide) (hts (.fieldLink RX2 162 "BuoyTender$Planner" "bestBack" "I") (by decide +kernel)) (fun _ h9 => h9) rfl (by decide +kernel) rfl rfl (Nat.le_of_ble_eq_true rfl) dX2_chooseBest_89 (fun H locs hP hD hS => ?_)
      have hP : va_P D vwCl [(a 6, .inr (2, [.ref (a 16), .ref (a 17), .ref (a 18), .ref (a 19), .ref (a 20), .ref (a 21), .ref (a 22), .ref (a 23), .ref (a 24), .ref (a 25), .ref (a 26), .ref (a 27), .int (iv 20), .int (iv 21), .int r_6, .int ((av 24) k_)])), (a 19, .inl (cI, 10, .inl (av 19))), (a 24, .inl (cI, 1024, .inl (av 24)))] H := hP
      have hD : va_D A [(a 6, .inr (2, [.ref (a 16), .ref (a 17), .ref (a 18), .ref (a 19), .ref (a 20), .ref (a 21), .ref (a 22), .ref (a 23), .ref (a 24), .ref (a 25), .ref (a 26), .ref (a 27), .int (iv 20), .int (iv 21), .int r_6, .int ((av 24) k_)])), (a 19, .inl (cI, 10, .inl (av 19))), (a 24, .inl (cI, 1024, .inl (av 24)))] := hD
      refine lv_iinc (v := nI (k_ + 1)) (lv' := [(1, .int (nI (k_ + 1))), (2, .int r_6), (0, .ref (a 6))]) hx hb dX2_chooseBest_92 hl (k := 1) rfl (nI_add k_ 1) (by decide) rfl (fun ls hl => ?_)
      refine lv_goto (tgt := 17) hx hb dX2_chooseBest_95 (by decide) ?_
      exact ih (k_ + 1) r_6 ((av 24) k_) (by omega) (by omega) _ _ _ hP hD hS (lv_sub hl [0, 2] rfl) kk0
    · refine lv_iload_n hx hb dX2_chooseBest_17 rfl (lv_at hl 0 rfl) ?_
      refine lv_iconst (v := 1) hx hb dX2_chooseBest_18 (by decide) ?_
      refine lv_aload_n hx hb dX2_chooseBest_19 rfl (lv_at hl 1 rfl) ?_
      refine va_get (D := D) (ci := 2) (v := .int (iv 20)) (C := RX2) (T := TX2) (N := 16) hx hb hts (fun _ h9 => List.mem_cons_of_mem _ (List.mem_append_right _ h9)) hown hK hP 0 rfl rfl 12 (by decide) (hts (.fieldLink RX2 76 "BuoyTender$Planner" "count" "I") (by decide +kernel)) (fun _ h9 => h9) rfl dX2_chooseBest_20 ?_
      refine lv_topi (fun z_13 ez_13 => ?_)
      obtain rfl : z_13 = nI cc := ez_13.trans h_c
      refine lv_ishl hx hb dX2_chooseBest_23 ?_
      refine lv_topi (fun z_14 ez_14 => ?_)
      obtain rfl : z_14 = nI (2 ^ cc) := ez_14.trans (nx_shl1 (by omega))
      refine lv_icmp_ge (tgt := 98) hx hb dX2_chooseBest_24 (by decide) (fun c_15 => ?_) (fun c_15 => absurd (nI_le hge (by omega)) c_15)
      exact kk0 b22 b23 _ _ _  hP hD hS (lv_sub hl [1] rfl)
set_option maxHeartbeats 4000000 in
set_option maxRecDepth 100000 in
/-- X2_chooseBest -/
theorem k_X2_chooseBest (l : Launch) (D : va_G) (cI cJ cZ cM : Nat) (a : Nat → Nat) (iv : Nat → Int32) (av : Nat → Nat → Int32) (cc : Nat) (h_c : iv 20 = nI cc) (hcc : cc ≤ 10) (sz : Nat) : Met l yX2_chooseBest wsX2_chooseBest ({ frames := 2, cells := 0, slots := 0, locals := 45 } : Room) (RW D cI cJ cZ cM [.ref (a 6)] [(a 6, .inr (2, [.ref (a 16), .ref (a 17), .ref (a 18), .ref (a 19), .ref (a 20), .ref (a 21), .ref (a 22), .ref (a 23), .ref (a 24), .ref (a 25), .ref (a 26), .ref (a 27), .int (iv 20), .int (iv 21), .int (iv 22), .int (iv 23)])), (a 19, .inl (cI, 10, .inl (av 19))), (a 24, .inl (cI, 1024, .inl (av 24)))] sz) (va_Qv (S := Int32 × Int32) (fun u => True) (BB D (fun u => [(a 6, .inr (2, [.ref (a 16), .ref (a 17), .ref (a 18), .ref (a 19), .ref (a 20), .ref (a 21), .ref (a 22), .ref (a 23), .ref (a 24), .ref (a 25), .ref (a 26), .ref (a 27), .int (iv 20), .int (iv 21), .int u.1, .int u.2])), (a 19, .inl (cI, 10, .inl (av 19))), (a 24, .inl (cI, 1024, .inl (av 24)))]) (va_A [(a 6, .inr (2, [.ref (a 16), .ref (a 17), .ref (a 18), .ref (a 19), .ref (a 20), .ref (a 21), .ref (a 22), .ref (a 23), .ref (a 24), .ref (a 25), .ref (a 26), .ref (a 27), .int (iv 20), .int (iv 21), .int (iv 22), .int (iv 23)])), (a 19, .inl (cI, 10, .inl (av 19))), (a 24, .inl (cI, 1024, .inl (av 24)))] sz)) (va_A [(a 6, .inr (2, [.ref (a 16), .ref (a 17), .ref (a 18), .ref (a 19), .ref (a 20), .ref (a 21), .ref (a 22), .ref (a 23), .ref (a 24), .ref (a 25), .ref (a 26), .ref (a 27), .int (iv 20), .int (iv 21), .int (iv 22), .int (iv 23)])), (a 19, .inl (cI, 10, .inl (av 19))), (a 24, .inl (cI, 1024, .inl (av 24)))] sz)) 0 0 (va_A [(a 6, .inr (2, [.ref (a 16), .ref (a 17), .ref (a 18), .ref (a 19), .ref (a 20), .ref (a 21), .ref (a 22), .ref (a 23), .ref (a 24), .ref (a 25), .ref (a 26), .ref (a 27), .int (iv 20), .int (iv 21), .int (iv 22), .int (iv 23)])), (a 19, .inl (cI, 10, .inl (av 19))), (a 24, .inl (cI, 1024, .inl (av 24)))] sz) := by
  refine Met.ofW (cc := cX2_chooseBest) (maxL := 3) (ret := none) (by decide) rfl ?_
  intro p e s m args below meth c s₁ B hml hv
  obtain ⟨rfl, hsz, hG, hP, hD0⟩ := hv
  have hx := B.exec
  have hb := B.bytes
  have hr := B.returns
  have hts := atoms_spec (ws := wsX2_chooseBest) B.pre
  have hown : s.vm.findClass RX2 = some m.cls := findClass_of_methodNamed B.named
  have hlocks := B.notSynchronized
  have hK := hG.1
  have hN := hG.2
  subst hsz
  have hD := hD0.self (sz := s.heap.size)
  generalize hAe : va_A [(a 6, .inr (2, [.ref (a 16), .ref (a 17), .ref (a 18), .ref (a 19), .ref (a 20), .ref (a 21), .ref (a 22), .ref (a 23), .ref (a 24), .ref (a 25), .ref (a 26), .ref (a 27), .int (iv 20), .int (iv 21), .int (iv 22), .int (iv 23)])), (a 19, .inl (cI, 10, .inl (av 19))), (a 24, .inl (cI, 1024, .inl (av 24)))] s.heap.size = A at hD ⊢
  have hA : ∀ q : Nat, s.heap.size ≤ q → A q := fun q h => by rw [← hAe]; exact Or.inr h
  have hS : va_S A s.heap s.heap [] := va_S.rf
  have hP : va_P D vwCl [(a 6, .inr (2, [.ref (a 16), .ref (a 17), .ref (a 18), .ref (a 19), .ref (a 20), .ref (a 21), .ref (a 22), .ref (a 23), .ref (a 24), .ref (a 25), .ref (a 26), .ref (a 27), .int (iv 20), .int (iv 21), .int (iv 22), .int (iv 23)])), (a 19, .inl (cI, 10, .inl (av 19))), (a 24, .inl (cI, 1024, .inl (av 24)))] s.heap := hP
  have hl := lv_entry ([.ref (a 6)]) (n := 3) (Nat.le_of_ble_eq_true rfl)
  rw [lg_entry_eq]
  generalize (lg_sl ([.ref (a 6)]) ++ List.replicate (3 - (lg_sl ([.ref (a 6)])).length) Slot.unset).toArray = ls at hl ⊢
  have hl : lv_has ls 3 [(0, .ref (a 6))] := hl
  have hpos : 0 < 2 ^ cc := Nat.pow_pos (by decide)
  refine lv_aload_n hx hb dX2_chooseBest_0 rfl (lv_at hl 0 rfl) ?_
  refine lv_iconst (v := 0) hx hb dX2_chooseBest_1 (by decide) ?_
  refine va_put (D := D) (ci := 2) (v := .int 0) (ty := (tyX2 14)) (C := RX2) (T := TX2) (N := 16) hx hb hts (fun _ h9 => List.mem_cons_of_mem _ (List.mem_append_right _ h9)) tyX2 tyX2_ok nmX2 hown hK hP hD hS 0 rfl rfl 14 (by decide) (hts (.fieldLink RX2 159 "BuoyTender$Planner" "bestWeight" "I") (by decide +kernel)) (fun _ h9 => h9) rfl (by decide +kernel) rfl rfl (Nat.le_of_ble_eq_true rfl) dX2_chooseBest_2 (fun H locs hP hD hS => ?_)
  have hP : va_P D vwCl [(a 6, .inr (2, [.ref (a 16), .ref (a 17), .ref (a 18), .ref (a 19), .ref (a 20), .ref (a 21), .ref (a 22), .ref (a 23), .ref (a 24), .ref (a 25), .ref (a 26), .ref (a 27), .int (iv 20), .int (iv 21), .int 0, .int (iv 23)])), (a 19, .inl (cI, 10, .inl (av 19))), (a 24, .inl (cI, 1024, .inl (av 24)))] H := hP
  have hD : va_D A [(a 6, .inr (2, [.ref (a 16), .ref (a 17), .ref (a 18), .ref (a 19), .ref (a 20), .ref (a 21), .ref (a 22), .ref (a 23), .ref (a 24), .ref (a 25), .ref (a 26), .ref (a 27), .int (iv 20), .int (iv 21), .int 0, .int (iv 23)])), (a 19, .inl (cI, 10, .inl (av 19))), (a 24, .inl (cI, 1024, .inl (av 24)))] := hD
  refine lv_aload_n hx hb dX2_chooseBest_5 rfl (lv_at hl 0 rfl) ?_
  refine lv_aload_n hx hb dX2_chooseBest_6 rfl (lv_at hl 0 rfl) ?_
  refine va_get (D := D) (ci := 2) (v := .ref (a 24)) (C := RX2) (T := TX2) (N := 16) hx hb hts (fun _ h9 => List.mem_cons_of_mem _ (List.mem_append_right _ h9)) hown hK hP 0 rfl rfl 8 (by decide) (hts (.fieldLink RX2 36 "BuoyTender$Planner" "backs" "[I") (by decide +kernel)) (fun _ h9 => h9) rfl dX2_chooseBest_7 ?_
  refine lv_iconst (v := 0) hx hb dX2_chooseBest_10 (by decide) ?_
  refine va_iald hx hb hK hP 2 0 rfl rfl (vp_in_nI (n := 0) (N := 1024) (by decide) (by decide)) dX2_chooseBest_11 ?_
  refine lv_topi (fun z_1 ez_1 => ?_)
  obtain rfl : z_1 = (av 24) 0 := ez_1
  refine va_put (D := D) (ci := 2) (v := .int ((av 24) 0)) (ty := (tyX2 15)) (C := RX2) (T := TX2) (N := 16) hx hb hts (fun _ h9 => List.mem_cons_of_mem _ (List.mem_append_right _ h9)) tyX2 tyX2_ok nmX2 hown hK hP hD hS 0 rfl rfl 15 (by decide) (hts (.fieldLink RX2 162 "BuoyTender$Planner" "bestBack" "I") (by decide +kernel)) (fun _ h9 => h9) rfl (by decide +kernel) rfl rfl (Nat.le_of_ble_eq_true rfl) dX2_chooseBest_12 (fun H locs hP hD hS => ?_)
  have hP : va_P D vwCl [(a 6, .inr (2, [.ref (a 16), .ref (a 17), .ref (a 18), .ref (a 19), .ref (a 20), .ref (a 21), .ref (a 22), .ref (a 23), .ref (a 24), .ref (a 25), .ref (a 26), .ref (a 27), .int (iv 20), .int (iv 21), .int 0, .int ((av 24) 0)])), (a 19, .inl (cI, 10, .inl (av 19))), (a 24, .inl (cI, 1024, .inl (av 24)))] H := hP
  have hD : va_D A [(a 6, .inr (2, [.ref (a 16), .ref (a 17), .ref (a 18), .ref (a 19), .ref (a 20), .ref (a 21), .ref (a 22), .ref (a 23), .ref (a 24), .ref (a 25), .ref (a 26), .ref (a 27), .int (iv 20), .int (iv 21), .int 0, .int ((av 24) 0)])), (a 19, .inl (cI, 10, .inl (av 19))), (a 24, .inl (cI, 1024, .inl (av 24)))] := hD
  refine lv_iconst (v := 1) hx hb dX2_chooseBest_15 (by decide) ?_
  refine lv_istore_n (lv' := [(1, .int 1), (0, .ref (a 6))]) hx hb dX2_chooseBest_16 rfl hl (by decide) rfl (fun ls hl => ?_)
  refine lp_X2_chooseBest hx hb hml hts hown hG hA h_c hcc ((2 ^ cc) + 1) 1 0 ((av 24) 0) hpos (by omega) _ _ _ hP hD hS (lv_sub hl [0, 1] rfl) (fun b22_2 b23_2 H locs ls  hP hD hS hl => ?_)
  have hP9 := hP.sub (ws' := [(a 6, .inr (2, [.ref (a 16), .ref (a 17), .ref (a 18), .ref (a 19), .ref (a 20), .ref (a 21), .ref (a 22), .ref (a 23), .ref (a 24), .ref (a 25), .ref (a 26), .ref (a 27), .int (iv 20), .int (iv 21), .int b22_2, .int b23_2])), (a 19, .inl (cI, 10, .inl (av 19))), (a 24, .inl (cI, 1024, .inl (av 24)))]) [0, 1, 2] rfl
  have hD9 := hD.sub (ws' := [(a 6, .inr (2, [.ref (a 16), .ref (a 17), .ref (a 18), .ref (a 19), .ref (a 20), .ref (a 21), .ref (a 22), .ref (a 23), .ref (a 24), .ref (a 25), .ref (a 26), .ref (a 27), .int (iv 20), .int (iv 21), .int b22_2, .int b23_2])), (a 19, .inl (cI, 10, .inl (av 19))), (a 24, .inl (cI, 1024, .inl (av 24)))]) [0, 1, 2] (by decide) rfl
  exact W.vret hx hb hr (fun t ht hW => ⟨⟨(b22_2, b23_2), rfl, trivial, ⟨by rw [ht]; exact hP9, hD9⟩⟩, hS.F ht⟩) hS.2.2 dX2_chooseBest_98
set_option maxHeartbeats 4000000 in
set_option maxRecDepth 100000 in
/-- X2_latestEnd: the loop at 28 -/
theorem lp_X2_latestEnd {p : Program} {l : Launch} {e : Env} {s : State} {m : MethodId} {args : Array Value} {below : List Frame} {meth : Method} {c : Code} {Q : State → Prop} {D : va_G} {cI cJ cZ cM : Nat} {a : Nat → Nat} {iv : Nat → Int32} {av : Nat → Nat → Int32} {cc : Nat} {S : Nat} {j : Nat} {H : Heap} (hx : p.tables.exec = Jvm.exec) (hb : c.code = cX2_latestEnd) (hml : c.maxLocals = 6) (hts : ∀ w ∈ wsX2_latestEnd, w.before args s = true) (hown : s.vm.findClass RX2 = some m.cls) (hG : GK D cI cJ cZ cM s) (hP : va_P D vwCl [(a 6, .inr (2, [.ref (a 16), .ref (a 17), .ref (a 18), .ref (a 19), .ref (a 20), .ref (a 21), .ref (a 22), .ref (a 23), .ref (a 24), .ref (a 25), .ref (a 26), .ref (a 27), .int (iv 20), .int (iv 21), .int (iv 22), .int (iv 23)])), (a 17, .inl (cI, 10, .inl (av 17))), (a 20, .inl (cI, 121, .inl (av 20))), (a 22, .inl (cI, 240, .inl (av 22))), (a 23, .inl (cI, 10240, .inl (av 23)))] H) (h_c : iv 20 = nI cc) (hcc : cc ≤ 10) (hSS : S < 1024) (hj : j < 10) :
    ∀ (k9 : Nat) (k_ : Nat) (z : Int32), (k_ ≤ cc) → cc - k_ < k9 → ∀ (ls : Array Slot), lv_has ls 6 [(4, .int (nI k_)), (3, .int z), (0, .ref (a 6)), (1, .int (nI S)), (2, .int (nI j))] → (∀ (z : Int32) (ls : Array Slot), lv_has ls 6 [(3, .int z), (0, .ref (a 6)), (1, .int (nI S)), (2, .int (nI j))] → W p l e (headSpec wsX2_latestEnd ({ frames := 2, cells := 0, slots := 0, locals := 65 } : Room)).room s m args below meth c H [] 0 0 Q (F0 m 105 ls [])) → W p l e (headSpec wsX2_latestEnd ({ frames := 2, cells := 0, slots := 0, locals := 65 } : Room)).room s m args below meth c H [] 0 0 Q (F0 m 28 ls []) := by
  have hK := hG.1
  have hN := hG.2
  intro k9
  induction k9 with
  | zero => intro k_ z hk hfu; exact absurd hfu (Nat.not_lt_zero _)
  | succ k9 ih =>
    intro k_ z hk hfu ls hl kk0
    rcases Nat.lt_or_ge k_ cc with hlt | hge
    · refine lv_iload hx hb dX2_latestEnd_28 (lv_at hl 0 rfl) ?_
      refine lv_aload_n hx hb dX2_latestEnd_30 rfl (lv_at hl 2 rfl) ?_
      refine va_get (D := D) (ci := 2) (v := .int (iv 20)) (C := RX2) (T := TX2) (N := 16) hx hb hts (fun _ h9 => List.mem_cons_of_mem _ (List.mem_append_right _ h9)) hown hK hP 0 rfl rfl 12 (by decide) (hts (.fieldLink RX2 76 "BuoyTender$Planner" "count" "I") (by decide +kernel)) (fun _ h9 => h9) rfl dX2_latestEnd_31 ?_
      refine lv_topi (fun z_1 ez_1 => ?_)
      obtain rfl : z_1 = nI cc := ez_1.trans h_c
      refine lv_icmp_ge (tgt := 105) hx hb dX2_latestEnd_34 (by decide) (fun c_2 => absurd c_2 (nI_ge hlt (by omega))) (fun c_2 => ?_)
      refine lv_iload hx hb dX2_latestEnd_37 (lv_at hl 0 rfl) ?_
      refine lv_iload_n hx hb dX2_latestEnd_39 rfl (lv_at hl 3 rfl) ?_
      refine vp_callSi (va_Run.run (va_runS (As := [.int (nI k_), .int (nI S)]) (rest := []) ⟨hx, hb, hml, hown, hts⟩ (k_X2_isIn l (nI k_) (nI S)) (va_cwS 2 hts gX2_latestEnd_X2_isIn rfl rfl rfl (by decide +kernel) ⟨Nat.le_of_ble_eq_true rfl, Nat.le_of_ble_eq_true rfl⟩) preEq rfl rfl hl.1 rfl (lv_room (Nat.le_of_ble_eq_true rfl)) dX2_latestEnd_40 ⟨Nat.le_of_ble_eq_true rfl, Nat.le_of_ble_eq_true rfl⟩)) (fun r_3 h_3 => ?_)
      refine lv_if_eq (tgt := 99) hx hb dX2_latestEnd_43 (by decide) (fun c_4 => ?_) (fun c_4 => ?_)
      · refine lv_iinc (v := nI (k_ + 1)) (lv' := [(4, .int (nI (k_ + 1))), (3, .int z), (0, .ref (a 6)), (1, .int (nI S)), (2, .int (nI j))]) hx hb dX2_latestEnd_99 hl (k := 0) rfl (nI_add k_ 1) (by decide) rfl (fun ls hl => ?_)
        refine lv_goto (tgt := 28) hx hb dX2_latestEnd_102 (by decide) ?_
        exact ih (k_ + 1) z (by omega) (by omega) _ (lv_sub hl [0, 1, 2, 3, 4] rfl) kk0
      refine lv_aload_n hx hb dX2_latestEnd_46 rfl (lv_at hl 2 rfl) ?_
      refine lv_iload hx hb dX2_latestEnd_47 (lv_at hl 0 rfl) ?_
      refine lv_aload_n hx hb dX2_latestEnd_49 rfl (lv_at hl 2 rfl) ?_
      refine va_get (D := D) (ci := 2) (v := .ref (a 23)) (C := RX2) (T := TX2) (N := 16) hx hb hts (fun _ h9 => List.mem_cons_of_mem _ (List.mem_append_right _ h9)) hown hK hP 0 rfl rfl 7 (by decide) (hts (.fieldLink RX2 33 "BuoyTender$Planner" "ends" "[I") (by decide +kernel)) (fun _ h9 => h9) rfl dX2_latestEnd_50 ?_
      refine lv_iload hx hb dX2_latestEnd_53 (lv_at hl 0 rfl) ?_
      refine lv_iload_n hx hb dX2_latestEnd_55 rfl (lv_at hl 3 rfl) ?_
      refine vp_callSi (va_Run.run (va_runS (As := [.int (nI k_), .int (nI S)]) (rest := [.ref (a 23), .int (nI k_), .ref (a 6)]) ⟨hx, hb, hml, hown, hts⟩ (k_X2_without l (nI k_) S (by omega)) (va_cwS 2 hts gX2_latestEnd_X2_without rfl rfl rfl (by decide +kernel) ⟨Nat.le_of_ble_eq_true rfl, Nat.le_of_ble_eq_true rfl⟩) preEq rfl rfl hl.1 rfl (lv_room (Nat.le_of_ble_eq_true rfl)) dX2_latestEnd_56 ⟨Nat.le_of_ble_eq_true rfl, Nat.le_of_ble_eq_true rfl⟩)) (fun r_5 h_5 => ?_)
      obtain ⟨s_5, hs_5, rfl⟩ := h_5
      refine lv_bipush (v := 10) hx hb dX2_latestEnd_59 (by decide) ?_
      refine lv_imul hx hb dX2_latestEnd_61 ?_
      refine lv_topi (fun z_6 ez_6 => ?_)
      obtain rfl : z_6 = nI (s_5 * 10) := ez_6.trans (pk_mul s_5 10)
      refine lv_iload hx hb dX2_latestEnd_62 (lv_at hl 0 rfl) ?_
      refine lv_iadd hx hb dX2_latestEnd_64 ?_
      refine lv_topi (fun z_7 ez_7 => ?_)
      obtain rfl : z_7 = nI ((s_5 * 10) + k_) := ez_7.trans (nI_add (s_5 * 10) k_)
      refine va_iald hx hb hK hP 4 0 rfl rfl (vp_in_nI (by omega) (by decide)) dX2_latestEnd_65 ?_
      refine lv_topi (fun z_8 ez_8 => ?_)
      obtain rfl : z_8 = (av 23) ((s_5 * 10) + k_) := ez_8.trans (congrArg (av 23) (nI_clamp (by omega)))
      refine lv_aload_n hx hb dX2_latestEnd_66 rfl (lv_at hl 2 rfl) ?_
      refine va_get (D := D) (ci := 2) (v := .ref (a 17)) (C := RX2) (T := TX2) (N := 16) hx hb hts (fun _ h9 => List.mem_cons_of_mem _ (List.mem_append_right _ h9)) hown hK hP 0 rfl rfl 1 (by decide) (hts (.fieldLink RX2 15 "BuoyTender$Planner" "minutes" "[I") (by decide +kernel)) (fun _ h9 => h9) rfl dX2_latestEnd_67 ?_
      refine lv_iload hx hb dX2_latestEnd_70 (lv_at hl 0 rfl) ?_
      refine va_iald hx hb hK hP 1 0 rfl rfl (vp_in_nI (by omega) (by decide)) dX2_latestEnd_72 ?_
      refine lv_topi (fun z_9 ez_9 => ?_)
      obtain rfl : z_9 = (av 17) k_ := ez_9.trans (congrArg (av 17) (nI_clamp (by omega)))
      refine lv_isub hx hb dX2_latestEnd_73 ?_
      have hPc := hP.sub (ws' := [(a 6, .inr (2, [.ref (a 16), .ref (a 17), .ref (a 18), .ref (a 19), .ref (a 20), .ref (a 21), .ref (a 22), .ref (a 23), .ref (a 24), .ref (a 25), .ref (a 26), .ref (a 27), .int (iv 20), .int (iv 21), .int (iv 22), .int (iv 23)])), (a 22, .inl (cI, 240, .inl (av 22)))]) [0, 3] rfl
      refine vp_callSi (va_Run.run (va_runV (As := [.int (nI k_), .int (((av 23) ((s_5 * 10) + k_)) - ((av 17) k_))]) (rest := []) ⟨hx, hb, hml, hown, hts⟩ (k_X2_beginUpTo l D cI cJ cZ cM a iv av k_ (by omega) (((av 23) ((s_5 * 10) + k_)) - ((av 17) k_))) (cwV 2 hts gX2_latestEnd_X2_beginUpTo rfl rfl rfl (by decide +kernel) ⟨Nat.le_of_ble_eq_true rfl, Nat.le_of_ble_eq_true rfl⟩) (ro_V hG hPc (va_recv hK hPc (ci := 2) (q0 := 0) rfl rfl)) rfl rfl hl.1 rfl (lv_room (Nat.le_of_ble_eq_true rfl)) dX2_latestEnd_74 ⟨Nat.le_of_ble_eq_true rfl, Nat.le_of_ble_eq_true rfl⟩)) (fun r_10 h_10 => ?_)
      refine lv_istore (lv' := [(5, .int r_10), (4, .int (nI k_)), (3, .int z), (0, .ref (a 6)), (1, .int (nI S)), (2, .int (nI j))]) hx hb dX2_latestEnd_77 hl (by decide) rfl (fun ls hl => ?_)
      refine lv_iload_n hx hb dX2_latestEnd_79 rfl (lv_at hl 2 rfl) ?_
      refine lv_iload hx hb dX2_latestEnd_80 (lv_at hl 0 rfl) ?_
      refine lv_aload_n hx hb dX2_latestEnd_82 rfl (lv_at hl 3 rfl) ?_
      refine va_get (D := D) (ci := 2) (v := .ref (a 20)) (C := RX2) (T := TX2) (N := 16) hx hb hts (fun _ h9 => List.mem_cons_of_mem _ (List.mem_append_right _ h9)) hown hK hP 0 rfl rfl 4 (by decide) (hts (.fieldLink RX2 24 "BuoyTender$Planner" "ways" "[I") (by decide +kernel)) (fun _ h9 => h9) rfl dX2_latestEnd_83 ?_
      refine lv_iload_n hx hb dX2_latestEnd_86 rfl (lv_at hl 5 rfl) ?_
      refine lv_bipush (v := 11) hx hb dX2_latestEnd_87 (by decide) ?_
      refine lv_imul hx hb dX2_latestEnd_89 ?_
      refine lv_topi (fun z_11 ez_11 => ?_)
      obtain rfl : z_11 = nI (j * 11) := ez_11.trans (pk_mul j 11)
      refine lv_iload hx hb dX2_latestEnd_90 (lv_at hl 1 rfl) ?_
      refine lv_iadd hx hb dX2_latestEnd_92 ?_
      refine lv_topi (fun z_12 ez_12 => ?_)
      obtain rfl : z_12 = nI ((j * 11) + k_) := ez_12.trans (nI_add (j * 11) k_)
      refine va_iald hx hb hK hP 2 0 rfl rfl (vp_in_nI (by omega) (by decide)) dX2_latestEnd_93 ?_
      refine lv_topi (fun z_13 ez_13 => ?_)
      obtain rfl : z_13 = (av 20) ((j * 11) + k_) := ez_13.trans (congrArg (av 20) (nI_clamp (by omega)))
      refine lv_isub hx hb dX2_latestEnd_94 ?_
      refine va_mmax hx hb (hml.trans hl.1.symm) hown (hts (.methodLink RX2 121 Lib.Math.max.name) (by decide +kernel)) (hts (.static Lib.Math.max.name) (by decide +kernel)) (hts (.initialized "java/lang/Math") (by decide +kernel)) (hts (.code Lib.Math.max.name Lib.Math.max.code 2 (some .int)) (by decide +kernel)) (Nat.le_of_ble_eq_true rfl) (Nat.le_of_ble_eq_true rfl) (Nat.le_of_ble_eq_true rfl) (Nat.le_of_ble_eq_true rfl) dX2_latestEnd_95 ?_
      refine lv_topi (fun z_14 ez_14 => ?_)
      refine lv_istore_n (lv' := [(3, .int z_14), (5, .int r_10), (4, .int (nI k_)), (0, .ref (a 6)), (1, .int (nI S)), (2, .int (nI j))]) hx hb dX2_latestEnd_98 rfl hl (by decide) rfl (fun ls hl => ?_)
      refine lv_iinc (v := nI (k_ + 1)) (lv' := [(4, .int (nI (k_ + 1))), (3, .int z_14), (5, .int r_10), (0, .ref (a 6)), (1, .int (nI S)), (2, .int (nI j))]) hx hb dX2_latestEnd_99 hl (k := 2) rfl (nI_add k_ 1) (by decide) rfl (fun ls hl => ?_)
      refine lv_goto (tgt := 28) hx hb dX2_latestEnd_102 (by decide) ?_
      exact ih (k_ + 1) z_14 (by omega) (by omega) _ (lv_sub hl [0, 1, 3, 4, 5] rfl) kk0
    · refine lv_iload hx hb dX2_latestEnd_28 (lv_at hl 0 rfl) ?_
      refine lv_aload_n hx hb dX2_latestEnd_30 rfl (lv_at hl 2 rfl) ?_
      refine va_get (D := D) (ci := 2) (v := .int (iv 20)) (C := RX2) (T := TX2) (N := 16) hx hb hts (fun _ h9 => List.mem_cons_of_mem _ (List.mem_append_right _ h9)) hown hK hP 0 rfl rfl 12 (by decide) (hts (.fieldLink RX2 76 "BuoyTender$Planner" "count" "I") (by decide +kernel)) (fun _ h9 => h9) rfl dX2_latestEnd_31 ?_
      refine lv_topi (fun z_15 ez_15 => ?_)
      obtain rfl : z_15 = nI cc := ez_15.trans h_c
      refine lv_icmp_ge (tgt := 105) hx hb dX2_latestEnd_34 (by decide) (fun c_16 => ?_) (fun c_16 => absurd (nI_le hge (by omega)) c_16)
      exact kk0 z _  (lv_sub hl [1, 2, 3, 4] rfl)
set_option maxHeartbeats 4000000 in
set_option maxRecDepth 100000 in
/-- X2_latestEnd -/
theorem k_X2_latestEnd (l : Launch) (D : va_G) (cI cJ cZ cM : Nat) (a : Nat → Nat) (iv : Nat → Int32) (av : Nat → Nat → Int32) (cc : Nat) (h_c : iv 20 = nI cc) (hcc : cc ≤ 10) (S : Nat) (hSS : S < 1024) (j : Nat) (hj : j < 10) : Met l yX2_latestEnd wsX2_latestEnd ({ frames := 2, cells := 0, slots := 0, locals := 65 } : Room) (RO D cI cJ cZ cM [.ref (a 6), .int (nI S), .int (nI j)] [(a 6, .inr (2, [.ref (a 16), .ref (a 17), .ref (a 18), .ref (a 19), .ref (a 20), .ref (a 21), .ref (a 22), .ref (a 23), .ref (a 24), .ref (a 25), .ref (a 26), .ref (a 27), .int (iv 20), .int (iv 21), .int (iv 22), .int (iv 23)])), (a 17, .inl (cI, 10, .inl (av 17))), (a 20, .inl (cI, 121, .inl (av 20))), (a 22, .inl (cI, 240, .inl (av 22))), (a 23, .inl (cI, 10240, .inl (av 23)))]) (vp_Si (fun r => True)) 0 0 (fun _ => False) := by
  refine Met.ofW (cc := cX2_latestEnd) (maxL := 6) (ret := (some .int)) (by decide) rfl ?_
  intro p e s m args below meth c s₁ B hml hv
  obtain ⟨rfl, hG, hP⟩ := hv
  have hx := B.exec
  have hb := B.bytes
  have hr := B.returns
  have hts := atoms_spec (ws := wsX2_latestEnd) B.pre
  have hown : s.vm.findClass RX2 = some m.cls := findClass_of_methodNamed B.named
  have hlocks := B.notSynchronized
  have hK := hG.1
  have hN := hG.2
  have hl := lv_entry ([.ref (a 6), .int (nI S), .int (nI j)]) (n := 6) (Nat.le_of_ble_eq_true rfl)
  rw [lg_entry_eq]
  generalize (lg_sl ([.ref (a 6), .int (nI S), .int (nI j)]) ++ List.replicate (6 - (lg_sl ([.ref (a 6), .int (nI S), .int (nI j)])).length) Slot.unset).toArray = ls at hl ⊢
  have hl : lv_has ls 6 [(0, .ref (a 6)), (1, .int (nI S)), (2, .int (nI j))] := hl
  refine lv_iload_n hx hb dX2_latestEnd_0 rfl (lv_at hl 1 rfl) ?_
  refine lv_if_ne (tgt := 22) hx hb dX2_latestEnd_1 (by decide) (fun c_1 => ?_) (fun c_1 => ?_)
  · refine lv_ldc (v := (-1000000)) hx hb hown (hts (.constant RX2 132 (-1000000)) (by decide +kernel)) dX2_latestEnd_22 ?_
    refine lv_istore_n (lv' := [(3, .int (-1000000)), (0, .ref (a 6)), (1, .int (nI S)), (2, .int (nI j))]) hx hb dX2_latestEnd_24 rfl hl (by decide) rfl (fun ls hl => ?_)
    refine lv_iconst (v := 0) hx hb dX2_latestEnd_25 (by decide) ?_
    refine lv_istore (lv' := [(4, .int 0), (3, .int (-1000000)), (0, .ref (a 6)), (1, .int (nI S)), (2, .int (nI j))]) hx hb dX2_latestEnd_26 hl (by decide) rfl (fun ls hl => ?_)
    have hPl := hP.sub (ws' := [(a 6, .inr (2, [.ref (a 16), .ref (a 17), .ref (a 18), .ref (a 19), .ref (a 20), .ref (a 21), .ref (a 22), .ref (a 23), .ref (a 24), .ref (a 25), .ref (a 26), .ref (a 27), .int (iv 20), .int (iv 21), .int (iv 22), .int (iv 23)])), (a 17, .inl (cI, 10, .inl (av 17))), (a 20, .inl (cI, 121, .inl (av 20))), (a 22, .inl (cI, 240, .inl (av 22))), (a 23, .inl (cI, 10240, .inl (av 23)))]) [0, 1, 2, 3, 4] rfl
    refine lp_X2_latestEnd hx hb hml hts hown hG hPl h_c hcc hSS hj (cc + 1) 0 (-1000000) (Nat.zero_le _) (by omega) _ (lv_sub hl [0, 1, 2, 3, 4] rfl) (fun z_2 ls  hl => ?_)
    refine lv_iload_n hx hb dX2_latestEnd_105 rfl (lv_at hl 0 rfl) ?_
    exact W.iret (v := z_2) hx hb hr (fun t ht hW => ⟨z_2, rfl, trivial, ht⟩) (fun _ h => by cases h) dX2_latestEnd_106
  refine lv_aload_n hx hb dX2_latestEnd_4 rfl (lv_at hl 0 rfl) ?_
  refine va_get (D := D) (ci := 2) (v := .int (iv 23)) (C := RX2) (T := TX2) (N := 16) hx hb hts (fun _ h9 => List.mem_cons_of_mem _ (List.mem_append_right _ h9)) hown hK hP 0 rfl rfl 15 (by decide) (hts (.fieldLink RX2 162 "BuoyTender$Planner" "bestBack" "I") (by decide +kernel)) (fun _ h9 => h9) rfl dX2_latestEnd_5 ?_
  refine lv_aload_n hx hb dX2_latestEnd_8 rfl (lv_at hl 0 rfl) ?_
  refine va_get (D := D) (ci := 2) (v := .ref (a 20)) (C := RX2) (T := TX2) (N := 16) hx hb hts (fun _ h9 => List.mem_cons_of_mem _ (List.mem_append_right _ h9)) hown hK hP 0 rfl rfl 4 (by decide) (hts (.fieldLink RX2 24 "BuoyTender$Planner" "ways" "[I") (by decide +kernel)) (fun _ h9 => h9) rfl dX2_latestEnd_9 ?_
  refine lv_iload_n hx hb dX2_latestEnd_12 rfl (lv_at hl 2 rfl) ?_
  refine lv_bipush (v := 11) hx hb dX2_latestEnd_13 (by decide) ?_
  refine lv_imul hx hb dX2_latestEnd_15 ?_
  refine lv_topi (fun z_3 ez_3 => ?_)
  obtain rfl : z_3 = nI (j * 11) := ez_3.trans (pk_mul j 11)
  refine lv_bipush (v := 10) hx hb dX2_latestEnd_16 (by decide) ?_
  refine lv_iadd hx hb dX2_latestEnd_18 ?_
  refine lv_topi (fun z_4 ez_4 => ?_)
  obtain rfl : z_4 = nI ((j * 11) + 10) := ez_4.trans (nI_add (j * 11) 10)
  refine va_iald hx hb hK hP 2 0 rfl rfl (vp_in_nI (by omega) (by decide)) dX2_latestEnd_19 ?_
  refine lv_topi (fun z_5 ez_5 => ?_)
  obtain rfl : z_5 = (av 20) ((j * 11) + 10) := ez_5.trans (congrArg (av 20) (nI_clamp (by omega)))
  refine lv_isub hx hb dX2_latestEnd_20 ?_
  exact W.iret (v := ((iv 23) - ((av 20) ((j * 11) + 10)))) hx hb hr (fun t ht hW => ⟨((iv 23) - ((av 20) ((j * 11) + 10))), rfl, trivial, ht⟩) (fun _ h => by cases h) dX2_latestEnd_21
set_option maxHeartbeats 4000000 in
set_option maxRecDepth 100000 in
/-- X2_findLatestEnds: the loop at 14 -/
theorem lp_X2_fleI {p : Program} {l : Launch} {e : Env} {s : State} {m : MethodId} {args : Array Value} {below : List Frame} {meth : Method} {c : Code} {Q : State → Prop} {D : va_G} {cI cJ cZ cM : Nat} {a : Nat → Nat} {iv : Nat → Int32} {av : Nat → Nat → Int32} {cc : Nat} {s_ : Nat} {A : Nat → Prop} (hx : p.tables.exec = Jvm.exec) (hb : c.code = cX2_findLatestEnds) (hml : c.maxLocals = 3) (hts : ∀ w ∈ wsX2_findLatestEnds, w.before args s = true) (hown : s.vm.findClass RX2 = some m.cls) (hG : GK D cI cJ cZ cM s) (hA : ∀ q : Nat, s.heap.size ≤ q → A q) (h_c : iv 20 = nI cc) (hcc : cc ≤ 10) (hs_ : s_ < 1024) :
    ∀ (k9 : Nat) (k_ : Nat) (f23 : Nat → Int32), (k_ ≤ cc) → cc - k_ < k9 → ∀ (H : Heap) (locs : List Loc) (ls : Array Slot), va_P D vwCl [(a 6, .inr (2, [.ref (a 16), .ref (a 17), .ref (a 18), .ref (a 19), .ref (a 20), .ref (a 21), .ref (a 22), .ref (a 23), .ref (a 24), .ref (a 25), .ref (a 26), .ref (a 27), .int (iv 20), .int (iv 21), .int (iv 22), .int (iv 23)])), (a 17, .inl (cI, 10, .inl (av 17))), (a 20, .inl (cI, 121, .inl (av 20))), (a 22, .inl (cI, 240, .inl (av 22))), (a 23, .inl (cI, 10240, .inl f23))] H → va_D A [(a 6, .inr (2, [.ref (a 16), .ref (a 17), .ref (a 18), .ref (a 19), .ref (a 20), .ref (a 21), .ref (a 22), .ref (a 23), .ref (a 24), .ref (a 25), .ref (a 26), .ref (a 27), .int (iv 20), .int (iv 21), .int (iv 22), .int (iv 23)])), (a 17, .inl (cI, 10, .inl (av 17))), (a 20, .inl (cI, 121, .inl (av 20))), (a 22, .inl (cI, 240, .inl (av 22))), (a 23, .inl (cI, 10240, .inl f23))] → va_S A s.heap H locs → lv_has ls 3 [(2, .int (nI k_)), (1, .int (nI s_)), (0, .ref (a 6))] → (∀ (f23 : Nat → Int32) (H : Heap) (locs : List Loc) (ls : Array Slot), va_P D vwCl [(a 6, .inr (2, [.ref (a 16), .ref (a 17), .ref (a 18), .ref (a 19), .ref (a 20), .ref (a 21), .ref (a 22), .ref (a 23), .ref (a 24), .ref (a 25), .ref (a 26), .ref (a 27), .int (iv 20), .int (iv 21), .int (iv 22), .int (iv 23)])), (a 17, .inl (cI, 10, .inl (av 17))), (a 20, .inl (cI, 121, .inl (av 20))), (a 22, .inl (cI, 240, .inl (av 22))), (a 23, .inl (cI, 10240, .inl f23))] H → va_D A [(a 6, .inr (2, [.ref (a 16), .ref (a 17), .ref (a 18), .ref (a 19), .ref (a 20), .ref (a 21), .ref (a 22), .ref (a 23), .ref (a 24), .ref (a 25), .ref (a 26), .ref (a 27), .int (iv 20), .int (iv 21), .int (iv 22), .int (iv 23)])), (a 17, .inl (cI, 10, .inl (av 17))), (a 20, .inl (cI, 121, .inl (av 20))), (a 22, .inl (cI, 240, .inl (av 22))), (a 23, .inl (cI, 10240, .inl f23))] → va_S A s.heap H locs → lv_has ls 3 [(1, .int (nI s_)), (0, .ref (a 6))] → W p l e (headSpec wsX2_findLatestEnds ({ frames := 3, cells := 0, slots := 0, locals := 90 } : Room)).room s m args below meth c H locs 0 0 Q (F0 m 58 ls [])) → W p l e (headSpec wsX2_findLatestEnds ({ frames := 3, cells := 0, slots := 0, locals := 90 } : Room)).room s m args below meth c H locs 0 0 Q (F0 m 14 ls []) := by
  have hK := hG.1
  have hN := hG.2
  intro k9
  induction k9 with
  | zero => intro k_ f23 hk hfu; exact absurd hfu (Nat.not_lt_zero _)
  | succ k9 ih =>
    intro k_ f23 hk hfu H locs ls hP hD hS hl kk0
    rcases Nat.lt_or_ge k_ cc with hlt | hge
    · refine lv_iload_n hx hb dX2_findLatestEnds_14 rfl (lv_at hl 0 rfl) ?_
      refine lv_aload_n hx hb dX2_findLatestEnds_15 rfl (lv_at hl 2 rfl) ?_
      refine va_get (D := D) (ci := 2) (v := .int (iv 20)) (C := RX2) (T := TX2) (N := 16) hx hb hts (fun _ h9 => List.mem_cons_of_mem _ (List.mem_append_right _ h9)) hown hK hP 0 rfl rfl 12 (by decide) (hts (.fieldLink RX2 76 "BuoyTender$Planner" "count" "I") (by decide +kernel)) (fun _ h9 => h9) rfl dX2_findLatestEnds_16 ?_
      refine lv_topi (fun z_1 ez_1 => ?_)
      obtain rfl : z_1 = nI cc := ez_1.trans h_c
      refine lv_icmp_ge (tgt := 58) hx hb dX2_findLatestEnds_19 (by decide) (fun c_2 => absurd c_2 (nI_ge hlt (by omega))) (fun c_2 => ?_)
      refine lv_aload_n hx hb dX2_findLatestEnds_22 rfl (lv_at hl 2 rfl) ?_
      refine va_get (D := D) (ci := 2) (v := .ref (a 23)) (C := RX2) (T := TX2) (N := 16) hx hb hts (fun _ h9 => List.mem_cons_of_mem _ (List.mem_append_right _ h9)) hown hK hP 0 rfl rfl 7 (by decide) (hts (.fieldLink RX2 33 "BuoyTender$Planner" "ends" "[I") (by decide +kernel)) (fun _ h9 => h9) rfl dX2_findLatestEnds_23 ?_
      refine lv_iload_n hx hb dX2_findLatestEnds_26 rfl (lv_at hl 1 rfl) ?_
      refine lv_bipush (v := 10) hx hb dX2_findLatestEnds_27 (by decide) ?_
      refine lv_imul hx hb dX2_findLatestEnds_29 ?_
      refine lv_topi (fun z_3 ez_3 => ?_)
      obtain rfl : z_3 = nI (s_ * 10) := ez_3.trans (pk_mul s_ 10)
      refine lv_iload_n hx hb dX2_findLatestEnds_30 rfl (lv_at hl 0 rfl) ?_
      refine lv_iadd hx hb dX2_findLatestEnds_31 ?_
      refine lv_topi (fun z_4 ez_4 => ?_)
      obtain rfl : z_4 = nI ((s_ * 10) + k_) := ez_4.trans (nI_add (s_ * 10) k_)
      refine lv_iload_n hx hb dX2_findLatestEnds_32 rfl (lv_at hl 0 rfl) ?_
      refine lv_iload_n hx hb dX2_findLatestEnds_33 rfl (lv_at hl 1 rfl) ?_
      refine vp_callSi (va_Run.run (va_runS (As := [.int (nI k_), .int (nI s_)]) (rest := [.int (nI ((s_ * 10) + k_)), .ref (a 23)]) ⟨hx, hb, hml, hown, hts⟩ (k_X2_isIn l (nI k_) (nI s_)) (va_cwS 2 hts gX2_findLatestEnds_X2_isIn rfl rfl rfl (by decide +kernel) ⟨Nat.le_of_ble_eq_true rfl, Nat.le_of_ble_eq_true rfl⟩) preEq rfl rfl hl.1 rfl (lv_room (Nat.le_of_ble_eq_true rfl)) dX2_findLatestEnds_34 ⟨Nat.le_of_ble_eq_true rfl, Nat.le_of_ble_eq_true rfl⟩)) (fun r_5 h_5 => ?_)
      refine lv_if_eq (tgt := 45) hx hb dX2_findLatestEnds_37 (by decide) (fun c_6 => ?_) (fun c_6 => ?_)
      · refine lv_aload_n hx hb dX2_findLatestEnds_45 rfl (lv_at hl 2 rfl) ?_
        refine lv_iload_n hx hb dX2_findLatestEnds_46 rfl (lv_at hl 1 rfl) ?_
        refine lv_iload_n hx hb dX2_findLatestEnds_47 rfl (lv_at hl 0 rfl) ?_
        have hPc := hP.sub (ws' := [(a 6, .inr (2, [.ref (a 16), .ref (a 17), .ref (a 18), .ref (a 19), .ref (a 20), .ref (a 21), .ref (a 22), .ref (a 23), .ref (a 24), .ref (a 25), .ref (a 26), .ref (a 27), .int (iv 20), .int (iv 21), .int (iv 22), .int (iv 23)])), (a 17, .inl (cI, 10, .inl (av 17))), (a 20, .inl (cI, 121, .inl (av 20))), (a 22, .inl (cI, 240, .inl (av 22))), (a 23, .inl (cI, 10240, .inl f23))]) [0, 1, 2, 3, 4] rfl
        refine vp_callSi (va_Run.run (va_runV (As := [.int (nI s_), .int (nI k_)]) (rest := [.int (nI ((s_ * 10) + k_)), .ref (a 23)]) ⟨hx, hb, hml, hown, hts⟩ (k_X2_latestEnd l D cI cJ cZ cM a iv (vset av 23 f23) cc h_c hcc s_ (by omega) k_ (by omega)) (cwV 2 hts gX2_findLatestEnds_X2_latestEnd rfl rfl rfl (by decide +kernel) ⟨Nat.le_of_ble_eq_true rfl, Nat.le_of_ble_eq_true rfl⟩) (ro_V hG hPc (va_recv hK hPc (ci := 2) (q0 := 0) rfl rfl)) rfl rfl hl.1 rfl (lv_room (Nat.le_of_ble_eq_true rfl)) dX2_findLatestEnds_48 ⟨Nat.le_of_ble_eq_true rfl, Nat.le_of_ble_eq_true rfl⟩)) (fun r_7 h_7 => ?_)
        refine va_iast hx hb hK hP hD hS 4 0 rfl rfl (vp_in_nI (by omega) (by decide)) dX2_findLatestEnds_51 (fun H locs hP hD hS => ?_)
        rw [nI_clamp (by omega)] at hP hD
        have hP : va_P D vwCl [(a 6, .inr (2, [.ref (a 16), .ref (a 17), .ref (a 18), .ref (a 19), .ref (a 20), .ref (a 21), .ref (a 22), .ref (a 23), .ref (a 24), .ref (a 25), .ref (a 26), .ref (a 27), .int (iv 20), .int (iv 21), .int (iv 22), .int (iv 23)])), (a 17, .inl (cI, 10, .inl (av 17))), (a 20, .inl (cI, 121, .inl (av 20))), (a 22, .inl (cI, 240, .inl (av 22))), (a 23, .inl (cI, 10240, .inl (upd f23 ((s_ * 10) + k_) r_7)))] H := hP
        have hD : va_D A [(a 6, .inr (2, [.ref (a 16), .ref (a 17), .ref (a 18), .ref (a 19), .ref (a 20), .ref (a 21), .ref (a 22), .ref (a 23), .ref (a 24), .ref (a 25), .ref (a 26), .ref (a 27), .int (iv 20), .int (iv 21), .int (iv 22), .int (iv 23)])), (a 17, .inl (cI, 10, .inl (av 17))), (a 20, .inl (cI, 121, .inl (av 20))), (a 22, .inl (cI, 240, .inl (av 22))), (a 23, .inl (cI, 10240, .inl (upd f23 ((s_ * 10) + k_) r_7)))] := hD
        refine lv_iinc (v := nI (k_ + 1)) (lv' := [(2, .int (nI (k_ + 1))), (1, .int (nI s_)), (0, .ref (a 6))]) hx hb dX2_findLatestEnds_52 hl (k := 0) rfl (nI_add k_ 1) (by decide) rfl (fun ls hl => ?_)
        refine lv_goto (tgt := 14) hx hb dX2_findLatestEnds_55 (by decide) ?_
        exact ih (k_ + 1) (upd f23 ((s_ * 10) + k_) r_7) (by omega) (by omega) _ _ _ hP hD hS (lv_sub hl [0, 1, 2] rfl) kk0
      refine lv_ldc (v := (-1000000)) hx hb hown (hts (.constant RX2 132 (-1000000)) (by decide +kernel)) dX2_findLatestEnds_40 ?_
      refine lv_goto (tgt := 51) hx hb dX2_findLatestEnds_42 (by decide) ?_
      refine va_iast hx hb hK hP hD hS 4 0 rfl rfl (vp_in_nI (by omega) (by decide)) dX2_findLatestEnds_51 (fun H locs hP hD hS => ?_)
      rw [nI_clamp (by omega)] at hP hD
      have hP : va_P D vwCl [(a 6, .inr (2, [.ref (a 16), .ref (a 17), .ref (a 18), .ref (a 19), .ref (a 20), .ref (a 21), .ref (a 22), .ref (a 23), .ref (a 24), .ref (a 25), .ref (a 26), .ref (a 27), .int (iv 20), .int (iv 21), .int (iv 22), .int (iv 23)])), (a 17, .inl (cI, 10, .inl (av 17))), (a 20, .inl (cI, 121, .inl (av 20))), (a 22, .inl (cI, 240, .inl (av 22))), (a 23, .inl (cI, 10240, .inl (upd f23 ((s_ * 10) + k_) (-1000000))))] H := hP
      have hD : va_D A [(a 6, .inr (2, [.ref (a 16), .ref (a 17), .ref (a 18), .ref (a 19), .ref (a 20), .ref (a 21), .ref (a 22), .ref (a 23), .ref (a 24), .ref (a 25), .ref (a 26), .ref (a 27), .int (iv 20), .int (iv 21), .int (iv 22), .int (iv 23)])), (a 17, .inl (cI, 10, .inl (av 17))), (a 20, .inl (cI, 121, .inl (av 20))), (a 22, .inl (cI, 240, .inl (av 22))), (a 23, .inl (cI, 10240, .inl (upd f23 ((s_ * 10) + k_) (-1000000))))] := hD
      refine lv_iinc (v := nI (k_ + 1)) (lv' := [(2, .int (nI (k_ + 1))), (1, .int (nI s_)), (0, .ref (a 6))]) hx hb dX2_findLatestEnds_52 hl (k := 0) rfl (nI_add k_ 1) (by decide) rfl (fun ls hl => ?_)
      refine lv_goto (tgt := 14) hx hb dX2_findLatestEnds_55 (by decide) ?_
      exact ih (k_ + 1) (upd f23 ((s_ * 10) + k_) (-1000000)) (by omega) (by omega) _ _ _ hP hD hS (lv_sub hl [0, 1, 2] rfl) kk0
    · refine lv_iload_n hx hb dX2_findLatestEnds_14 rfl (lv_at hl 0 rfl) ?_
      refine lv_aload_n hx hb dX2_findLatestEnds_15 rfl (lv_at hl 2 rfl) ?_
      refine va_get (D := D) (ci := 2) (v := .int (iv 20)) (C := RX2) (T := TX2) (N := 16) hx hb hts (fun _ h9 => List.mem_cons_of_mem _ (List.mem_append_right _ h9)) hown hK hP 0 rfl rfl 12 (by decide) (hts (.fieldLink RX2 76 "BuoyTender$Planner" "count" "I") (by decide +kernel)) (fun _ h9 => h9) rfl dX2_findLatestEnds_16 ?_
      refine lv_topi (fun z_8 ez_8 => ?_)
      obtain rfl : z_8 = nI cc := ez_8.trans h_c
      refine lv_icmp_ge (tgt := 58) hx hb dX2_findLatestEnds_19 (by decide) (fun c_9 => ?_) (fun c_9 => absurd (nI_le hge (by omega)) c_9)
      exact kk0 f23 _ _ _  hP hD hS (lv_sub hl [1, 2] rfl)
set_option maxHeartbeats 4000000 in
set_option maxRecDepth 100000 in
/-- X2_findLatestEnds: the loop at 2 -/
theorem lp_X2_fleO {p : Program} {l : Launch} {e : Env} {s : State} {m : MethodId} {args : Array Value} {below : List Frame} {meth : Method} {c : Code} {Q : State → Prop} {D : va_G} {cI cJ cZ cM : Nat} {a : Nat → Nat} {iv : Nat → Int32} {av : Nat → Nat → Int32} {cc : Nat} {A : Nat → Prop} (hx : p.tables.exec = Jvm.exec) (hb : c.code = cX2_findLatestEnds) (hml : c.maxLocals = 3) (hts : ∀ w ∈ wsX2_findLatestEnds, w.before args s = true) (hown : s.vm.findClass RX2 = some m.cls) (hG : GK D cI cJ cZ cM s) (hA : ∀ q : Nat, s.heap.size ≤ q → A q) (h_c : iv 20 = nI cc) (hcc : cc ≤ 10) :
    ∀ (k9 : Nat) (k_ : Nat) (f23 : Nat → Int32), (k_ ≤ 2 ^ cc) → (2 ^ cc) - k_ < k9 → ∀ (H : Heap) (locs : List Loc) (ls : Array Slot), va_P D vwCl [(a 6, .inr (2, [.ref (a 16), .ref (a 17), .ref (a 18), .ref (a 19), .ref (a 20), .ref (a 21), .ref (a 22), .ref (a 23), .ref (a 24), .ref (a 25), .ref (a 26), .ref (a 27), .int (iv 20), .int (iv 21), .int (iv 22), .int (iv 23)])), (a 17, .inl (cI, 10, .inl (av 17))), (a 20, .inl (cI, 121, .inl (av 20))), (a 22, .inl (cI, 240, .inl (av 22))), (a 23, .inl (cI, 10240, .inl f23))] H → va_D A [(a 6, .inr (2, [.ref (a 16), .ref (a 17), .ref (a 18), .ref (a 19), .ref (a 20), .ref (a 21), .ref (a 22), .ref (a 23), .ref (a 24), .ref (a 25), .ref (a 26), .ref (a 27), .int (iv 20), .int (iv 21), .int (iv 22), .int (iv 23)])), (a 17, .inl (cI, 10, .inl (av 17))), (a 20, .inl (cI, 121, .inl (av 20))), (a 22, .inl (cI, 240, .inl (av 22))), (a 23, .inl (cI, 10240, .inl f23))] → va_S A s.heap H locs → lv_has ls 3 [(1, .int (nI k_)), (0, .ref (a 6))] → (∀ (f23 : Nat → Int32) (H : Heap) (locs : List Loc) (ls : Array Slot), va_P D vwCl [(a 6, .inr (2, [.ref (a 16), .ref (a 17), .ref (a 18), .ref (a 19), .ref (a 20), .ref (a 21), .ref (a 22), .ref (a 23), .ref (a 24), .ref (a 25), .ref (a 26), .ref (a 27), .int (iv 20), .int (iv 21), .int (iv 22), .int (iv 23)])), (a 17, .inl (cI, 10, .inl (av 17))), (a 20, .inl (cI, 121, .inl (av 20))), (a 22, .inl (cI, 240, .inl (av 22))), (a 23, .inl (cI, 10240, .inl f23))] H → va_D A [(a 6, .inr (2, [.ref (a 16), .ref (a 17), .ref (a 18), .ref (a 19), .ref (a 20), .ref (a 21), .ref (a 22), .ref (a 23), .ref (a 24), .ref (a 25), .ref (a 26), .ref (a 27), .int (iv 20), .int (iv 21), .int (iv 22), .int (iv 23)])), (a 17, .inl (cI, 10, .inl (av 17))), (a 20, .inl (cI, 121, .inl (av 20))), (a 22, .inl (cI, 240, .inl (av 22))), (a 23, .inl (cI, 10240, .inl f23))] → va_S A s.heap H locs → lv_has ls 3 [(0, .ref (a 6))] → W p l e (headSpec wsX2_findLatestEnds ({ frames := 3, cells := 0, slots := 0, locals := 90 } : Room)).room s m args below meth c H locs 0 0 Q (F0 m 64 ls [])) → W p l e (headSpec wsX2_findLatestEnds ({ frames := 3, cells := 0, slots := 0, locals := 90 } : Room)).room s m args below meth c H locs 0 0 Q (F0 m 2 ls []) := by
  have hK := hG.1
  have hN := hG.2
  intro k9
  induction k9 with
  | zero => intro k_ f23 hk hfu; exact absurd hfu (Nat.not_lt_zero _)
  | succ k9 ih =>
    intro k_ f23 hk hfu H locs ls hP hD hS hl kk0
    have hp10 : 2 ^ cc ≤ 1024 := Nat.pow_le_pow_right (n := 2) (by decide) hcc
    rcases Nat.lt_or_ge k_ (2 ^ cc) with hlt | hge
    · refine lv_iload_n hx hb dX2_findLatestEnds_2 rfl (lv_at hl 0 rfl) ?_
      refine lv_iconst (v := 1) hx hb dX2_findLatestEnds_3 (by decide) ?_
      refine lv_aload_n hx hb dX2_findLatestEnds_4 rfl (lv_at hl 1 rfl) ?_
      refine va_get (D := D) (ci := 2) (v := .int (iv 20)) (C := RX2) (T := TX2) (N := 16) hx hb hts (fun _ h9 => List.mem_cons_of_mem _ (List.mem_append_right _ h9)) hown hK hP 0 rfl rfl 12 (by decide) (hts (.fieldLink RX2 76 "BuoyTender$Planner" "count" "I") (by decide +kernel)) (fun _ h9 => h9) rfl dX2_findLatestEnds_5 ?_
      refine lv_topi (fun z_1 ez_1 => ?_)
      obtain rfl : z_1 = nI cc := ez_1.trans h_c
      refine lv_ishl hx hb dX2_findLatestEnds_8 ?_
      refine lv_topi (fun z_2 ez_2 => ?_)
      obtain rfl : z_2 = nI (2 ^ cc) := ez_2.trans (nx_shl1 (by omega))
      refine lv_icmp_ge (tgt := 64) hx hb dX2_findLatestEnds_9 (by decide) (fun c_3 => absurd c_3 (nI_ge hlt (by omega))) (fun c_3 => ?_)
      refine lv_iconst (v := 0) hx hb dX2_findLatestEnds_12 (by decide) ?_
      refine lv_istore_n (lv' := [(2, .int 0), (1, .int (nI k_)), (0, .ref (a 6))]) hx hb dX2_findLatestEnds_13 rfl hl (by decide) rfl (fun ls hl => ?_)
      refine lp_X2_fleI hx hb hml hts hown hG hA h_c hcc (by omega) (cc + 1) 0 f23 (Nat.zero_le _) (by omega) _ _ _ hP hD hS (lv_sub hl [0, 1, 2] rfl) (fun f23_4 H locs ls  hP hD hS hl => ?_)
      refine lv_iinc (v := nI (k_ + 1)) (lv' := [(1, .int (nI (k_ + 1))), (0, .ref (a 6))]) hx hb dX2_findLatestEnds_58 hl (k := 0) rfl (nI_add k_ 1) (by decide) rfl (fun ls hl => ?_)
      refine lv_goto (tgt := 2) hx hb dX2_findLatestEnds_61 (by decide) ?_
      exact ih (k_ + 1) f23_4 (by omega) (by omega) _ _ _ hP hD hS (lv_sub hl [0, 1] rfl) kk0
    · refine lv_iload_n hx hb dX2_findLatestEnds_2 rfl (lv_at hl 0 rfl) ?_
      refine lv_iconst (v := 1) hx hb dX2_findLatestEnds_3 (by decide) ?_
      refine lv_aload_n hx hb dX2_findLatestEnds_4 rfl (lv_at hl 1 rfl) ?_
      refine va_get (D := D) (ci := 2) (v := .int (iv 20)) (C := RX2) (T := TX2) (N := 16) hx hb hts (fun _ h9 => List.mem_cons_of_mem _ (List.mem_append_right _ h9)) hown hK hP 0 rfl rfl 12 (by decide) (hts (.fieldLink RX2 76 "BuoyTender$Planner" "count" "I") (by decide +kernel)) (fun _ h9 => h9) rfl dX2_findLatestEnds_5 ?_
      refine lv_topi (fun z_5 ez_5 => ?_)
      obtain rfl : z_5 = nI cc := ez_5.trans h_c
      refine lv_ishl hx hb dX2_findLatestEnds_8 ?_
      refine lv_topi (fun z_6 ez_6 => ?_)
      obtain rfl : z_6 = nI (2 ^ cc) := ez_6.trans (nx_shl1 (by omega))
      refine lv_icmp_ge (tgt := 64) hx hb dX2_findLatestEnds_9 (by decide) (fun c_7 => ?_) (fun c_7 => absurd (nI_le hge (by omega)) c_7)
      exact kk0 f23 _ _ _  hP hD hS (lv_sub hl [1] rfl)
set_option maxHeartbeats 4000000 in
set_option maxRecDepth 100000 in
/-- X2_findLatestEnds -/
theorem k_X2_findLatestEnds (l : Launch) (D : va_G) (cI cJ cZ cM : Nat) (a : Nat → Nat) (iv : Nat → Int32) (av : Nat → Nat → Int32) (cc : Nat) (h_c : iv 20 = nI cc) (hcc : cc ≤ 10) (sz : Nat) : Met l yX2_findLatestEnds wsX2_findLatestEnds ({ frames := 3, cells := 0, slots := 0, locals := 90 } : Room) (RW D cI cJ cZ cM [.ref (a 6)] [(a 6, .inr (2, [.ref (a 16), .ref (a 17), .ref (a 18), .ref (a 19), .ref (a 20), .ref (a 21), .ref (a 22), .ref (a 23), .ref (a 24), .ref (a 25), .ref (a 26), .ref (a 27), .int (iv 20), .int (iv 21), .int (iv 22), .int (iv 23)])), (a 17, .inl (cI, 10, .inl (av 17))), (a 20, .inl (cI, 121, .inl (av 20))), (a 22, .inl (cI, 240, .inl (av 22))), (a 23, .inl (cI, 10240, .inl (av 23)))] sz) (va_Qv (S := (Nat → Int32)) (fun u => True) (BB D (fun u => [(a 6, .inr (2, [.ref (a 16), .ref (a 17), .ref (a 18), .ref (a 19), .ref (a 20), .ref (a 21), .ref (a 22), .ref (a 23), .ref (a 24), .ref (a 25), .ref (a 26), .ref (a 27), .int (iv 20), .int (iv 21), .int (iv 22), .int (iv 23)])), (a 17, .inl (cI, 10, .inl (av 17))), (a 20, .inl (cI, 121, .inl (av 20))), (a 22, .inl (cI, 240, .inl (av 22))), (a 23, .inl (cI, 10240, .inl u))]) (va_A [(a 6, .inr (2, [.ref (a 16), .ref (a 17), .ref (a 18), .ref (a 19), .ref (a 20), .ref (a 21), .ref (a 22), .ref (a 23), .ref (a 24), .ref (a 25), .ref (a 26), .ref (a 27), .int (iv 20), .int (iv 21), .int (iv 22), .int (iv 23)])), (a 17, .inl (cI, 10, .inl (av 17))), (a 20, .inl (cI, 121, .inl (av 20))), (a 22, .inl (cI, 240, .inl (av 22))), (a 23, .inl (cI, 10240, .inl (av 23)))] sz)) (va_A [(a 6, .inr (2, [.ref (a 16), .ref (a 17), .ref (a 18), .ref (a 19), .ref (a 20), .ref (a 21), .ref (a 22), .ref (a 23), .ref (a 24), .ref (a 25), .ref (a 26), .ref (a 27), .int (iv 20), .int (iv 21), .int (iv 22), .int (iv 23)])), (a 17, .inl (cI, 10, .inl (av 17))), (a 20, .inl (cI, 121, .inl (av 20))), (a 22, .inl (cI, 240, .inl (av 22))), (a 23, .inl (cI, 10240, .inl (av 23)))] sz)) 0 0 (va_A [(a 6, .inr (2, [.ref (a 16), .ref (a 17), .ref (a 18), .ref (a 19), .ref (a 20), .ref (a 21), .ref (a 22), .ref (a 23), .ref (a 24), .ref (a 25), .ref (a 26), .ref (a 27), .int (iv 20), .int (iv 21), .int (iv 22), .int (iv 23)])), (a 17, .inl (cI, 10, .inl (av 17))), (a 20, .inl (cI, 121, .inl (av 20))), (a 22, .inl (cI, 240, .inl (av 22))), (a 23, .inl (cI, 10240, .inl (av 23)))] sz) := by
  refine Met.ofW (cc := cX2_findLatestEnds) (maxL := 3) (ret := none) (by decide) rfl ?_
  intro p e s m args below meth c s₁ B hml hv
  obtain ⟨rfl, hsz, hG, hP, hD0⟩ := hv
  have hx := B.exec
  have hb := B.bytes
  have hr := B.returns
  have hts := atoms_spec (ws := wsX2_findLatestEnds) B.pre
  have hown : s.vm.findClass RX2 = some m.cls := findClass_of_methodNamed B.named
  have hlocks := B.notSynchronized
  have hK := hG.1
  have hN := hG.2
  subst hsz
  have hD := hD0.self (sz := s.heap.size)
  generalize hAe : va_A [(a 6, .inr (2, [.ref (a 16), .ref (a 17), .ref (a 18), .ref (a 19), .ref (a 20), .ref (a 21), .ref (a 22), .ref (a 23), .ref (a 24), .ref (a 25), .ref (a 26), .ref (a 27), .int (iv 20), .int (iv 21), .int (iv 22), .int (iv 23)])), (a 17, .inl (cI, 10, .inl (av 17))), (a 20, .inl (cI, 121, .inl (av 20))), (a 22, .inl (cI, 240, .inl (av 22))), (a 23, .inl (cI, 10240, .inl (av 23)))] s.heap.size = A at hD ⊢
  have hA : ∀ q : Nat, s.heap.size ≤ q → A q := fun q h => by rw [← hAe]; exact Or.inr h
  have hS : va_S A s.heap s.heap [] := va_S.rf
  have hP : va_P D vwCl [(a 6, .inr (2, [.ref (a 16), .ref (a 17), .ref (a 18), .ref (a 19), .ref (a 20), .ref (a 21), .ref (a 22), .ref (a 23), .ref (a 24), .ref (a 25), .ref (a 26), .ref (a 27), .int (iv 20), .int (iv 21), .int (iv 22), .int (iv 23)])), (a 17, .inl (cI, 10, .inl (av 17))), (a 20, .inl (cI, 121, .inl (av 20))), (a 22, .inl (cI, 240, .inl (av 22))), (a 23, .inl (cI, 10240, .inl (av 23)))] s.heap := hP
  have hl := lv_entry ([.ref (a 6)]) (n := 3) (Nat.le_of_ble_eq_true rfl)
  rw [lg_entry_eq]
  generalize (lg_sl ([.ref (a 6)]) ++ List.replicate (3 - (lg_sl ([.ref (a 6)])).length) Slot.unset).toArray = ls at hl ⊢
  have hl : lv_has ls 3 [(0, .ref (a 6))] := hl
  have hpos : 0 < 2 ^ cc := Nat.pow_pos (by decide)
  refine lv_iconst (v := 0) hx hb dX2_findLatestEnds_0 (by decide) ?_
  refine lv_istore_n (lv' := [(1, .int 0), (0, .ref (a 6))]) hx hb dX2_findLatestEnds_1 rfl hl (by decide) rfl (fun ls hl => ?_)
  refine lp_X2_fleO hx hb hml hts hown hG hA h_c hcc ((2 ^ cc) + 1) 0 (av 23) (Nat.zero_le _) (by omega) _ _ _ hP hD hS (lv_sub hl [0, 1] rfl) (fun f23_1 H locs ls  hP hD hS hl => ?_)
  have hP9 := hP.sub (ws' := [(a 6, .inr (2, [.ref (a 16), .ref (a 17), .ref (a 18), .ref (a 19), .ref (a 20), .ref (a 21), .ref (a 22), .ref (a 23), .ref (a 24), .ref (a 25), .ref (a 26), .ref (a 27), .int (iv 20), .int (iv 21), .int (iv 22), .int (iv 23)])), (a 17, .inl (cI, 10, .inl (av 17))), (a 20, .inl (cI, 121, .inl (av 20))), (a 22, .inl (cI, 240, .inl (av 22))), (a 23, .inl (cI, 10240, .inl f23_1))]) [0, 1, 2, 3, 4] rfl
  have hD9 := hD.sub (ws' := [(a 6, .inr (2, [.ref (a 16), .ref (a 17), .ref (a 18), .ref (a 19), .ref (a 20), .ref (a 21), .ref (a 22), .ref (a 23), .ref (a 24), .ref (a 25), .ref (a 26), .ref (a 27), .int (iv 20), .int (iv 21), .int (iv 22), .int (iv 23)])), (a 17, .inl (cI, 10, .inl (av 17))), (a 20, .inl (cI, 121, .inl (av 20))), (a 22, .inl (cI, 240, .inl (av 22))), (a 23, .inl (cI, 10240, .inl f23_1))]) [0, 1, 2, 3, 4] (by decide) rfl
  exact W.vret hx hb hr (fun t ht hW => ⟨⟨f23_1, rfl, trivial, ⟨by rw [ht]; exact hP9, hD9⟩⟩, hS.F ht⟩) hS.2.2 dX2_findLatestEnds_64
