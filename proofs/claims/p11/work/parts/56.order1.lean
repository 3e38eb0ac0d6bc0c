theorem nI_nm1 {n : Nat} (h : n < 2 ^ 31) : ¬ nI n = -1 := fun q => by
  have := nI_gt_m1 h
  rw [q] at this
  exact Int32.lt_irrefl this
theorem rows_s10 {c m : Nat} {f : Nat → Int32} (h : ∀ j, j < c → ∃ i, i < 10 ∧ f j = nI i) (hm : m < 10) : ∀ j, j < c + 1 → ∃ i, i < 10 ∧ upd f c (nI m) j = nI i := rows_s h hm
set_option maxHeartbeats 4000000 in
set_option maxRecDepth 100000 in
/-- X2_lowestNext: the loop at 3 -/
theorem lp_X2_lowestNext {p : Program} {l : Launch} {e : Env} {s : State} {m : MethodId} {args : Array Value} {below : List Frame} {meth : Method} {c : Code} {Q : State → Prop} {D : va_G} {cI cJ cZ cM : Nat} {a : Nat → Nat} {iv : Nat → Int32} {av : Nat → Nat → Int32} {cc : Nat} {S : Nat} {h_ : Nat} {x1 : Int32} {H : Heap} (hx : p.tables.exec = Jvm.exec) (hb : c.code = cX2_lowestNext) (hml : c.maxLocals = 6) (hts : ∀ w ∈ wsX2_lowestNext, w.before args s = true) (hown : s.vm.findClass RX2 = some m.cls) (hG : GK D cI cJ cZ cM s) (hP : va_P D vwCl [(a 6, .inr (2, [.ref (a 16), .ref (a 17), .ref (a 18), .ref (a 19), .ref (a 20), .ref (a 21), .ref (a 22), .ref (a 23), .ref (a 24), .ref (a 25), .ref (a 26), .ref (a 27), .int (iv 20), .int (iv 21), .int (iv 22), .int (iv 23)])), (a 17, .inl (cI, 10, .inl (av 17))), (a 20, .inl (cI, 121, .inl (av 20))), (a 21, .inl (cI, 240, .inl (av 21))), (a 23, .inl (cI, 10240, .inl (av 23)))] H) (h_c : iv 20 = nI cc) (hcc : cc ≤ 10) (hSS : S < 1024) (hh_ : h_ ≤ 10) :
    ∀ (k9 : Nat) (k_ : Nat), (k_ ≤ cc) → cc - k_ < k9 → ∀ (ls : Array Slot), lv_has ls 6 [(4, .int (nI k_)), (0, .ref (a 6)), (1, .int (nI S)), (2, .int (nI h_)), (3, .int x1)] → (∀  (ls : Array Slot), lv_has ls 6 [(0, .ref (a 6)), (1, .int (nI S)), (2, .int (nI h_)), (3, .int x1)] → W p l e (headSpec wsX2_lowestNext ({ frames := 1, cells := 0, slots := 0, locals := 24 } : Room)).room s m args below meth c H [] 0 0 Q (F0 m 82 ls [])) → (∀ (k_ : Nat) (ls : Array Slot), (k_ < cc) → lv_has ls 6 [(0, .ref (a 6)), (1, .int (nI S)), (2, .int (nI h_)), (3, .int x1)] → W p l e (headSpec wsX2_lowestNext ({ frames := 1, cells := 0, slots := 0, locals := 24 } : Room)).room s m args below meth c H [] 0 0 Q (F0 m 75 ls [.int (nI k_)])) → W p l e (headSpec wsX2_lowestNext ({ frames := 1, cells := 0, slots := 0, locals := 24 } : Room)).room s m args below meth c H [] 0 0 Q (F0 m 3 ls []) := by
  have hK := hG.1
  have hN := hG.2
  intro k9
  induction k9 with
  | zero => intro k_ hk hfu; exact absurd hfu (Nat.not_lt_zero _)
  | succ k9 ih =>
    intro k_ hk hfu ls hl kk0 kk1
    rcases Nat.lt_or_ge k_ cc with hlt | hge
    · refine lv_iload hx hb dX2_lowestNext_3 (lv_at hl 0 rfl) ?_
      refine lv_aload_n hx hb dX2_lowestNext_5 rfl (lv_at hl 1 rfl) ?_
      refine va_get (D := D) (ci := 2) (v := .int (iv 20)) (C := RX2) (T := TX2) (N := 16) hx hb hts (fun _ h9 => List.mem_cons_of_mem _ (List.mem_append_right _ h9)) hown hK hP 0 rfl rfl 12 (by decide) (hts (.fieldLink RX2 76 "BuoyTender$Planner" "count" "I") (by decide +kernel)) (fun _ h9 => h9) rfl dX2_lowestNext_6 ?_
      refine lv_topi (fun z_1 ez_1 => ?_)
      obtain rfl : z_1 = nI cc := ez_1.trans h_c
      refine lv_icmp_ge (tgt := 82) hx hb dX2_lowestNext_9 (by decide) (fun c_2 => absurd c_2 (nI_ge hlt (by omega))) (fun c_2 => ?_)
      refine lv_iload hx hb dX2_lowestNext_12 (lv_at hl 0 rfl) ?_
      refine lv_iload_n hx hb dX2_lowestNext_14 rfl (lv_at hl 2 rfl) ?_
      refine vp_callSi (va_Run.run (va_runS (As := [.int (nI k_), .int (nI S)]) (rest := []) ⟨hx, hb, hml, hown, hts⟩ (k_X2_isIn l (nI k_) (nI S)) (va_cwS 2 hts gX2_lowestNext_X2_isIn rfl rfl rfl (by decide +kernel) ⟨Nat.le_of_ble_eq_true rfl, Nat.le_of_ble_eq_true rfl⟩) preEq rfl rfl hl.1 rfl (lv_room (Nat.le_of_ble_eq_true rfl)) dX2_lowestNext_15 ⟨Nat.le_of_ble_eq_true rfl, Nat.le_of_ble_eq_true rfl⟩)) (fun r_3 h_3 => ?_)
      refine lv_if_eq (tgt := 76) hx hb dX2_lowestNext_18 (by decide) (fun c_4 => ?_) (fun c_4 => ?_)
      · refine lv_iinc (v := nI (k_ + 1)) (lv' := [(4, .int (nI (k_ + 1))), (0, .ref (a 6)), (1, .int (nI S)), (2, .int (nI h_)), (3, .int x1)]) hx hb dX2_lowestNext_76 hl (k := 0) rfl (nI_add k_ 1) (by decide) rfl (fun ls hl => ?_)
        refine lv_goto (tgt := 3) hx hb dX2_lowestNext_79 (by decide) ?_
        exact ih (k_ + 1) (by omega) (by omega) _ (lv_sub hl [0, 1, 2, 3, 4] rfl) kk0 kk1
      refine lv_aload_n hx hb dX2_lowestNext_21 rfl (lv_at hl 1 rfl) ?_
      refine lv_iload hx hb dX2_lowestNext_22 (lv_at hl 0 rfl) ?_
      refine lv_iload_n hx hb dX2_lowestNext_24 rfl (lv_at hl 4 rfl) ?_
      refine lv_aload_n hx hb dX2_lowestNext_25 rfl (lv_at hl 1 rfl) ?_
      refine va_get (D := D) (ci := 2) (v := .ref (a 20)) (C := RX2) (T := TX2) (N := 16) hx hb hts (fun _ h9 => List.mem_cons_of_mem _ (List.mem_append_right _ h9)) hown hK hP 0 rfl rfl 4 (by decide) (hts (.fieldLink RX2 24 "BuoyTender$Planner" "ways" "[I") (by decide +kernel)) (fun _ h9 => h9) rfl dX2_lowestNext_26 ?_
      refine lv_iload_n hx hb dX2_lowestNext_29 rfl (lv_at hl 3 rfl) ?_
      refine lv_bipush (v := 11) hx hb dX2_lowestNext_30 (by decide) ?_
      refine lv_imul hx hb dX2_lowestNext_32 ?_
      refine lv_topi (fun z_5 ez_5 => ?_)
      obtain rfl : z_5 = nI (h_ * 11) := ez_5.trans (pk_mul h_ 11)
      refine lv_iload hx hb dX2_lowestNext_33 (lv_at hl 0 rfl) ?_
      refine lv_iadd hx hb dX2_lowestNext_35 ?_
      refine lv_topi (fun z_6 ez_6 => ?_)
      obtain rfl : z_6 = nI ((h_ * 11) + k_) := ez_6.trans (nI_add (h_ * 11) k_)
      refine va_iald hx hb hK hP 2 0 rfl rfl (vp_in_nI (by omega) (by decide)) dX2_lowestNext_36 ?_
      refine lv_topi (fun z_7 ez_7 => ?_)
      obtain rfl : z_7 = (av 20) ((h_ * 11) + k_) := ez_7.trans (congrArg (av 20) (nI_clamp (by omega)))
      refine lv_iadd hx hb dX2_lowestNext_37 ?_
      have hPc := hP.sub (ws' := [(a 6, .inr (2, [.ref (a 16), .ref (a 17), .ref (a 18), .ref (a 19), .ref (a 20), .ref (a 21), .ref (a 22), .ref (a 23), .ref (a 24), .ref (a 25), .ref (a 26), .ref (a 27), .int (iv 20), .int (iv 21), .int (iv 22), .int (iv 23)])), (a 21, .inl (cI, 240, .inl (av 21)))]) [0, 3] rfl
      refine vp_callSi (va_Run.run (va_runV (As := [.int (nI k_), .int (x1 + ((av 20) ((h_ * 11) + k_)))]) (rest := []) ⟨hx, hb, hml, hown, hts⟩ (k_X2_beginFrom l D cI cJ cZ cM a iv av k_ (by omega) (x1 + ((av 20) ((h_ * 11) + k_)))) (cwV 2 hts gX2_lowestNext_X2_beginFrom rfl rfl rfl (by decide +kernel) ⟨Nat.le_of_ble_eq_true rfl, Nat.le_of_ble_eq_true rfl⟩) (ro_V hG hPc (va_recv hK hPc (ci := 2) (q0 := 0) rfl rfl)) rfl rfl hl.1 rfl (lv_room (Nat.le_of_ble_eq_true rfl)) dX2_lowestNext_38 ⟨Nat.le_of_ble_eq_true rfl, Nat.le_of_ble_eq_true rfl⟩)) (fun r_8 h_8 => ?_)
      refine lv_aload_n hx hb dX2_lowestNext_41 rfl (lv_at hl 1 rfl) ?_
      refine va_get (D := D) (ci := 2) (v := .ref (a 17)) (C := RX2) (T := TX2) (N := 16) hx hb hts (fun _ h9 => List.mem_cons_of_mem _ (List.mem_append_right _ h9)) hown hK hP 0 rfl rfl 1 (by decide) (hts (.fieldLink RX2 15 "BuoyTender$Planner" "minutes" "[I") (by decide +kernel)) (fun _ h9 => h9) rfl dX2_lowestNext_42 ?_
      refine lv_iload hx hb dX2_lowestNext_45 (lv_at hl 0 rfl) ?_
      refine va_iald hx hb hK hP 1 0 rfl rfl (vp_in_nI (by omega) (by decide)) dX2_lowestNext_47 ?_
      refine lv_topi (fun z_9 ez_9 => ?_)
      obtain rfl : z_9 = (av 17) k_ := ez_9.trans (congrArg (av 17) (nI_clamp (by omega)))
      refine lv_iadd hx hb dX2_lowestNext_48 ?_
      refine lv_istore (lv' := [(5, .int (r_8 + ((av 17) k_))), (4, .int (nI k_)), (0, .ref (a 6)), (1, .int (nI S)), (2, .int (nI h_)), (3, .int x1)]) hx hb dX2_lowestNext_49 hl (by decide) rfl (fun ls hl => ?_)
      refine lv_iload hx hb dX2_lowestNext_51 (lv_at hl 0 rfl) ?_
      refine lv_aload_n hx hb dX2_lowestNext_53 rfl (lv_at hl 2 rfl) ?_
      refine va_get (D := D) (ci := 2) (v := .ref (a 23)) (C := RX2) (T := TX2) (N := 16) hx hb hts (fun _ h9 => List.mem_cons_of_mem _ (List.mem_append_right _ h9)) hown hK hP 0 rfl rfl 7 (by decide) (hts (.fieldLink RX2 33 "BuoyTender$Planner" "ends" "[I") (by decide +kernel)) (fun _ h9 => h9) rfl dX2_lowestNext_54 ?_
      refine lv_iload hx hb dX2_lowestNext_57 (lv_at hl 1 rfl) ?_
      refine lv_iload_n hx hb dX2_lowestNext_59 rfl (lv_at hl 3 rfl) ?_
      refine vp_callSi (va_Run.run (va_runS (As := [.int (nI k_), .int (nI S)]) (rest := [.ref (a 23), .int (r_8 + ((av 17) k_))]) ⟨hx, hb, hml, hown, hts⟩ (k_X2_without l (nI k_) S (by omega)) (va_cwS 2 hts gX2_lowestNext_X2_without rfl rfl rfl (by decide +kernel) ⟨Nat.le_of_ble_eq_true rfl, Nat.le_of_ble_eq_true rfl⟩) preEq rfl rfl hl.1 rfl (lv_room (Nat.le_of_ble_eq_true rfl)) dX2_lowestNext_60 ⟨Nat.le_of_ble_eq_true rfl, Nat.le_of_ble_eq_true rfl⟩)) (fun r_10 h_10 => ?_)
      obtain ⟨s_10, hs_10, rfl⟩ := h_10
      refine lv_bipush (v := 10) hx hb dX2_lowestNext_63 (by decide) ?_
      refine lv_imul hx hb dX2_lowestNext_65 ?_
      refine lv_topi (fun z_11 ez_11 => ?_)
      obtain rfl : z_11 = nI (s_10 * 10) := ez_11.trans (pk_mul s_10 10)
      refine lv_iload hx hb dX2_lowestNext_66 (lv_at hl 1 rfl) ?_
      refine lv_iadd hx hb dX2_lowestNext_68 ?_
      refine lv_topi (fun z_12 ez_12 => ?_)
      obtain rfl : z_12 = nI ((s_10 * 10) + k_) := ez_12.trans (nI_add (s_10 * 10) k_)
      refine va_iald hx hb hK hP 4 0 rfl rfl (vp_in_nI (by omega) (by decide)) dX2_lowestNext_69 ?_
      refine lv_topi (fun z_13 ez_13 => ?_)
      obtain rfl : z_13 = (av 23) ((s_10 * 10) + k_) := ez_13.trans (congrArg (av 23) (nI_clamp (by omega)))
      refine lv_icmp_gt (tgt := 76) hx hb dX2_lowestNext_70 (by decide) (fun c_14 => ?_) (fun c_14 => ?_)
      · refine lv_iinc (v := nI (k_ + 1)) (lv' := [(4, .int (nI (k_ + 1))), (5, .int (r_8 + ((av 17) k_))), (0, .ref (a 6)), (1, .int (nI S)), (2, .int (nI h_)), (3, .int x1)]) hx hb dX2_lowestNext_76 hl (k := 1) rfl (nI_add k_ 1) (by decide) rfl (fun ls hl => ?_)
        refine lv_goto (tgt := 3) hx hb dX2_lowestNext_79 (by decide) ?_
        exact ih (k_ + 1) (by omega) (by omega) _ (lv_sub hl [0, 2, 3, 4, 5] rfl) kk0 kk1
      refine lv_iload hx hb dX2_lowestNext_73 (lv_at hl 1 rfl) ?_
      exact kk1 k_ _ hlt (lv_sub hl [2, 3, 4, 5] rfl)
    · refine lv_iload hx hb dX2_lowestNext_3 (lv_at hl 0 rfl) ?_
      refine lv_aload_n hx hb dX2_lowestNext_5 rfl (lv_at hl 1 rfl) ?_
      refine va_get (D := D) (ci := 2) (v := .int (iv 20)) (C := RX2) (T := TX2) (N := 16) hx hb hts (fun _ h9 => List.mem_cons_of_mem _ (List.mem_append_right _ h9)) hown hK hP 0 rfl rfl 12 (by decide) (hts (.fieldLink RX2 76 "BuoyTender$Planner" "count" "I") (by decide +kernel)) (fun _ h9 => h9) rfl dX2_lowestNext_6 ?_
      refine lv_topi (fun z_15 ez_15 => ?_)
      obtain rfl : z_15 = nI cc := ez_15.trans h_c
      refine lv_icmp_ge (tgt := 82) hx hb dX2_lowestNext_9 (by decide) (fun c_16 => ?_) (fun c_16 => absurd (nI_le hge (by omega)) c_16)
      exact kk0  _  (lv_sub hl [1, 2, 3, 4] rfl)
set_option maxHeartbeats 4000000 in
set_option maxRecDepth 100000 in
/-- X2_lowestNext -/
theorem k_X2_lowestNext (l : Launch) (D : va_G) (cI cJ cZ cM : Nat) (a : Nat → Nat) (iv : Nat → Int32) (av : Nat → Nat → Int32) (cc : Nat) (h_c : iv 20 = nI cc) (hcc : cc ≤ 10) (S : Nat) (hSS : S < 1024) (h_ : Nat) (hh_ : h_ ≤ 10) (x1 : Int32) : Met l yX2_lowestNext wsX2_lowestNext ({ frames := 1, cells := 0, slots := 0, locals := 24 } : Room) (RO D cI cJ cZ cM [.ref (a 6), .int (nI S), .int (nI h_), .int x1] [(a 6, .inr (2, [.ref (a 16), .ref (a 17), .ref (a 18), .ref (a 19), .ref (a 20), .ref (a 21), .ref (a 22), .ref (a 23), .ref (a 24), .ref (a 25), .ref (a 26), .ref (a 27), .int (iv 20), .int (iv 21), .int (iv 22), .int (iv 23)])), (a 17, .inl (cI, 10, .inl (av 17))), (a 20, .inl (cI, 121, .inl (av 20))), (a 21, .inl (cI, 240, .inl (av 21))), (a 23, .inl (cI, 10240, .inl (av 23)))]) (vp_Si (fun r => r = -1 ∨ ∃ k, k < cc ∧ r = nI k)) 0 0 (fun _ => False) := by
  refine Met.ofW (cc := cX2_lowestNext) (maxL := 6) (ret := (some .int)) (by decide) rfl ?_
  intro p e s m args below meth c s₁ B hml hv
  obtain ⟨rfl, hG, hP⟩ := hv
  have hx := B.exec
  have hb := B.bytes
  have hr := B.returns
  have hts := atoms_spec (ws := wsX2_lowestNext) B.pre
  have hown : s.vm.findClass RX2 = some m.cls := findClass_of_methodNamed B.named
  have hlocks := B.notSynchronized
  have hK := hG.1
  have hN := hG.2
  have hl := lv_entry ([.ref (a 6), .int (nI S), .int (nI h_), .int x1]) (n := 6) (Nat.le_of_ble_eq_true rfl)
  rw [lg_entry_eq]
  generalize (lg_sl ([.ref (a 6), .int (nI S), .int (nI h_), .int x1]) ++ List.replicate (6 - (lg_sl ([.ref (a 6), .int (nI S), .int (nI h_), .int x1])).length) Slot.unset).toArray = ls at hl ⊢
  have hl : lv_has ls 6 [(0, .ref (a 6)), (1, .int (nI S)), (2, .int (nI h_)), (3, .int x1)] := hl
  refine lv_iconst (v := 0) hx hb dX2_lowestNext_0 (by decide) ?_
  refine lv_istore (lv' := [(4, .int 0), (0, .ref (a 6)), (1, .int (nI S)), (2, .int (nI h_)), (3, .int x1)]) hx hb dX2_lowestNext_1 hl (by decide) rfl (fun ls hl => ?_)
  have hPl := hP.sub (ws' := [(a 6, .inr (2, [.ref (a 16), .ref (a 17), .ref (a 18), .ref (a 19), .ref (a 20), .ref (a 21), .ref (a 22), .ref (a 23), .ref (a 24), .ref (a 25), .ref (a 26), .ref (a 27), .int (iv 20), .int (iv 21), .int (iv 22), .int (iv 23)])), (a 17, .inl (cI, 10, .inl (av 17))), (a 20, .inl (cI, 121, .inl (av 20))), (a 21, .inl (cI, 240, .inl (av 21))), (a 23, .inl (cI, 10240, .inl (av 23)))]) [0, 1, 2, 3, 4] rfl
  refine lp_X2_lowestNext hx hb hml hts hown hG hPl h_c hcc hSS hh_ (cc + 1) 0 (Nat.zero_le _) (by omega) _ (lv_sub hl [0, 1, 2, 3, 4] rfl) (fun  ls  hl => ?_) (fun k__2 ls e_2_0 hl => ?_)
  · refine lv_iconst (v := (-1)) hx hb dX2_lowestNext_82 (by decide) ?_
    exact W.iret (v := (-1)) hx hb hr (fun t ht hW => ⟨(-1), rfl, (Or.inl rfl), ht⟩) (fun _ h => by cases h) dX2_lowestNext_83
  exact W.iret (v := (nI k__2)) hx hb hr (fun t ht hW => ⟨(nI k__2), rfl, (Or.inr ⟨_, e_2_0, rfl⟩), ht⟩) (fun _ h => by cases h) dX2_lowestNext_75
set_option maxHeartbeats 4000000 in
set_option maxRecDepth 100000 in
/-- X2_tryFirstOrder: the loop at 18 -/
theorem lp_X2_tryFirst {p : Program} {l : Launch} {e : Env} {s : State} {m : MethodId} {args : Array Value} {below : List Frame} {meth : Method} {c : Code} {Q : State → Prop} {D : va_G} {cI cJ cZ cM : Nat} {a : Nat → Nat} {iv : Nat → Int32} {av : Nat → Nat → Int32} {cc : Nat} {S : Nat} {A : Nat → Prop} (hx : p.tables.exec = Jvm.exec) (hb : c.code = cX2_tryFirstOrder) (hml : c.maxLocals = 9) (hts : ∀ w ∈ wsX2_tryFirstOrder, w.before args s = true) (hown : s.vm.findClass RX2 = some m.cls) (hG : GK D cI cJ cZ cM s) (hA : ∀ q : Nat, s.heap.size ≤ q → A q) (h_c : iv 20 = nI cc) (hcc : cc ≤ 10) :
    ∀ (k9 : Nat) (k_ : Nat) (q_ : Nat) (s_ : Nat) (h_ : Nat) (z : Int32) (f25 : Nat → Int32), (k_ ≤ cc) → (q_ ≤ k_) → (s_ < 1024) → (h_ ≤ 10) → (∀ j, j < q_ → ∃ i, i < 10 ∧ f25 j = nI i) → cc - k_ < k9 → ∀ (H : Heap) (locs : List Loc) (ls : Array Slot), va_P D vwCl [(a 6, .inr (2, [.ref (a 16), .ref (a 17), .ref (a 18), .ref (a 19), .ref (a 20), .ref (a 21), .ref (a 22), .ref (a 23), .ref (a 24), .ref (a 25), .ref (a 26), .ref (a 27), .int (iv 20), .int (iv 21), .int (iv 22), .int (iv 23)])), (a 17, .inl (cI, 10, .inl (av 17))), (a 20, .inl (cI, 121, .inl (av 20))), (a 21, .inl (cI, 240, .inl (av 21))), (a 23, .inl (cI, 10240, .inl (av 23))), (a 25, .inl (cI, 10, .inl f25)), (a 5, .inr (4, [.ref (a 13), .ref (a 14), .int (iv 5), .int (iv 6), .int (iv 7), .int (iv 8), .int (iv 9), .int (iv 10), .int (iv 11), .int (iv 12)]))] H → va_D A [(a 6, .inr (2, [.ref (a 16), .ref (a 17), .ref (a 18), .ref (a 19), .ref (a 20), .ref (a 21), .ref (a 22), .ref (a 23), .ref (a 24), .ref (a 25), .ref (a 26), .ref (a 27), .int (iv 20), .int (iv 21), .int (iv 22), .int (iv 23)])), (a 17, .inl (cI, 10, .inl (av 17))), (a 20, .inl (cI, 121, .inl (av 20))), (a 21, .inl (cI, 240, .inl (av 21))), (a 23, .inl (cI, 10240, .inl (av 23))), (a 25, .inl (cI, 10, .inl f25)), (a 5, .inr (4, [.ref (a 13), .ref (a 14), .int (iv 5), .int (iv 6), .int (iv 7), .int (iv 8), .int (iv 9), .int (iv 10), .int (iv 11), .int (iv 12)]))] → va_S A s.heap H locs → lv_has ls 9 [(7, .int (nI k_)), (3, .int (nI q_)), (4, .int (nI s_)), (5, .int (nI h_)), (6, .int z), (0, .ref (a 6)), (1, .int (nI S)), (2, .ref (a 5))] → (∀ (q_ : Nat) (f25 : Nat → Int32) (H : Heap) (locs : List Loc) (ls : Array Slot), (q_ ≤ 10) → (∀ j, j < q_ → ∃ i, i < 10 ∧ f25 j = nI i) → va_P D vwCl [(a 6, .inr (2, [.ref (a 16), .ref (a 17), .ref (a 18), .ref (a 19), .ref (a 20), .ref (a 21), .ref (a 22), .ref (a 23), .ref (a 24), .ref (a 25), .ref (a 26), .ref (a 27), .int (iv 20), .int (iv 21), .int (iv 22), .int (iv 23)])), (a 17, .inl (cI, 10, .inl (av 17))), (a 20, .inl (cI, 121, .inl (av 20))), (a 21, .inl (cI, 240, .inl (av 21))), (a 23, .inl (cI, 10240, .inl (av 23))), (a 25, .inl (cI, 10, .inl f25)), (a 5, .inr (4, [.ref (a 13), .ref (a 14), .int (iv 5), .int (iv 6), .int (iv 7), .int (iv 8), .int (iv 9), .int (iv 10), .int (iv 11), .int (iv 12)]))] H → va_D A [(a 6, .inr (2, [.ref (a 16), .ref (a 17), .ref (a 18), .ref (a 19), .ref (a 20), .ref (a 21), .ref (a 22), .ref (a 23), .ref (a 24), .ref (a 25), .ref (a 26), .ref (a 27), .int (iv 20), .int (iv 21), .int (iv 22), .int (iv 23)])), (a 17, .inl (cI, 10, .inl (av 17))), (a 20, .inl (cI, 121, .inl (av 20))), (a 21, .inl (cI, 240, .inl (av 21))), (a 23, .inl (cI, 10240, .inl (av 23))), (a 25, .inl (cI, 10, .inl f25)), (a 5, .inr (4, [.ref (a 13), .ref (a 14), .int (iv 5), .int (iv 6), .int (iv 7), .int (iv 8), .int (iv 9), .int (iv 10), .int (iv 11), .int (iv 12)]))] → va_S A s.heap H locs → lv_has ls 9 [(3, .int (nI q_)), (0, .ref (a 6))] → W p l e (headSpec wsX2_tryFirstOrder ({ frames := 2, cells := 0, slots := 0, locals := 49 } : Room)).room s m args below meth c H locs 0 0 Q (F0 m 114 ls [])) → (∀ (q_ : Nat) (f25 : Nat → Int32) (H : Heap) (locs : List Loc) (ls : Array Slot), (q_ ≤ 10) → (∀ j, j < q_ → ∃ i, i < 10 ∧ f25 j = nI i) → va_P D vwCl [(a 6, .inr (2, [.ref (a 16), .ref (a 17), .ref (a 18), .ref (a 19), .ref (a 20), .ref (a 21), .ref (a 22), .ref (a 23), .ref (a 24), .ref (a 25), .ref (a 26), .ref (a 27), .int (iv 20), .int (iv 21), .int (iv 22), .int (iv 23)])), (a 17, .inl (cI, 10, .inl (av 17))), (a 20, .inl (cI, 121, .inl (av 20))), (a 21, .inl (cI, 240, .inl (av 21))), (a 23, .inl (cI, 10240, .inl (av 23))), (a 25, .inl (cI, 10, .inl f25)), (a 5, .inr (4, [.ref (a 13), .ref (a 14), .int (iv 5), .int (iv 6), .int (iv 7), .int (iv 8), .int (iv 9), .int (iv 10), .int (iv 11), .int (iv 12)]))] H → va_D A [(a 6, .inr (2, [.ref (a 16), .ref (a 17), .ref (a 18), .ref (a 19), .ref (a 20), .ref (a 21), .ref (a 22), .ref (a 23), .ref (a 24), .ref (a 25), .ref (a 26), .ref (a 27), .int (iv 20), .int (iv 21), .int (iv 22), .int (iv 23)])), (a 17, .inl (cI, 10, .inl (av 17))), (a 20, .inl (cI, 121, .inl (av 20))), (a 21, .inl (cI, 240, .inl (av 21))), (a 23, .inl (cI, 10240, .inl (av 23))), (a 25, .inl (cI, 10, .inl f25)), (a 5, .inr (4, [.ref (a 13), .ref (a 14), .int (iv 5), .int (iv 6), .int (iv 7), .int (iv 8), .int (iv 9), .int (iv 10), .int (iv 11), .int (iv 12)]))] → va_S A s.heap H locs → lv_has ls 9 [(3, .int (nI q_)), (0, .ref (a 6))] → W p l e (headSpec wsX2_tryFirstOrder ({ frames := 2, cells := 0, slots := 0, locals := 49 } : Room)).room s m args below meth c H locs 0 0 Q (F0 m 50 ls [])) → W p l e (headSpec wsX2_tryFirstOrder ({ frames := 2, cells := 0, slots := 0, locals := 49 } : Room)).room s m args below meth c H locs 0 0 Q (F0 m 18 ls []) := by
  have hK := hG.1
  have hN := hG.2
  intro k9
  induction k9 with
  | zero => intro k_ q_ s_ h_ z f25 hk hq hs hh htr hfu; exact absurd hfu (Nat.not_lt_zero _)
  | succ k9 ih =>
    intro k_ q_ s_ h_ z f25 hk hq hs hh htr hfu H locs ls hP hD hS hl kk0 kk1
    rcases Nat.lt_or_ge k_ cc with hlt | hge
    · refine lv_iload hx hb dX2_tryFirstOrder_18 (lv_at hl 0 rfl) ?_
      refine lv_aload_n hx hb dX2_tryFirstOrder_20 rfl (lv_at hl 5 rfl) ?_
      refine va_get (D := D) (ci := 2) (v := .int (iv 20)) (C := RX2) (T := TX2) (N := 16) hx hb hts (fun _ h9 => List.mem_cons_of_mem _ (List.mem_append_right _ h9)) hown hK hP 0 rfl rfl 12 (by decide) (hts (.fieldLink RX2 76 "BuoyTender$Planner" "count" "I") (by decide +kernel)) (fun _ h9 => h9) rfl dX2_tryFirstOrder_21 ?_
      refine lv_topi (fun z_1 ez_1 => ?_)
      obtain rfl : z_1 = nI cc := ez_1.trans h_c
      refine lv_icmp_ge (tgt := 114) hx hb dX2_tryFirstOrder_24 (by decide) (fun c_2 => absurd c_2 (nI_ge hlt (by omega))) (fun c_2 => ?_)
      refine lv_iload hx hb dX2_tryFirstOrder_27 (lv_at hl 2 rfl) ?_
      refine lv_if_eq (tgt := 114) hx hb dX2_tryFirstOrder_29 (by decide) (fun c_3 => ?_) (fun c_3 => ?_)
      · exact kk0 q_ f25 _ _ _ (by omega) htr hP hD hS (lv_sub hl [1, 5] rfl)
      refine lv_aload_n hx hb dX2_tryFirstOrder_32 rfl (lv_at hl 5 rfl) ?_
      refine lv_iload hx hb dX2_tryFirstOrder_33 (lv_at hl 2 rfl) ?_
      refine lv_iload hx hb dX2_tryFirstOrder_35 (lv_at hl 3 rfl) ?_
      refine lv_iload hx hb dX2_tryFirstOrder_37 (lv_at hl 4 rfl) ?_
      have hPc := hP.sub (ws' := [(a 6, .inr (2, [.ref (a 16), .ref (a 17), .ref (a 18), .ref (a 19), .ref (a 20), .ref (a 21), .ref (a 22), .ref (a 23), .ref (a 24), .ref (a 25), .ref (a 26), .ref (a 27), .int (iv 20), .int (iv 21), .int (iv 22), .int (iv 23)])), (a 17, .inl (cI, 10, .inl (av 17))), (a 20, .inl (cI, 121, .inl (av 20))), (a 21, .inl (cI, 240, .inl (av 21))), (a 23, .inl (cI, 10240, .inl (av 23)))]) [0, 1, 2, 3, 4] rfl
      refine vp_callSi (va_Run.run (va_runV (As := [.int (nI s_), .int (nI h_), .int z]) (rest := []) ⟨hx, hb, hml, hown, hts⟩ (k_X2_lowestNext l D cI cJ cZ cM a iv av cc h_c hcc s_ (by omega) h_ (by omega) z) (cwV 3 hts gX2_tryFirstOrder_X2_lowestNext rfl rfl rfl (by decide +kernel) ⟨Nat.le_of_ble_eq_true rfl, Nat.le_of_ble_eq_true rfl⟩) (ro_V hG hPc (va_recv hK hPc (ci := 2) (q0 := 0) rfl rfl)) rfl rfl hl.1 rfl (lv_room (Nat.le_of_ble_eq_true rfl)) dX2_tryFirstOrder_39 ⟨Nat.le_of_ble_eq_true rfl, Nat.le_of_ble_eq_true rfl⟩)) (fun r_4 h_4 => ?_)
      rcases h_4 with rfl | ⟨g_4, hg_4, rfl⟩
      · refine W.eq (g2 := F0 m 42 ls [.int (-1)]) rfl ?_
        refine lv_istore (lv' := [(8, .int (-1)), (7, .int (nI k_)), (3, .int (nI q_)), (4, .int (nI s_)), (5, .int (nI h_)), (6, .int z), (0, .ref (a 6)), (1, .int (nI S)), (2, .ref (a 5))]) hx hb dX2_tryFirstOrder_42 hl (by decide) rfl (fun ls hl => ?_)
        refine lv_iload hx hb dX2_tryFirstOrder_44 (lv_at hl 0 rfl) ?_
        refine lv_iconst (v := (-1)) hx hb dX2_tryFirstOrder_46 (by decide) ?_
        refine lv_icmp_ne (tgt := 52) hx hb dX2_tryFirstOrder_47 (by decide) (fun c_5 => False.elim (by revert c_5; decide)) (fun _ => ?_)
        exact kk1 q_ f25 _ _ _ (by omega) htr hP hD hS (lv_sub hl [2, 6] rfl)
      refine lv_istore (lv' := [(8, .int (nI g_4)), (7, .int (nI k_)), (3, .int (nI q_)), (4, .int (nI s_)), (5, .int (nI h_)), (6, .int z), (0, .ref (a 6)), (1, .int (nI S)), (2, .ref (a 5))]) hx hb dX2_tryFirstOrder_42 hl (by decide) rfl (fun ls hl => ?_)
      refine lv_iload hx hb dX2_tryFirstOrder_44 (lv_at hl 0 rfl) ?_
      refine lv_iconst (v := (-1)) hx hb dX2_tryFirstOrder_46 (by decide) ?_
      refine lv_icmp_ne (tgt := 52) hx hb dX2_tryFirstOrder_47 (by decide) (fun c_6 => ?_) (fun c_6 => (nI_nm1 (by omega) c_6).elim)
      refine lv_aload_n hx hb dX2_tryFirstOrder_52 rfl (lv_at hl 6 rfl) ?_
      refine va_get (D := D) (ci := 2) (v := .ref (a 25)) (C := RX2) (T := TX2) (N := 16) hx hb hts (fun _ h9 => List.mem_cons_of_mem _ (List.mem_append_right _ h9)) hown hK hP 0 rfl rfl 9 (by decide) (hts (.fieldLink RX2 39 "BuoyTender$Planner" "tried" "[I") (by decide +kernel)) (fun _ h9 => h9) rfl dX2_tryFirstOrder_53 ?_
      refine lv_iload_n hx hb dX2_tryFirstOrder_56 rfl (lv_at hl 2 rfl) ?_
      refine lv_iload hx hb dX2_tryFirstOrder_57 (lv_at hl 0 rfl) ?_
      refine va_iast hx hb hK hP hD hS 5 0 rfl rfl (vp_in_nI (by omega) (by decide)) dX2_tryFirstOrder_59 (fun H locs hP hD hS => ?_)
      rw [nI_clamp (by omega)] at hP hD
      have hP : va_P D vwCl [(a 6, .inr (2, [.ref (a 16), .ref (a 17), .ref (a 18), .ref (a 19), .ref (a 20), .ref (a 21), .ref (a 22), .ref (a 23), .ref (a 24), .ref (a 25), .ref (a 26), .ref (a 27), .int (iv 20), .int (iv 21), .int (iv 22), .int (iv 23)])), (a 17, .inl (cI, 10, .inl (av 17))), (a 20, .inl (cI, 121, .inl (av 20))), (a 21, .inl (cI, 240, .inl (av 21))), (a 23, .inl (cI, 10240, .inl (av 23))), (a 25, .inl (cI, 10, .inl (upd f25 q_ (nI g_4)))), (a 5, .inr (4, [.ref (a 13), .ref (a 14), .int (iv 5), .int (iv 6), .int (iv 7), .int (iv 8), .int (iv 9), .int (iv 10), .int (iv 11), .int (iv 12)]))] H := hP
      have hD : va_D A [(a 6, .inr (2, [.ref (a 16), .ref (a 17), .ref (a 18), .ref (a 19), .ref (a 20), .ref (a 21), .ref (a 22), .ref (a 23), .ref (a 24), .ref (a 25), .ref (a 26), .ref (a 27), .int (iv 20), .int (iv 21), .int (iv 22), .int (iv 23)])), (a 17, .inl (cI, 10, .inl (av 17))), (a 20, .inl (cI, 121, .inl (av 20))), (a 21, .inl (cI, 240, .inl (av 21))), (a 23, .inl (cI, 10240, .inl (av 23))), (a 25, .inl (cI, 10, .inl (upd f25 q_ (nI g_4)))), (a 5, .inr (4, [.ref (a 13), .ref (a 14), .int (iv 5), .int (iv 6), .int (iv 7), .int (iv 8), .int (iv 9), .int (iv 10), .int (iv 11), .int (iv 12)]))] := hD
      refine lv_iinc (v := nI (q_ + 1)) (lv' := [(3, .int (nI (q_ + 1))), (8, .int (nI g_4)), (7, .int (nI k_)), (4, .int (nI s_)), (5, .int (nI h_)), (6, .int z), (0, .ref (a 6)), (1, .int (nI S)), (2, .ref (a 5))]) hx hb dX2_tryFirstOrder_60 hl (k := 2) rfl (nI_add q_ 1) (by decide) rfl (fun ls hl => ?_)
      refine lv_aload_n hx hb dX2_tryFirstOrder_63 rfl (lv_at hl 6 rfl) ?_
      refine lv_iload hx hb dX2_tryFirstOrder_64 (lv_at hl 1 rfl) ?_
      refine lv_iload hx hb dX2_tryFirstOrder_66 (lv_at hl 5 rfl) ?_
      refine lv_aload_n hx hb dX2_tryFirstOrder_68 rfl (lv_at hl 6 rfl) ?_
      refine va_get (D := D) (ci := 2) (v := .ref (a 20)) (C := RX2) (T := TX2) (N := 16) hx hb hts (fun _ h9 => List.mem_cons_of_mem _ (List.mem_append_right _ h9)) hown hK hP 0 rfl rfl 4 (by decide) (hts (.fieldLink RX2 24 "BuoyTender$Planner" "ways" "[I") (by decide +kernel)) (fun _ h9 => h9) rfl dX2_tryFirstOrder_69 ?_
      refine lv_iload hx hb dX2_tryFirstOrder_72 (lv_at hl 4 rfl) ?_
      refine lv_bipush (v := 11) hx hb dX2_tryFirstOrder_74 (by decide) ?_
      refine lv_imul hx hb dX2_tryFirstOrder_76 ?_
      refine lv_topi (fun z_7 ez_7 => ?_)
      obtain rfl : z_7 = nI (h_ * 11) := ez_7.trans (pk_mul h_ 11)
      refine lv_iload hx hb dX2_tryFirstOrder_77 (lv_at hl 1 rfl) ?_
      refine lv_iadd hx hb dX2_tryFirstOrder_79 ?_
      refine lv_topi (fun z_8 ez_8 => ?_)
      obtain rfl : z_8 = nI ((h_ * 11) + g_4) := ez_8.trans (nI_add (h_ * 11) g_4)
      refine va_iald hx hb hK hP 2 0 rfl rfl (vp_in_nI (by omega) (by decide)) dX2_tryFirstOrder_80 ?_
      refine lv_topi (fun z_9 ez_9 => ?_)
      obtain rfl : z_9 = (av 20) ((h_ * 11) + g_4) := ez_9.trans (congrArg (av 20) (nI_clamp (by omega)))
      refine lv_iadd hx hb dX2_tryFirstOrder_81 ?_
      have hPc := hP.sub (ws' := [(a 6, .inr (2, [.ref (a 16), .ref (a 17), .ref (a 18), .ref (a 19), .ref (a 20), .ref (a 21), .ref (a 22), .ref (a 23), .ref (a 24), .ref (a 25), .ref (a 26), .ref (a 27), .int (iv 20), .int (iv 21), .int (iv 22), .int (iv 23)])), (a 21, .inl (cI, 240, .inl (av 21)))]) [0, 3] rfl
      refine vp_callSi (va_Run.run (va_runV (As := [.int (nI g_4), .int (z + ((av 20) ((h_ * 11) + g_4)))]) (rest := []) ⟨hx, hb, hml, hown, hts⟩ (k_X2_beginFrom l D cI cJ cZ cM a iv av g_4 (by omega) (z + ((av 20) ((h_ * 11) + g_4)))) (cwV 2 hts gX2_tryFirstOrder_X2_beginFrom rfl rfl rfl (by decide +kernel) ⟨Nat.le_of_ble_eq_true rfl, Nat.le_of_ble_eq_true rfl⟩) (ro_V hG hPc (va_recv hK hPc (ci := 2) (q0 := 0) rfl rfl)) rfl rfl hl.1 rfl (lv_room (Nat.le_of_ble_eq_true rfl)) dX2_tryFirstOrder_82 ⟨Nat.le_of_ble_eq_true rfl, Nat.le_of_ble_eq_true rfl⟩)) (fun r_10 h_10 => ?_)
      refine lv_aload_n hx hb dX2_tryFirstOrder_85 rfl (lv_at hl 6 rfl) ?_
      refine va_get (D := D) (ci := 2) (v := .ref (a 17)) (C := RX2) (T := TX2) (N := 16) hx hb hts (fun _ h9 => List.mem_cons_of_mem _ (List.mem_append_right _ h9)) hown hK hP 0 rfl rfl 1 (by decide) (hts (.fieldLink RX2 15 "BuoyTender$Planner" "minutes" "[I") (by decide +kernel)) (fun _ h9 => h9) rfl dX2_tryFirstOrder_86 ?_
      refine lv_iload hx hb dX2_tryFirstOrder_89 (lv_at hl 1 rfl) ?_
      refine va_iald hx hb hK hP 1 0 rfl rfl (vp_in_nI (by omega) (by decide)) dX2_tryFirstOrder_91 ?_
      refine lv_topi (fun z_11 ez_11 => ?_)
      obtain rfl : z_11 = (av 17) g_4 := ez_11.trans (congrArg (av 17) (nI_clamp (by omega)))
      refine lv_iadd hx hb dX2_tryFirstOrder_92 ?_
      refine lv_istore (lv' := [(6, .int (r_10 + ((av 17) g_4))), (3, .int (nI (q_ + 1))), (8, .int (nI g_4)), (7, .int (nI k_)), (4, .int (nI s_)), (5, .int (nI h_)), (0, .ref (a 6)), (1, .int (nI S)), (2, .ref (a 5))]) hx hb dX2_tryFirstOrder_93 hl (by decide) rfl (fun ls hl => ?_)
      refine lv_iload hx hb dX2_tryFirstOrder_95 (lv_at hl 2 rfl) ?_
      refine lv_iload hx hb dX2_tryFirstOrder_97 (lv_at hl 4 rfl) ?_
      refine vp_callSi (va_Run.run (va_runS (As := [.int (nI g_4), .int (nI s_)]) (rest := []) ⟨hx, hb, hml, hown, hts⟩ (k_X2_without l (nI g_4) s_ (by omega)) (va_cwS 2 hts gX2_tryFirstOrder_X2_without rfl rfl rfl (by decide +kernel) ⟨Nat.le_of_ble_eq_true rfl, Nat.le_of_ble_eq_true rfl⟩) preEq rfl rfl hl.1 rfl (lv_room (Nat.le_of_ble_eq_true rfl)) dX2_tryFirstOrder_99 ⟨Nat.le_of_ble_eq_true rfl, Nat.le_of_ble_eq_true rfl⟩)) (fun r_12 h_12 => ?_)
      obtain ⟨s_12, hs_12, rfl⟩ := h_12
      refine lv_istore (lv' := [(4, .int (nI s_12)), (6, .int (r_10 + ((av 17) g_4))), (3, .int (nI (q_ + 1))), (8, .int (nI g_4)), (7, .int (nI k_)), (5, .int (nI h_)), (0, .ref (a 6)), (1, .int (nI S)), (2, .ref (a 5))]) hx hb dX2_tryFirstOrder_102 hl (by decide) rfl (fun ls hl => ?_)
      refine lv_iload hx hb dX2_tryFirstOrder_104 (lv_at hl 3 rfl) ?_
      refine lv_istore (lv' := [(5, .int (nI g_4)), (4, .int (nI s_12)), (6, .int (r_10 + ((av 17) g_4))), (3, .int (nI (q_ + 1))), (8, .int (nI g_4)), (7, .int (nI k_)), (0, .ref (a 6)), (1, .int (nI S)), (2, .ref (a 5))]) hx hb dX2_tryFirstOrder_106 hl (by decide) rfl (fun ls hl => ?_)
      refine lv_iinc (v := nI (k_ + 1)) (lv' := [(7, .int (nI (k_ + 1))), (5, .int (nI g_4)), (4, .int (nI s_12)), (6, .int (r_10 + ((av 17) g_4))), (3, .int (nI (q_ + 1))), (8, .int (nI g_4)), (0, .ref (a 6)), (1, .int (nI S)), (2, .ref (a 5))]) hx hb dX2_tryFirstOrder_108 hl (k := 5) rfl (nI_add k_ 1) (by decide) rfl (fun ls hl => ?_)
      refine lv_goto (tgt := 18) hx hb dX2_tryFirstOrder_111 (by decide) ?_
      exact ih (k_ + 1) (q_ + 1) s_12 g_4 (r_10 + ((av 17) g_4)) (upd f25 q_ (nI g_4)) (by omega) (by omega) (by omega) (by omega) (rows_s10 htr (by omega)) (by omega) _ _ _ hP hD hS (lv_sub hl [0, 4, 2, 1, 3, 6, 7, 8] rfl) kk0 kk1
    · refine lv_iload hx hb dX2_tryFirstOrder_18 (lv_at hl 0 rfl) ?_
      refine lv_aload_n hx hb dX2_tryFirstOrder_20 rfl (lv_at hl 5 rfl) ?_
      refine va_get (D := D) (ci := 2) (v := .int (iv 20)) (C := RX2) (T := TX2) (N := 16) hx hb hts (fun _ h9 => List.mem_cons_of_mem _ (List.mem_append_right _ h9)) hown hK hP 0 rfl rfl 12 (by decide) (hts (.fieldLink RX2 76 "BuoyTender$Planner" "count" "I") (by decide +kernel)) (fun _ h9 => h9) rfl dX2_tryFirstOrder_21 ?_
      refine lv_topi (fun z_13 ez_13 => ?_)
      obtain rfl : z_13 = nI cc := ez_13.trans h_c
      refine lv_icmp_ge (tgt := 114) hx hb dX2_tryFirstOrder_24 (by decide) (fun c_14 => ?_) (fun c_14 => absurd (nI_le hge (by omega)) c_14)
      exact kk0 q_ f25 _ _ _ (by omega) htr hP hD hS (lv_sub hl [1, 5] rfl)
set_option maxHeartbeats 4000000 in
set_option maxRecDepth 100000 in
/-- X2_tryFirstOrder -/
theorem k_X2_tryFirstOrder (l : Launch) (D : va_G) (cI cJ cZ cM : Nat) (a : Nat → Nat) (iv : Nat → Int32) (av : Nat → Nat → Int32) (cc : Nat) (h_c : iv 20 = nI cc) (hcc : cc ≤ 10) (S : Nat) (hSS : S < 1024) (sz : Nat) : Met l yX2_tryFirstOrder wsX2_tryFirstOrder ({ frames := 2, cells := 0, slots := 0, locals := 49 } : Room) (RW D cI cJ cZ cM [.ref (a 6), .int (nI S), .ref (a 5)] [(a 6, .inr (2, [.ref (a 16), .ref (a 17), .ref (a 18), .ref (a 19), .ref (a 20), .ref (a 21), .ref (a 22), .ref (a 23), .ref (a 24), .ref (a 25), .ref (a 26), .ref (a 27), .int (iv 20), .int (iv 21), .int (iv 22), .int (iv 23)])), (a 17, .inl (cI, 10, .inl (av 17))), (a 20, .inl (cI, 121, .inl (av 20))), (a 21, .inl (cI, 240, .inl (av 21))), (a 23, .inl (cI, 10240, .inl (av 23))), (a 25, .inl (cI, 10, .inl (av 25))), (a 5, .inr (4, [.ref (a 13), .ref (a 14), .int (iv 5), .int (iv 6), .int (iv 7), .int (iv 8), .int (iv 9), .int (iv 10), .int (iv 11), .int (iv 12)]))] sz) (va_Qi (S := (Nat → Int32)) (fun r u => ∃ q, r = nI q ∧ q ≤ 10 ∧ ∀ j, j < q → ∃ i, i < 10 ∧ u j = nI i) (BB D (fun u => [(a 6, .inr (2, [.ref (a 16), .ref (a 17), .ref (a 18), .ref (a 19), .ref (a 20), .ref (a 21), .ref (a 22), .ref (a 23), .ref (a 24), .ref (a 25), .ref (a 26), .ref (a 27), .int (iv 20), .int (iv 21), .int (iv 22), .int (iv 23)])), (a 17, .inl (cI, 10, .inl (av 17))), (a 20, .inl (cI, 121, .inl (av 20))), (a 21, .inl (cI, 240, .inl (av 21))), (a 23, .inl (cI, 10240, .inl (av 23))), (a 25, .inl (cI, 10, .inl u)), (a 5, .inr (4, [.ref (a 13), .ref (a 14), .int (iv 5), .int (iv 6), .int (iv 7), .int (iv 8), .int (iv 9), .int (iv 10), .int (iv 11), .int (iv 12)]))]) (va_A [(a 6, .inr (2, [.ref (a 16), .ref (a 17), .ref (a 18), .ref (a 19), .ref (a 20), .ref (a 21), .ref (a 22), .ref (a 23), .ref (a 24), .ref (a 25), .ref (a 26), .ref (a 27), .int (iv 20), .int (iv 21), .int (iv 22), .int (iv 23)])), (a 17, .inl (cI, 10, .inl (av 17))), (a 20, .inl (cI, 121, .inl (av 20))), (a 21, .inl (cI, 240, .inl (av 21))), (a 23, .inl (cI, 10240, .inl (av 23))), (a 25, .inl (cI, 10, .inl (av 25))), (a 5, .inr (4, [.ref (a 13), .ref (a 14), .int (iv 5), .int (iv 6), .int (iv 7), .int (iv 8), .int (iv 9), .int (iv 10), .int (iv 11), .int (iv 12)]))] sz)) (va_A [(a 6, .inr (2, [.ref (a 16), .ref (a 17), .ref (a 18), .ref (a 19), .ref (a 20), .ref (a 21), .ref (a 22), .ref (a 23), .ref (a 24), .ref (a 25), .ref (a 26), .ref (a 27), .int (iv 20), .int (iv 21), .int (iv 22), .int (iv 23)])), (a 17, .inl (cI, 10, .inl (av 17))), (a 20, .inl (cI, 121, .inl (av 20))), (a 21, .inl (cI, 240, .inl (av 21))), (a 23, .inl (cI, 10240, .inl (av 23))), (a 25, .inl (cI, 10, .inl (av 25))), (a 5, .inr (4, [.ref (a 13), .ref (a 14), .int (iv 5), .int (iv 6), .int (iv 7), .int (iv 8), .int (iv 9), .int (iv 10), .int (iv 11), .int (iv 12)]))] sz)) 0 0 (va_A [(a 6, .inr (2, [.ref (a 16), .ref (a 17), .ref (a 18), .ref (a 19), .ref (a 20), .ref (a 21), .ref (a 22), .ref (a 23), .ref (a 24), .ref (a 25), .ref (a 26), .ref (a 27), .int (iv 20), .int (iv 21), .int (iv 22), .int (iv 23)])), (a 17, .inl (cI, 10, .inl (av 17))), (a 20, .inl (cI, 121, .inl (av 20))), (a 21, .inl (cI, 240, .inl (av 21))), (a 23, .inl (cI, 10240, .inl (av 23))), (a 25, .inl (cI, 10, .inl (av 25))), (a 5, .inr (4, [.ref (a 13), .ref (a 14), .int (iv 5), .int (iv 6), .int (iv 7), .int (iv 8), .int (iv 9), .int (iv 10), .int (iv 11), .int (iv 12)]))] sz) := by
  refine Met.ofW (cc := cX2_tryFirstOrder) (maxL := 9) (ret := (some .int)) (by decide) rfl ?_
  intro p e s m args below meth c s₁ B hml hv
  obtain ⟨rfl, hsz, hG, hP, hD0⟩ := hv
  have hx := B.exec
  have hb := B.bytes
  have hr := B.returns
  have hts := atoms_spec (ws := wsX2_tryFirstOrder) B.pre
  have hown : s.vm.findClass RX2 = some m.cls := findClass_of_methodNamed B.named
  have hlocks := B.notSynchronized
  have hK := hG.1
  have hN := hG.2
  subst hsz
  have hD := hD0.self (sz := s.heap.size)
  generalize hAe : va_A [(a 6, .inr (2, [.ref (a 16), .ref (a 17), .ref (a 18), .ref (a 19), .ref (a 20), .ref (a 21), .ref (a 22), .ref (a 23), .ref (a 24), .ref (a 25), .ref (a 26), .ref (a 27), .int (iv 20), .int (iv 21), .int (iv 22), .int (iv 23)])), (a 17, .inl (cI, 10, .inl (av 17))), (a 20, .inl (cI, 121, .inl (av 20))), (a 21, .inl (cI, 240, .inl (av 21))), (a 23, .inl (cI, 10240, .inl (av 23))), (a 25, .inl (cI, 10, .inl (av 25))), (a 5, .inr (4, [.ref (a 13), .ref (a 14), .int (iv 5), .int (iv 6), .int (iv 7), .int (iv 8), .int (iv 9), .int (iv 10), .int (iv 11), .int (iv 12)]))] s.heap.size = A at hD ⊢
  have hA : ∀ q : Nat, s.heap.size ≤ q → A q := fun q h => by rw [← hAe]; exact Or.inr h
  have hS : va_S A s.heap s.heap [] := va_S.rf
  have hP : va_P D vwCl [(a 6, .inr (2, [.ref (a 16), .ref (a 17), .ref (a 18), .ref (a 19), .ref (a 20), .ref (a 21), .ref (a 22), .ref (a 23), .ref (a 24), .ref (a 25), .ref (a 26), .ref (a 27), .int (iv 20), .int (iv 21), .int (iv 22), .int (iv 23)])), (a 17, .inl (cI, 10, .inl (av 17))), (a 20, .inl (cI, 121, .inl (av 20))), (a 21, .inl (cI, 240, .inl (av 21))), (a 23, .inl (cI, 10240, .inl (av 23))), (a 25, .inl (cI, 10, .inl (av 25))), (a 5, .inr (4, [.ref (a 13), .ref (a 14), .int (iv 5), .int (iv 6), .int (iv 7), .int (iv 8), .int (iv 9), .int (iv 10), .int (iv 11), .int (iv 12)]))] s.heap := hP
  have hl := lv_entry ([.ref (a 6), .int (nI S), .ref (a 5)]) (n := 9) (Nat.le_of_ble_eq_true rfl)
  rw [lg_entry_eq]
  generalize (lg_sl ([.ref (a 6), .int (nI S), .ref (a 5)]) ++ List.replicate (9 - (lg_sl ([.ref (a 6), .int (nI S), .ref (a 5)])).length) Slot.unset).toArray = ls at hl ⊢
  have hl : lv_has ls 9 [(0, .ref (a 6)), (1, .int (nI S)), (2, .ref (a 5))] := hl
  refine lv_iconst (v := 0) hx hb dX2_tryFirstOrder_0 (by decide) ?_
  refine lv_istore_n (lv' := [(3, .int 0), (0, .ref (a 6)), (1, .int (nI S)), (2, .ref (a 5))]) hx hb dX2_tryFirstOrder_1 rfl hl (by decide) rfl (fun ls hl => ?_)
  refine lv_iload_n hx hb dX2_tryFirstOrder_2 rfl (lv_at hl 2 rfl) ?_
  refine lv_istore (lv' := [(4, .int (nI S)), (3, .int 0), (0, .ref (a 6)), (1, .int (nI S)), (2, .ref (a 5))]) hx hb dX2_tryFirstOrder_3 hl (by decide) rfl (fun ls hl => ?_)
  refine lv_bipush (v := 10) hx hb dX2_tryFirstOrder_5 (by decide) ?_
  refine lv_istore (lv' := [(5, .int 10), (4, .int (nI S)), (3, .int 0), (0, .ref (a 6)), (1, .int (nI S)), (2, .ref (a 5))]) hx hb dX2_tryFirstOrder_7 hl (by decide) rfl (fun ls hl => ?_)
  refine lv_aload_n hx hb dX2_tryFirstOrder_9 rfl (lv_at hl 5 rfl) ?_
  refine va_getN (D := D) (ci := 4) (v := .int (iv 7)) (C := RX4) (T := TX4) (N := 10) hx hb hts (fun _ h9 => List.mem_cons_of_mem _ (List.mem_append_left _ (List.mem_append_right _ h9))) hown hK hP 6 rfl rfl 4 (by decide) (va_Nw.use rfl (hN.1 (RX2, 136, "BuoyTender$Ship", "minute", "I", "BuoyTender") (by decide +kernel))) (fun _ h9 => h9) rfl dX2_tryFirstOrder_10 ?_
  refine lv_istore (lv' := [(6, .int (iv 7)), (5, .int 10), (4, .int (nI S)), (3, .int 0), (0, .ref (a 6)), (1, .int (nI S)), (2, .ref (a 5))]) hx hb dX2_tryFirstOrder_13 hl (by decide) rfl (fun ls hl => ?_)
  refine lv_iconst (v := 0) hx hb dX2_tryFirstOrder_15 (by decide) ?_
  refine lv_istore (lv' := [(7, .int 0), (6, .int (iv 7)), (5, .int 10), (4, .int (nI S)), (3, .int 0), (0, .ref (a 6)), (1, .int (nI S)), (2, .ref (a 5))]) hx hb dX2_tryFirstOrder_16 hl (by decide) rfl (fun ls hl => ?_)
  refine lp_X2_tryFirst hx hb hml hts hown hG hA h_c hcc (cc + 1) 0 0 S 10 (iv 7) (av 25) (Nat.zero_le _) (Nat.zero_le _) hSS (by decide) (fun j hj => absurd hj (Nat.not_lt_zero _)) (by omega) _ _ _ hP hD hS (lv_sub hl [0, 4, 3, 2, 1, 5, 6, 7] rfl) (fun q__1 f25_1 H locs ls e_1_0 e_1_1 hP hD hS hl => ?_) (fun q__2 f25_2 H locs ls e_2_0 e_2_1 hP hD hS hl => ?_)
  · refine lv_iload_n hx hb dX2_tryFirstOrder_114 rfl (lv_at hl 0 rfl) ?_
    have hP9 := hP.sub (ws' := [(a 6, .inr (2, [.ref (a 16), .ref (a 17), .ref (a 18), .ref (a 19), .ref (a 20), .ref (a 21), .ref (a 22), .ref (a 23), .ref (a 24), .ref (a 25), .ref (a 26), .ref (a 27), .int (iv 20), .int (iv 21), .int (iv 22), .int (iv 23)])), (a 17, .inl (cI, 10, .inl (av 17))), (a 20, .inl (cI, 121, .inl (av 20))), (a 21, .inl (cI, 240, .inl (av 21))), (a 23, .inl (cI, 10240, .inl (av 23))), (a 25, .inl (cI, 10, .inl f25_1)), (a 5, .inr (4, [.ref (a 13), .ref (a 14), .int (iv 5), .int (iv 6), .int (iv 7), .int (iv 8), .int (iv 9), .int (iv 10), .int (iv 11), .int (iv 12)]))]) [0, 1, 2, 3, 4, 5, 6] rfl
    have hD9 := hD.sub (ws' := [(a 6, .inr (2, [.ref (a 16), .ref (a 17), .ref (a 18), .ref (a 19), .ref (a 20), .ref (a 21), .ref (a 22), .ref (a 23), .ref (a 24), .ref (a 25), .ref (a 26), .ref (a 27), .int (iv 20), .int (iv 21), .int (iv 22), .int (iv 23)])), (a 17, .inl (cI, 10, .inl (av 17))), (a 20, .inl (cI, 121, .inl (av 20))), (a 21, .inl (cI, 240, .inl (av 21))), (a 23, .inl (cI, 10240, .inl (av 23))), (a 25, .inl (cI, 10, .inl f25_1)), (a 5, .inr (4, [.ref (a 13), .ref (a 14), .int (iv 5), .int (iv 6), .int (iv 7), .int (iv 8), .int (iv 9), .int (iv 10), .int (iv 11), .int (iv 12)]))]) [0, 1, 2, 3, 4, 5, 6] (by decide) rfl
    exact W.iret (v := (nI q__1)) hx hb hr (fun t ht hW => ⟨⟨(nI q__1), f25_1, rfl, ⟨_, rfl, e_1_0, e_1_1⟩, ⟨by rw [ht]; exact hP9, hD9⟩⟩, hS.F ht⟩) hS.2.2 dX2_tryFirstOrder_115
  refine lv_iload_n hx hb dX2_tryFirstOrder_50 rfl (lv_at hl 0 rfl) ?_
  have hP9 := hP.sub (ws' := [(a 6, .inr (2, [.ref (a 16), .ref (a 17), .ref (a 18), .ref (a 19), .ref (a 20), .ref (a 21), .ref (a 22), .ref (a 23), .ref (a 24), .ref (a 25), .ref (a 26), .ref (a 27), .int (iv 20), .int (iv 21), .int (iv 22), .int (iv 23)])), (a 17, .inl (cI, 10, .inl (av 17))), (a 20, .inl (cI, 121, .inl (av 20))), (a 21, .inl (cI, 240, .inl (av 21))), (a 23, .inl (cI, 10240, .inl (av 23))), (a 25, .inl (cI, 10, .inl f25_2)), (a 5, .inr (4, [.ref (a 13), .ref (a 14), .int (iv 5), .int (iv 6), .int (iv 7), .int (iv 8), .int (iv 9), .int (iv 10), .int (iv 11), .int (iv 12)]))]) [0, 1, 2, 3, 4, 5, 6] rfl
  have hD9 := hD.sub (ws' := [(a 6, .inr (2, [.ref (a 16), .ref (a 17), .ref (a 18), .ref (a 19), .ref (a 20), .ref (a 21), .ref (a 22), .ref (a 23), .ref (a 24), .ref (a 25), .ref (a 26), .ref (a 27), .int (iv 20), .int (iv 21), .int (iv 22), .int (iv 23)])), (a 17, .inl (cI, 10, .inl (av 17))), (a 20, .inl (cI, 121, .inl (av 20))), (a 21, .inl (cI, 240, .inl (av 21))), (a 23, .inl (cI, 10240, .inl (av 23))), (a 25, .inl (cI, 10, .inl f25_2)), (a 5, .inr (4, [.ref (a 13), .ref (a 14), .int (iv 5), .int (iv 6), .int (iv 7), .int (iv 8), .int (iv 9), .int (iv 10), .int (iv 11), .int (iv 12)]))]) [0, 1, 2, 3, 4, 5, 6] (by decide) rfl
  exact W.iret (v := (nI q__2)) hx hb hr (fun t ht hW => ⟨⟨(nI q__2), f25_2, rfl, ⟨_, rfl, e_2_0, e_2_1⟩, ⟨by rw [ht]; exact hP9, hD9⟩⟩, hS.F ht⟩) hS.2.2 dX2_tryFirstOrder_51
set_option maxHeartbeats 4000000 in
set_option maxRecDepth 100000 in
/-- X2_isTriedFirst: the loop at 2 -/
theorem lp_X2_isTriedFirst {p : Program} {l : Launch} {e : Env} {s : State} {m : MethodId} {args : Array Value} {below : List Frame} {meth : Method} {c : Code} {Q : State → Prop} {D : va_G} {cI cJ cZ cM : Nat} {a : Nat → Nat} {iv : Nat → Int32} {av : Nat → Nat → Int32} {q_ : Nat} {H : Heap} (hx : p.tables.exec = Jvm.exec) (hb : c.code = cX2_isTriedFirst) (hml : c.maxLocals = 3) (hts : ∀ w ∈ wsX2_isTriedFirst, w.before args s = true) (hown : s.vm.findClass RX2 = some m.cls) (hG : GK D cI cJ cZ cM s) (hP : va_P D vwCl [(a 6, .inr (2, [.ref (a 16), .ref (a 17), .ref (a 18), .ref (a 19), .ref (a 20), .ref (a 21), .ref (a 22), .ref (a 23), .ref (a 24), .ref (a 25), .ref (a 26), .ref (a 27), .int (iv 20), .int (iv 21), .int (iv 22), .int (iv 23)])), (a 25, .inl (cI, 10, .inl (av 25))), (a 26, .inl (cI, 10, .inl (av 26)))] H) (hq : q_ ≤ 10) :
    ∀ (k9 : Nat) (k_ : Nat), (k_ ≤ q_) → q_ - k_ < k9 → ∀ (ls : Array Slot), lv_has ls 3 [(2, .int (nI k_)), (0, .ref (a 6)), (1, .int (nI q_))] → (∀  (ls : Array Slot), lv_has ls 3 [(0, .ref (a 6)), (1, .int (nI q_))] → W p l e (headSpec wsX2_isTriedFirst ({ frames := 0, cells := 0, slots := 0, locals := 0 } : Room)).room s m args below meth c H [] 0 0 Q (F0 m 57 ls [])) → (∀ (z : Int32) (ls : Array Slot), (narrow FieldType.boolean (Value.int z) = Value.int z) → lv_has ls 3 [(0, .ref (a 6))] → W p l e (headSpec wsX2_isTriedFirst ({ frames := 0, cells := 0, slots := 0, locals := 0 } : Room)).room s m args below meth c H [] 0 0 Q (F0 m 50 ls [.int z])) → W p l e (headSpec wsX2_isTriedFirst ({ frames := 0, cells := 0, slots := 0, locals := 0 } : Room)).room s m args below meth c H [] 0 0 Q (F0 m 2 ls []) := by
  have hK := hG.1
  have hN := hG.2
  intro k9
  induction k9 with
  | zero => intro k_ hk hfu; exact absurd hfu (Nat.not_lt_zero _)
  | succ k9 ih =>
    intro k_ hk hfu ls hl kk0 kk1
    rcases Nat.lt_or_ge k_ q_ with hlt | hge
    · refine lv_iload_n hx hb dX2_isTriedFirst_2 rfl (lv_at hl 0 rfl) ?_
      refine lv_iload_n hx hb dX2_isTriedFirst_3 rfl (lv_at hl 2 rfl) ?_
      refine lv_icmp_ge (tgt := 57) hx hb dX2_isTriedFirst_4 (by decide) (fun c_1 => absurd c_1 (nI_ge hlt (by omega))) (fun c_1 => ?_)
      refine lv_iload_n hx hb dX2_isTriedFirst_7 rfl (lv_at hl 0 rfl) ?_
      refine lv_aload_n hx hb dX2_isTriedFirst_8 rfl (lv_at hl 1 rfl) ?_
      refine va_get (D := D) (ci := 2) (v := .int (iv 21)) (C := RX2) (T := TX2) (N := 16) hx hb hts (fun _ h9 => List.mem_cons_of_mem _ (List.mem_append_right _ h9)) hown hK hP 0 rfl rfl 13 (by decide) (hts (.fieldLink RX2 72 "BuoyTender$Planner" "length" "I") (by decide +kernel)) (fun _ h9 => h9) rfl dX2_isTriedFirst_9 ?_
      refine lv_icmp_ge (tgt := 57) hx hb dX2_isTriedFirst_12 (by decide) (fun c_2 => ?_) (fun c_2 => ?_)
      · exact kk0  _  (lv_sub hl [1, 2] rfl)
      refine lv_aload_n hx hb dX2_isTriedFirst_15 rfl (lv_at hl 1 rfl) ?_
      refine va_get (D := D) (ci := 2) (v := .ref (a 25)) (C := RX2) (T := TX2) (N := 16) hx hb hts (fun _ h9 => List.mem_cons_of_mem _ (List.mem_append_right _ h9)) hown hK hP 0 rfl rfl 9 (by decide) (hts (.fieldLink RX2 39 "BuoyTender$Planner" "tried" "[I") (by decide +kernel)) (fun _ h9 => h9) rfl dX2_isTriedFirst_16 ?_
      refine lv_iload_n hx hb dX2_isTriedFirst_19 rfl (lv_at hl 0 rfl) ?_
      refine va_iald hx hb hK hP 1 0 rfl rfl (vp_in_nI (by omega) (by decide)) dX2_isTriedFirst_20 ?_
      refine lv_topi (fun z_3 ez_3 => ?_)
      obtain rfl : z_3 = (av 25) k_ := ez_3.trans (congrArg (av 25) (nI_clamp (by omega)))
      refine lv_aload_n hx hb dX2_isTriedFirst_21 rfl (lv_at hl 1 rfl) ?_
      refine va_get (D := D) (ci := 2) (v := .ref (a 26)) (C := RX2) (T := TX2) (N := 16) hx hb hts (fun _ h9 => List.mem_cons_of_mem _ (List.mem_append_right _ h9)) hown hK hP 0 rfl rfl 10 (by decide) (hts (.fieldLink RX2 42 "BuoyTender$Planner" "order" "[I") (by decide +kernel)) (fun _ h9 => h9) rfl dX2_isTriedFirst_22 ?_
      refine lv_iload_n hx hb dX2_isTriedFirst_25 rfl (lv_at hl 0 rfl) ?_
      refine va_iald hx hb hK hP 2 0 rfl rfl (vp_in_nI (by omega) (by decide)) dX2_isTriedFirst_26 ?_
      refine lv_topi (fun z_4 ez_4 => ?_)
      obtain rfl : z_4 = (av 26) k_ := ez_4.trans (congrArg (av 26) (nI_clamp (by omega)))
      refine lv_icmp_eq (tgt := 51) hx hb dX2_isTriedFirst_27 (by decide) (fun c_5 => ?_) (fun c_5 => ?_)
      · refine lv_iinc (v := nI (k_ + 1)) (lv' := [(2, .int (nI (k_ + 1))), (0, .ref (a 6)), (1, .int (nI q_))]) hx hb dX2_isTriedFirst_51 hl (k := 0) rfl (nI_add k_ 1) (by decide) rfl (fun ls hl => ?_)
        refine lv_goto (tgt := 2) hx hb dX2_isTriedFirst_54 (by decide) ?_
        exact ih (k_ + 1) (by omega) (by omega) _ (lv_sub hl [0, 1, 2] rfl) kk0 kk1
      refine lv_aload_n hx hb dX2_isTriedFirst_30 rfl (lv_at hl 1 rfl) ?_
      refine va_get (D := D) (ci := 2) (v := .ref (a 25)) (C := RX2) (T := TX2) (N := 16) hx hb hts (fun _ h9 => List.mem_cons_of_mem _ (List.mem_append_right _ h9)) hown hK hP 0 rfl rfl 9 (by decide) (hts (.fieldLink RX2 39 "BuoyTender$Planner" "tried" "[I") (by decide +kernel)) (fun _ h9 => h9) rfl dX2_isTriedFirst_31 ?_
      refine lv_iload_n hx hb dX2_isTriedFirst_34 rfl (lv_at hl 0 rfl) ?_
      refine va_iald hx hb hK hP 1 0 rfl rfl (vp_in_nI (by omega) (by decide)) dX2_isTriedFirst_35 ?_
      refine lv_topi (fun z_6 ez_6 => ?_)
      obtain rfl : z_6 = (av 25) k_ := ez_6.trans (congrArg (av 25) (nI_clamp (by omega)))
      refine lv_aload_n hx hb dX2_isTriedFirst_36 rfl (lv_at hl 1 rfl) ?_
      refine va_get (D := D) (ci := 2) (v := .ref (a 26)) (C := RX2) (T := TX2) (N := 16) hx hb hts (fun _ h9 => List.mem_cons_of_mem _ (List.mem_append_right _ h9)) hown hK hP 0 rfl rfl 10 (by decide) (hts (.fieldLink RX2 42 "BuoyTender$Planner" "order" "[I") (by decide +kernel)) (fun _ h9 => h9) rfl dX2_isTriedFirst_37 ?_
      refine lv_iload_n hx hb dX2_isTriedFirst_40 rfl (lv_at hl 0 rfl) ?_
      refine va_iald hx hb hK hP 2 0 rfl rfl (vp_in_nI (by omega) (by decide)) dX2_isTriedFirst_41 ?_
      refine lv_topi (fun z_7 ez_7 => ?_)
      obtain rfl : z_7 = (av 26) k_ := ez_7.trans (congrArg (av 26) (nI_clamp (by omega)))
      refine lv_icmp_ge (tgt := 49) hx hb dX2_isTriedFirst_42 (by decide) (fun c_8 => ?_) (fun c_8 => ?_)
      · refine lv_iconst (v := 0) hx hb dX2_isTriedFirst_49 (by decide) ?_
        exact kk1 0 _ rfl (lv_sub hl [1] rfl)
      refine lv_iconst (v := 1) hx hb dX2_isTriedFirst_45 (by decide) ?_
      refine lv_goto (tgt := 50) hx hb dX2_isTriedFirst_46 (by decide) ?_
      exact kk1 1 _ rfl (lv_sub hl [1] rfl)
    · refine lv_iload_n hx hb dX2_isTriedFirst_2 rfl (lv_at hl 0 rfl) ?_
      refine lv_iload_n hx hb dX2_isTriedFirst_3 rfl (lv_at hl 2 rfl) ?_
      refine lv_icmp_ge (tgt := 57) hx hb dX2_isTriedFirst_4 (by decide) (fun c_9 => ?_) (fun c_9 => absurd (nI_le hge (by omega)) c_9)
      exact kk0  _  (lv_sub hl [1, 2] rfl)
set_option maxHeartbeats 4000000 in
set_option maxRecDepth 100000 in
/-- X2_isTriedFirst -/
theorem k_X2_isTriedFirst (l : Launch) (D : va_G) (cI cJ cZ cM : Nat) (a : Nat → Nat) (iv : Nat → Int32) (av : Nat → Nat → Int32) (q_ : Nat) (hq : q_ ≤ 10) : Met l yX2_isTriedFirst wsX2_isTriedFirst ({ frames := 0, cells := 0, slots := 0, locals := 0 } : Room) (RO D cI cJ cZ cM [.ref (a 6), .int (nI q_)] [(a 6, .inr (2, [.ref (a 16), .ref (a 17), .ref (a 18), .ref (a 19), .ref (a 20), .ref (a 21), .ref (a 22), .ref (a 23), .ref (a 24), .ref (a 25), .ref (a 26), .ref (a 27), .int (iv 20), .int (iv 21), .int (iv 22), .int (iv 23)])), (a 25, .inl (cI, 10, .inl (av 25))), (a 26, .inl (cI, 10, .inl (av 26)))]) (vp_Si (fun r => True)) 0 0 (fun _ => False) := by
  refine Met.ofW (cc := cX2_isTriedFirst) (maxL := 3) (ret := (some .boolean)) (by decide) rfl ?_
  intro p e s m args below meth c s₁ B hml hv
  obtain ⟨rfl, hG, hP⟩ := hv
  have hx := B.exec
  have hb := B.bytes
  have hr := B.returns
  have hts := atoms_spec (ws := wsX2_isTriedFirst) B.pre
  have hown : s.vm.findClass RX2 = some m.cls := findClass_of_methodNamed B.named
  have hlocks := B.notSynchronized
  have hK := hG.1
  have hN := hG.2
  have hl := lv_entry ([.ref (a 6), .int (nI q_)]) (n := 3) (Nat.le_of_ble_eq_true rfl)
  rw [lg_entry_eq]
  generalize (lg_sl ([.ref (a 6), .int (nI q_)]) ++ List.replicate (3 - (lg_sl ([.ref (a 6), .int (nI q_)])).length) Slot.unset).toArray = ls at hl ⊢
  have hl : lv_has ls 3 [(0, .ref (a 6)), (1, .int (nI q_))] := hl
  refine lv_iconst (v := 0) hx hb dX2_isTriedFirst_0 (by decide) ?_
  refine lv_istore_n (lv' := [(2, .int 0), (0, .ref (a 6)), (1, .int (nI q_))]) hx hb dX2_isTriedFirst_1 rfl hl (by decide) rfl (fun ls hl => ?_)
  have hPl := hP.sub (ws' := [(a 6, .inr (2, [.ref (a 16), .ref (a 17), .ref (a 18), .ref (a 19), .ref (a 20), .ref (a 21), .ref (a 22), .ref (a 23), .ref (a 24), .ref (a 25), .ref (a 26), .ref (a 27), .int (iv 20), .int (iv 21), .int (iv 22), .int (iv 23)])), (a 25, .inl (cI, 10, .inl (av 25))), (a 26, .inl (cI, 10, .inl (av 26)))]) [0, 1, 2] rfl
  refine lp_X2_isTriedFirst hx hb hml hts hown hG hPl hq (q_ + 1) 0 (Nat.zero_le _) (by omega) _ (lv_sub hl [0, 1, 2] rfl) (fun  ls  hl => ?_) (fun z_2 ls e_2_0 hl => ?_)
  · refine lv_iload_n hx hb dX2_isTriedFirst_57 rfl (lv_at hl 1 rfl) ?_
    refine lv_aload_n hx hb dX2_isTriedFirst_58 rfl (lv_at hl 0 rfl) ?_
    refine va_get (D := D) (ci := 2) (v := .int (iv 21)) (C := RX2) (T := TX2) (N := 16) hx hb hts (fun _ h9 => List.mem_cons_of_mem _ (List.mem_append_right _ h9)) hown hK hP 0 rfl rfl 13 (by decide) (hts (.fieldLink RX2 72 "BuoyTender$Planner" "length" "I") (by decide +kernel)) (fun _ h9 => h9) rfl dX2_isTriedFirst_59 ?_
    refine lv_icmp_ge (tgt := 69) hx hb dX2_isTriedFirst_62 (by decide) (fun c_3 => ?_) (fun c_3 => ?_)
    · refine lv_iconst (v := 0) hx hb dX2_isTriedFirst_69 (by decide) ?_
      exact W.zret (v := 0) hx hb hr rfl (fun t ht hW => ⟨0, rfl, trivial, ht⟩) (fun _ h => by cases h) dX2_isTriedFirst_70
    refine lv_iconst (v := 1) hx hb dX2_isTriedFirst_65 (by decide) ?_
    refine lv_goto (tgt := 70) hx hb dX2_isTriedFirst_66 (by decide) ?_
    exact W.zret (v := 1) hx hb hr rfl (fun t ht hW => ⟨1, rfl, trivial, ht⟩) (fun _ h => by cases h) dX2_isTriedFirst_70
  exact W.zret (v := z_2) hx hb hr e_2_0 (fun t ht hW => ⟨z_2, rfl, trivial, ht⟩) (fun _ h => by cases h) dX2_isTriedFirst_50
