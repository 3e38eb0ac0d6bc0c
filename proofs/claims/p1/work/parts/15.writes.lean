theorem ix_kc {x y X Y : Int32} {a b c N : Nat} (hX : X.toInt = a) (hY : Y.toInt = b) (hx : 0 ≤ x ∧ x ≤ X) (hy : 0 ≤ y ∧ y ≤ Y) (hN : a * c + b < N) (hs : N < 2 ^ 31) : vp_in (x * nI c + y) N := by
  obtain ⟨j, hj, rfl⟩ := nI_of2 hX (Int32.not_lt.mpr hx.1) hx.2
  obtain ⟨i, hi, rfl⟩ := nI_of2 hY (Int32.not_lt.mpr hy.1) hy.2
  rw [pk_mul, nI_add]
  have h1 : j * c ≤ a * c := Nat.mul_le_mul_right c hj
  exact vp_in_nI (by omega) hs
theorem ix_ck {x y X Y : Int32} {a b c N : Nat} (hX : X.toInt = a) (hY : Y.toInt = b) (hx : 0 ≤ x ∧ x ≤ X) (hy : 0 ≤ y ∧ y ≤ Y) (hN : a * c + b < N) (hs : N < 2 ^ 31) : vp_in (nI c * x + y) N := by
  obtain ⟨j, hj, rfl⟩ := nI_of2 hX (Int32.not_lt.mpr hx.1) hx.2
  obtain ⟨i, hi, rfl⟩ := nI_of2 hY (Int32.not_lt.mpr hy.1) hy.2
  rw [pk_mul, nI_add]
  have h1 : j * c ≤ a * c := Nat.mul_le_mul_right c hj
  rw [Nat.mul_comm]
  exact vp_in_nI (by omega) hs
theorem ix_1 {x X : Int32} {a N : Nat} (hX : X.toInt = a) (hx : 0 ≤ x ∧ x ≤ X) (hN : a < N) (hs : N < 2 ^ 31) : vp_in x N := by
  obtain ⟨j, hj, rfl⟩ := nI_of2 hX (Int32.not_lt.mpr hx.1) hx.2
  exact vp_in_nI (by omega) hs
theorem ix_rc {i j : Nat} (hi : i ≤ 39) (hj : j ≤ 39) : vp_in (nI i * 40 + nI j) 1600 := by
  have h := vp_in_nI (n := i * 40 + j) (N := 1600) (by omega) (by decide)
  rw [← nI_add, ← pk_mul] at h
  exact h
theorem ix_cr {i j : Nat} (hi : i ≤ 39) (hj : j ≤ 39) : vp_in (40 * nI i + nI j) 1600 := by
  have h := vp_in_nI (n := 40 * i + j) (N := 1600) (by omega) (by decide)
  rw [← nI_add, ← pk_mul] at h
  exact h
set_option maxHeartbeats 4000000 in
set_option maxRecDepth 100000 in
/-- X8_day on a fresh object -/
theorem k_X8_day (l : Launch) (D : va_G) (cI cJ cZ cM : Nat) (h0 : Nat) (a : Nat → Nat) (x1 : Int32) (sz : Nat) : Met l yX8_day wsX8_day ({ frames := 1, cells := 0, slots := 0, locals := 22 } : Room) (RW D cI cJ cZ cM [.ref h0, .int x1] [(h0, .inr (8, [.ref (a 1), .ref (a 2), .ref (a 3), .ref (a 4), .ref (a 5), .ref (a 6), .ref (a 7), .null, .int 0, .int 0, .int 0, .int 0]))] sz) (va_Qi (S := Unit) (fun r u => okI 1 0 ((0 ≤ x1 ∧ x1 ≤ 10000)) r) (fun _ _ => True) (va_A [(h0, .inr (8, [.ref (a 1), .ref (a 2), .ref (a 3), .ref (a 4), .ref (a 5), .ref (a 6), .ref (a 7), .null, .int 0, .int 0, .int 0, .int 0]))] sz)) 0 0 (va_A [(h0, .inr (8, [.ref (a 1), .ref (a 2), .ref (a 3), .ref (a 4), .ref (a 5), .ref (a 6), .ref (a 7), .null, .int 0, .int 0, .int 0, .int 0]))] sz) := by
  refine Met.ofW (cc := cX8_day) (maxL := 2) (ret := (some .boolean)) (by decide) rfl ?_
  intro p e s m args below meth c s₁ B hml hv
  obtain ⟨rfl, hsz, hG, hP, hD0⟩ := hv
  have hx := B.exec
  have hb := B.bytes
  have hr := B.returns
  have hts := atoms_spec (ws := wsX8_day) B.pre
  have hown : s.vm.findClass RX8 = some m.cls := findClass_of_methodNamed B.named
  have hlocks := B.notSynchronized
  have hK := hG.1
  have hN := hG.2
  subst hsz
  have hD := hD0.self (sz := s.heap.size)
  generalize hAe : va_A [(h0, .inr (8, [.ref (a 1), .ref (a 2), .ref (a 3), .ref (a 4), .ref (a 5), .ref (a 6), .ref (a 7), .null, .int 0, .int 0, .int 0, .int 0]))] s.heap.size = A at hD ⊢
  have hA : ∀ q : Nat, s.heap.size ≤ q → A q := fun q h => by rw [← hAe]; exact Or.inr h
  have hS : va_S A s.heap s.heap [] := va_S.rf
  have hP : va_P D vwCl [(h0, .inr (8, [.ref (a 1), .ref (a 2), .ref (a 3), .ref (a 4), .ref (a 5), .ref (a 6), .ref (a 7), .null, .int 0, .int 0, .int 0, .int 0]))] s.heap := hP
  have hl := lv_entry ([.ref h0, .int x1]) (n := 2) (Nat.le_of_ble_eq_true rfl)
  rw [lg_entry_eq]
  generalize (lg_sl ([.ref h0, .int x1]) ++ List.replicate (2 - (lg_sl ([.ref h0, .int x1])).length) Slot.unset).toArray = ls at hl ⊢
  have hl : lv_has ls 2 [(0, .ref h0), (1, .int x1)] := hl
  refine lv_iload_n hx hb dX8_day_0 rfl (lv_at hl 1 rfl) ?_
  refine lv_aload_n hx hb dX8_day_1 rfl (lv_at hl 0 rfl) ?_
  refine va_get (D := D) (ci := 8) (v := .int 0) (C := RX8) (T := TX8) (N := 12) hx hb hts (fun _ h9 => List.mem_cons_of_mem _ (List.mem_append_right _ h9)) hown hK hP 0 rfl rfl 9 (by decide) (hts (.fieldLink RX8 113 "BuoyTender" "today" "I") (by decide +kernel)) (fun _ h9 => h9) rfl dX8_day_2 ?_
  refine lv_sipush (v := 10000) hx hb dX8_day_5 (by decide) ?_
  refine vp_callSi (va_Run.run (va_runS (As := [.int x1, .int 0, .int 10000]) (rest := []) ⟨hx, hb, hml, hown, hts⟩ (k_X8_within l x1 0 10000) (va_cwS 3 hts gX8_day_X8_within rfl rfl rfl (by decide +kernel) ⟨Nat.le_of_ble_eq_true rfl, Nat.le_of_ble_eq_true rfl⟩) preEq rfl rfl hl.1 rfl (lv_room (Nat.le_of_ble_eq_true rfl)) dX8_day_8 ⟨Nat.le_of_ble_eq_true rfl, Nat.le_of_ble_eq_true rfl⟩)) (fun r_1 h_1 => ?_)
  rcases h_1 with ⟨rfl, h_1⟩ | ⟨rfl, h_1⟩
  · refine lv_if_ne (tgt := 16) hx hb dX8_day_11 (by decide) (fun _ => ?_) (fun c_2 => False.elim (by revert c_2; decide))
    refine lv_aload_n hx hb dX8_day_16 rfl (lv_at hl 0 rfl) ?_
    refine lv_iload_n hx hb dX8_day_17 rfl (lv_at hl 1 rfl) ?_
    refine va_put (D := D) (ci := 8) (v := .int x1) (ty := (tyX8 9)) (C := RX8) (T := TX8) (N := 12) hx hb hts (fun _ h9 => List.mem_cons_of_mem _ (List.mem_append_right _ h9)) tyX8 tyX8_ok nmX8 hown hK hP hD hS 0 rfl rfl 9 (by decide) (hts (.fieldLink RX8 113 "BuoyTender" "today" "I") (by decide +kernel)) (fun _ h9 => h9) rfl (by decide +kernel) rfl rfl (Nat.le_of_ble_eq_true rfl) dX8_day_18 (fun H locs hP hD hS => ?_)
    have hP : va_P D vwCl [(h0, .inr (8, [.ref (a 1), .ref (a 2), .ref (a 3), .ref (a 4), .ref (a 5), .ref (a 6), .ref (a 7), .null, .int 0, .int x1, .int 0, .int 0]))] H := hP
    have hD : va_D A [(h0, .inr (8, [.ref (a 1), .ref (a 2), .ref (a 3), .ref (a 4), .ref (a 5), .ref (a 6), .ref (a 7), .null, .int 0, .int x1, .int 0, .int 0]))] := hD
    refine lv_iconst (v := 1) hx hb dX8_day_21 (by decide) ?_
    exact W.zret (v := 1) hx hb hr rfl (fun t ht hW => ⟨⟨1, (), rfl, (Or.inl ⟨rfl, h_1⟩), trivial⟩, hS.F ht⟩) hS.2.2 dX8_day_22
  refine lv_if_ne (tgt := 16) hx hb dX8_day_11 (by decide) (fun c_3 => False.elim (by revert c_3; decide)) (fun _ => ?_)
  refine lv_iconst (v := 0) hx hb dX8_day_14 (by decide) ?_
  exact W.zret (v := 0) hx hb hr rfl (fun t ht hW => ⟨⟨0, (), rfl, (Or.inr ⟨rfl, fun h9 => h_1 (h9)⟩), trivial⟩, hS.F ht⟩) hS.2.2 dX8_day_15
set_option maxHeartbeats 4000000 in
set_option maxRecDepth 100000 in
/-- X8_wear on a fresh object -/
theorem k_X8_wear (l : Launch) (D : va_G) (cI cJ cZ cM : Nat) (h0 : Nat) (a : Nat → Nat) (x1 : Int32) (x2 : Int32) (x3 : Int32) (sz : Nat) : Met l yX8_wear wsX8_wear ({ frames := 1, cells := 0, slots := 0, locals := 22 } : Room) (RW D cI cJ cZ cM [.ref h0, .int x1, .int x2, .int x3] [(h0, .inr (8, [.ref (a 1), .ref (a 2), .ref (a 3), .ref (a 4), .ref (a 5), .ref (a 6), .ref (a 7), .null, .int 0, .int 0, .int 0, .int 0])), (a 3, .inl (cI, 48, .inl (fun _ => 0)))] sz) (va_Qi (S := Unit) (fun r u => okI 1 0 ((0 ≤ x1 ∧ x1 ≤ 3) ∧ (0 ≤ x2 ∧ x2 ≤ 11) ∧ (0 ≤ x3 ∧ x3 ≤ 100)) r) (fun _ _ => True) (va_A [(h0, .inr (8, [.ref (a 1), .ref (a 2), .ref (a 3), .ref (a 4), .ref (a 5), .ref (a 6), .ref (a 7), .null, .int 0, .int 0, .int 0, .int 0])), (a 3, .inl (cI, 48, .inl (fun _ => 0)))] sz)) 0 0 (va_A [(h0, .inr (8, [.ref (a 1), .ref (a 2), .ref (a 3), .ref (a 4), .ref (a 5), .ref (a 6), .ref (a 7), .null, .int 0, .int 0, .int 0, .int 0])), (a 3, .inl (cI, 48, .inl (fun _ => 0)))] sz) := by
  refine Met.ofW (cc := cX8_wear) (maxL := 4) (ret := (some .boolean)) (by decide) rfl ?_
  intro p e s m args below meth c s₁ B hml hv
  obtain ⟨rfl, hsz, hG, hP, hD0⟩ := hv
  have hx := B.exec
  have hb := B.bytes
  have hr := B.returns
  have hts := atoms_spec (ws := wsX8_wear) B.pre
  have hown : s.vm.findClass RX8 = some m.cls := findClass_of_methodNamed B.named
  have hlocks := B.notSynchronized
  have hK := hG.1
  have hN := hG.2
  subst hsz
  have hD := hD0.self (sz := s.heap.size)
  generalize hAe : va_A [(h0, .inr (8, [.ref (a 1), .ref (a 2), .ref (a 3), .ref (a 4), .ref (a 5), .ref (a 6), .ref (a 7), .null, .int 0, .int 0, .int 0, .int 0])), (a 3, .inl (cI, 48, .inl (fun _ => 0)))] s.heap.size = A at hD ⊢
  have hA : ∀ q : Nat, s.heap.size ≤ q → A q := fun q h => by rw [← hAe]; exact Or.inr h
  have hS : va_S A s.heap s.heap [] := va_S.rf
  have hP : va_P D vwCl [(h0, .inr (8, [.ref (a 1), .ref (a 2), .ref (a 3), .ref (a 4), .ref (a 5), .ref (a 6), .ref (a 7), .null, .int 0, .int 0, .int 0, .int 0])), (a 3, .inl (cI, 48, .inl (fun _ => 0)))] s.heap := hP
  have hl := lv_entry ([.ref h0, .int x1, .int x2, .int x3]) (n := 4) (Nat.le_of_ble_eq_true rfl)
  rw [lg_entry_eq]
  generalize (lg_sl ([.ref h0, .int x1, .int x2, .int x3]) ++ List.replicate (4 - (lg_sl ([.ref h0, .int x1, .int x2, .int x3])).length) Slot.unset).toArray = ls at hl ⊢
  have hl : lv_has ls 4 [(0, .ref h0), (1, .int x1), (2, .int x2), (3, .int x3)] := hl
  refine lv_iload_n hx hb dX8_wear_0 rfl (lv_at hl 1 rfl) ?_
  refine lv_iconst (v := 0) hx hb dX8_wear_1 (by decide) ?_
  refine lv_iconst (v := 3) hx hb dX8_wear_2 (by decide) ?_
  refine vp_callSi (va_Run.run (va_runS (As := [.int x1, .int 0, .int 3]) (rest := []) ⟨hx, hb, hml, hown, hts⟩ (k_X8_within l x1 0 3) (va_cwS 3 hts gX8_wear_X8_within rfl rfl rfl (by decide +kernel) ⟨Nat.le_of_ble_eq_true rfl, Nat.le_of_ble_eq_true rfl⟩) preEq rfl rfl hl.1 rfl (lv_room (Nat.le_of_ble_eq_true rfl)) dX8_wear_3 ⟨Nat.le_of_ble_eq_true rfl, Nat.le_of_ble_eq_true rfl⟩)) (fun r_1 h_1 => ?_)
  rcases h_1 with ⟨rfl, h_1⟩ | ⟨rfl, h_1⟩
  · refine lv_if_eq (tgt := 29) hx hb dX8_wear_6 (by decide) (fun c_2 => False.elim (by revert c_2; decide)) (fun _ => ?_)
    refine lv_iload_n hx hb dX8_wear_9 rfl (lv_at hl 2 rfl) ?_
    refine lv_iconst (v := 0) hx hb dX8_wear_10 (by decide) ?_
    refine lv_bipush (v := 11) hx hb dX8_wear_11 (by decide) ?_
    refine vp_callSi (va_Run.run (va_runS (As := [.int x2, .int 0, .int 11]) (rest := []) ⟨hx, hb, hml, hown, hts⟩ (k_X8_within l x2 0 11) (va_cwS 3 hts gX8_wear_X8_within rfl rfl rfl (by decide +kernel) ⟨Nat.le_of_ble_eq_true rfl, Nat.le_of_ble_eq_true rfl⟩) preEq rfl rfl hl.1 rfl (lv_room (Nat.le_of_ble_eq_true rfl)) dX8_wear_13 ⟨Nat.le_of_ble_eq_true rfl, Nat.le_of_ble_eq_true rfl⟩)) (fun r_3 h_3 => ?_)
    rcases h_3 with ⟨rfl, h_3⟩ | ⟨rfl, h_3⟩
    · refine lv_if_eq (tgt := 29) hx hb dX8_wear_16 (by decide) (fun c_4 => False.elim (by revert c_4; decide)) (fun _ => ?_)
      refine lv_iload_n hx hb dX8_wear_19 rfl (lv_at hl 3 rfl) ?_
      refine lv_iconst (v := 0) hx hb dX8_wear_20 (by decide) ?_
      refine lv_bipush (v := 100) hx hb dX8_wear_21 (by decide) ?_
      refine vp_callSi (va_Run.run (va_runS (As := [.int x3, .int 0, .int 100]) (rest := []) ⟨hx, hb, hml, hown, hts⟩ (k_X8_within l x3 0 100) (va_cwS 3 hts gX8_wear_X8_within rfl rfl rfl (by decide +kernel) ⟨Nat.le_of_ble_eq_true rfl, Nat.le_of_ble_eq_true rfl⟩) preEq rfl rfl hl.1 rfl (lv_room (Nat.le_of_ble_eq_true rfl)) dX8_wear_23 ⟨Nat.le_of_ble_eq_true rfl, Nat.le_of_ble_eq_true rfl⟩)) (fun r_5 h_5 => ?_)
      rcases h_5 with ⟨rfl, h_5⟩ | ⟨rfl, h_5⟩
      · refine lv_if_ne (tgt := 31) hx hb dX8_wear_26 (by decide) (fun _ => ?_) (fun c_6 => False.elim (by revert c_6; decide))
        refine lv_aload_n hx hb dX8_wear_31 rfl (lv_at hl 0 rfl) ?_
        refine va_get (D := D) (ci := 8) (v := .ref (a 3)) (C := RX8) (T := TX8) (N := 12) hx hb hts (fun _ h9 => List.mem_cons_of_mem _ (List.mem_append_right _ h9)) hown hK hP 0 rfl rfl 2 (by decide) (hts (.fieldLink RX8 19 "BuoyTender" "wears" "[I") (by decide +kernel)) (fun _ h9 => h9) rfl dX8_wear_32 ?_
        refine lv_iload_n hx hb dX8_wear_35 rfl (lv_at hl 1 rfl) ?_
        refine lv_bipush (v := 12) hx hb dX8_wear_36 (by decide) ?_
        refine lv_imul hx hb dX8_wear_38 ?_
        refine lv_iload_n hx hb dX8_wear_39 rfl (lv_at hl 2 rfl) ?_
        refine lv_iadd hx hb dX8_wear_40 ?_
        refine lv_iload_n hx hb dX8_wear_41 rfl (lv_at hl 3 rfl) ?_
        refine va_iast hx hb hK hP hD hS 1 0 rfl rfl (ix_kc (X := 3) (Y := 11) (a := 3) (b := 11) (c := 12) (by decide) (by decide) h_1 h_3 (by decide) (by decide)) dX8_wear_42 (fun H locs hP hD hS => ?_)
        have hP : va_P D vwCl [(h0, .inr (8, [.ref (a 1), .ref (a 2), .ref (a 3), .ref (a 4), .ref (a 5), .ref (a 6), .ref (a 7), .null, .int 0, .int 0, .int 0, .int 0])), (a 3, .inl (cI, 48, .inl (upd (fun _ => 0) ((x1 * 12) + x2).toNatClampNeg x3)))] H := hP
        have hD : va_D A [(h0, .inr (8, [.ref (a 1), .ref (a 2), .ref (a 3), .ref (a 4), .ref (a 5), .ref (a 6), .ref (a 7), .null, .int 0, .int 0, .int 0, .int 0])), (a 3, .inl (cI, 48, .inl (upd (fun _ => 0) ((x1 * 12) + x2).toNatClampNeg x3)))] := hD
        refine lv_iconst (v := 1) hx hb dX8_wear_43 (by decide) ?_
        exact W.zret (v := 1) hx hb hr rfl (fun t ht hW => ⟨⟨1, (), rfl, (Or.inl ⟨rfl, h_1, h_3, h_5⟩), trivial⟩, hS.F ht⟩) hS.2.2 dX8_wear_44
      refine lv_if_ne (tgt := 31) hx hb dX8_wear_26 (by decide) (fun c_8 => False.elim (by revert c_8; decide)) (fun _ => ?_)
      refine lv_iconst (v := 0) hx hb dX8_wear_29 (by decide) ?_
      exact W.zret (v := 0) hx hb hr rfl (fun t ht hW => ⟨⟨0, (), rfl, (Or.inr ⟨rfl, fun h9 => h_5 (h9.2.2)⟩), trivial⟩, hS.F ht⟩) hS.2.2 dX8_wear_30
    refine lv_if_eq (tgt := 29) hx hb dX8_wear_16 (by decide) (fun _ => ?_) (fun c_9 => False.elim (by revert c_9; decide))
    refine lv_iconst (v := 0) hx hb dX8_wear_29 (by decide) ?_
    exact W.zret (v := 0) hx hb hr rfl (fun t ht hW => ⟨⟨0, (), rfl, (Or.inr ⟨rfl, fun h9 => h_3 (h9.2.1)⟩), trivial⟩, hS.F ht⟩) hS.2.2 dX8_wear_30
  refine lv_if_eq (tgt := 29) hx hb dX8_wear_6 (by decide) (fun _ => ?_) (fun c_10 => False.elim (by revert c_10; decide))
  refine lv_iconst (v := 0) hx hb dX8_wear_29 (by decide) ?_
  exact W.zret (v := 0) hx hb hr rfl (fun t ht hW => ⟨⟨0, (), rfl, (Or.inr ⟨rfl, fun h9 => h_1 (h9.1)⟩), trivial⟩, hS.F ht⟩) hS.2.2 dX8_wear_30
set_option maxHeartbeats 4000000 in
set_option maxRecDepth 100000 in
/-- X8_near on a fresh object -/
theorem k_X8_near (l : Launch) (D : va_G) (cI cJ cZ cM : Nat) (h0 : Nat) (a : Nat → Nat) (x1 : Int32) (sz : Nat) : Met l yX8_near wsX8_near ({ frames := 1, cells := 0, slots := 0, locals := 25 } : Room) (RW D cI cJ cZ cM [.ref h0, .int x1] [(h0, .inr (8, [.ref (a 1), .ref (a 2), .ref (a 3), .ref (a 4), .ref (a 5), .ref (a 6), .ref (a 7), .null, .int 0, .int 0, .int 0, .int 0]))] sz) (va_Qi (S := Unit) (fun r u => okI 1 0 ((0 ≤ x1 ∧ x1 ≤ 5000)) r) (fun _ _ => True) (va_A [(h0, .inr (8, [.ref (a 1), .ref (a 2), .ref (a 3), .ref (a 4), .ref (a 5), .ref (a 6), .ref (a 7), .null, .int 0, .int 0, .int 0, .int 0]))] sz)) 0 0 (va_A [(h0, .inr (8, [.ref (a 1), .ref (a 2), .ref (a 3), .ref (a 4), .ref (a 5), .ref (a 6), .ref (a 7), .null, .int 0, .int 0, .int 0, .int 0]))] sz) := by
  refine Met.ofW (cc := cX8_near) (maxL := 2) (ret := (some .boolean)) (by decide) rfl ?_
  intro p e s m args below meth c s₁ B hml hv
  obtain ⟨rfl, hsz, hG, hP, hD0⟩ := hv
  have hx := B.exec
  have hb := B.bytes
  have hr := B.returns
  have hts := atoms_spec (ws := wsX8_near) B.pre
  have hown : s.vm.findClass RX8 = some m.cls := findClass_of_methodNamed B.named
  have hlocks := B.notSynchronized
  have hK := hG.1
  have hN := hG.2
  subst hsz
  have hD := hD0.self (sz := s.heap.size)
  generalize hAe : va_A [(h0, .inr (8, [.ref (a 1), .ref (a 2), .ref (a 3), .ref (a 4), .ref (a 5), .ref (a 6), .ref (a 7), .null, .int 0, .int 0, .int 0, .int 0]))] s.heap.size = A at hD ⊢
  have hA : ∀ q : Nat, s.heap.size ≤ q → A q := fun q h => by rw [← hAe]; exact Or.inr h
  have hS : va_S A s.heap s.heap [] := va_S.rf
  have hP : va_P D vwCl [(h0, .inr (8, [.ref (a 1), .ref (a 2), .ref (a 3), .ref (a 4), .ref (a 5), .ref (a 6), .ref (a 7), .null, .int 0, .int 0, .int 0, .int 0]))] s.heap := hP
  have hl := lv_entry ([.ref h0, .int x1]) (n := 2) (Nat.le_of_ble_eq_true rfl)
  rw [lg_entry_eq]
  generalize (lg_sl ([.ref h0, .int x1]) ++ List.replicate (2 - (lg_sl ([.ref h0, .int x1])).length) Slot.unset).toArray = ls at hl ⊢
  have hl : lv_has ls 2 [(0, .ref h0), (1, .int x1)] := hl
  refine lv_iload_n hx hb dX8_near_0 rfl (lv_at hl 1 rfl) ?_
  refine lv_iconst (v := 0) hx hb dX8_near_1 (by decide) ?_
  refine lv_sipush (v := 5000) hx hb dX8_near_2 (by decide) ?_
  refine vp_callSi (va_Run.run (va_runS (As := [.int x1, .int 0, .int 5000]) (rest := []) ⟨hx, hb, hml, hown, hts⟩ (k_X8_within l x1 0 5000) (va_cwS 3 hts gX8_near_X8_within rfl rfl rfl (by decide +kernel) ⟨Nat.le_of_ble_eq_true rfl, Nat.le_of_ble_eq_true rfl⟩) preEq rfl rfl hl.1 rfl (lv_room (Nat.le_of_ble_eq_true rfl)) dX8_near_5 ⟨Nat.le_of_ble_eq_true rfl, Nat.le_of_ble_eq_true rfl⟩)) (fun r_1 h_1 => ?_)
  rcases h_1 with ⟨rfl, h_1⟩ | ⟨rfl, h_1⟩
  · refine lv_if_eq (tgt := 19) hx hb dX8_near_8 (by decide) (fun c_2 => False.elim (by revert c_2; decide)) (fun _ => ?_)
    refine lv_aload_n hx hb dX8_near_11 rfl (lv_at hl 0 rfl) ?_
    refine lv_iload_n hx hb dX8_near_12 rfl (lv_at hl 1 rfl) ?_
    have hPc := hP.sub (ws' := [(h0, .inr (8, [.ref (a 1), .ref (a 2), .ref (a 3), .ref (a 4), .ref (a 5), .ref (a 6), .ref (a 7), .null, .int 0, .int 0, .int 0, .int 0]))]) [0] rfl
    refine vp_callSi (va_Run.run (va_runV (As := [.int x1]) (rest := []) ⟨hx, hb, hml, hown, hts⟩ (k_X8_clashesWithin l D cI cJ cZ cM h0 a x1) (cwV 1 hts gX8_near_X8_clashesWithin rfl rfl rfl (by decide +kernel) ⟨Nat.le_of_ble_eq_true rfl, Nat.le_of_ble_eq_true rfl⟩) (ro_V hG hPc (va_recv hK hPc (ci := 8) (q0 := 0) rfl rfl)) rfl rfl hl.1 rfl (lv_room (Nat.le_of_ble_eq_true rfl)) dX8_near_13 ⟨Nat.le_of_ble_eq_true rfl, Nat.le_of_ble_eq_true rfl⟩)) (fun r_3 h_3 => ?_)
    obtain rfl : r_3 = 0 := h_3
    refine lv_if_eq (tgt := 21) hx hb dX8_near_16 (by decide) (fun _ => ?_) (fun c_4 => False.elim (by revert c_4; decide))
    refine lv_aload_n hx hb dX8_near_21 rfl (lv_at hl 0 rfl) ?_
    refine lv_iload_n hx hb dX8_near_22 rfl (lv_at hl 1 rfl) ?_
    refine va_put (D := D) (ci := 8) (v := .int x1) (ty := (tyX8 10)) (C := RX8) (T := TX8) (N := 12) hx hb hts (fun _ h9 => List.mem_cons_of_mem _ (List.mem_append_left _ (List.mem_append_left _ (List.mem_append_right _ h9)))) tyX8 tyX8_ok nmX8 hown hK hP hD hS 0 rfl rfl 10 (by decide) (hts (.fieldLink RX8 171 "BuoyTender" "nearness" "I") (by decide +kernel)) (fun _ h9 => h9) rfl (by decide +kernel) rfl rfl (Nat.le_of_ble_eq_true rfl) dX8_near_23 (fun H locs hP hD hS => ?_)
    have hP : va_P D vwCl [(h0, .inr (8, [.ref (a 1), .ref (a 2), .ref (a 3), .ref (a 4), .ref (a 5), .ref (a 6), .ref (a 7), .null, .int 0, .int 0, .int x1, .int 0]))] H := hP
    have hD : va_D A [(h0, .inr (8, [.ref (a 1), .ref (a 2), .ref (a 3), .ref (a 4), .ref (a 5), .ref (a 6), .ref (a 7), .null, .int 0, .int 0, .int x1, .int 0]))] := hD
    refine lv_iconst (v := 1) hx hb dX8_near_26 (by decide) ?_
    exact W.zret (v := 1) hx hb hr rfl (fun t ht hW => ⟨⟨1, (), rfl, (Or.inl ⟨rfl, h_1⟩), trivial⟩, hS.F ht⟩) hS.2.2 dX8_near_27
  refine lv_if_eq (tgt := 19) hx hb dX8_near_8 (by decide) (fun _ => ?_) (fun c_5 => False.elim (by revert c_5; decide))
  refine lv_iconst (v := 0) hx hb dX8_near_19 (by decide) ?_
  exact W.zret (v := 0) hx hb hr rfl (fun t ht hW => ⟨⟨0, (), rfl, (Or.inr ⟨rfl, fun h9 => h_1 (h9)⟩), trivial⟩, hS.F ht⟩) hS.2.2 dX8_near_20
set_option maxHeartbeats 4000000 in
set_option maxRecDepth 100000 in
/-- X8_weather on a fresh object -/
theorem k_X8_weather (l : Launch) (D : va_G) (cI cJ cZ cM : Nat) (h0 : Nat) (a : Nat → Nat) (x1 : Int32) (x2 : Int32) (x3 : Int32) (sz : Nat) : Met l yX8_weather wsX8_weather ({ frames := 1, cells := 0, slots := 0, locals := 22 } : Room) (RW D cI cJ cZ cM [.ref h0, .int x1, .int x2, .int x3] [(h0, .inr (8, [.ref (a 1), .ref (a 2), .ref (a 3), .ref (a 4), .ref (a 5), .ref (a 6), .ref (a 7), .null, .int 0, .int 0, .int 0, .int 0])), (a 5, .inr (4, [.ref (a 12), .ref (a 13), .int 0, .int 0, .int 0, .int 1440, .int 1, .int 0, .int 12, .int 0])), (a 12, .inl (cI, 24, .inl (fun _ => 0))), (a 13, .inl (cI, 24, .inl (fun _ => 0)))] sz) (va_Qi (S := Unit) (fun r u => okI 1 0 ((0 ≤ x1 ∧ x1 ≤ 23) ∧ ((-50) ≤ x2 ∧ x2 ≤ 50) ∧ (0 ≤ x3 ∧ x3 ≤ 12)) r) (fun _ _ => True) (va_A [(h0, .inr (8, [.ref (a 1), .ref (a 2), .ref (a 3), .ref (a 4), .ref (a 5), .ref (a 6), .ref (a 7), .null, .int 0, .int 0, .int 0, .int 0])), (a 5, .inr (4, [.ref (a 12), .ref (a 13), .int 0, .int 0, .int 0, .int 1440, .int 1, .int 0, .int 12, .int 0])), (a 12, .inl (cI, 24, .inl (fun _ => 0))), (a 13, .inl (cI, 24, .inl (fun _ => 0)))] sz)) 0 0 (va_A [(h0, .inr (8, [.ref (a 1), .ref (a 2), .ref (a 3), .ref (a 4), .ref (a 5), .ref (a 6), .ref (a 7), .null, .int 0, .int 0, .int 0, .int 0])), (a 5, .inr (4, [.ref (a 12), .ref (a 13), .int 0, .int 0, .int 0, .int 1440, .int 1, .int 0, .int 12, .int 0])), (a 12, .inl (cI, 24, .inl (fun _ => 0))), (a 13, .inl (cI, 24, .inl (fun _ => 0)))] sz) := by
  refine Met.ofW (cc := cX8_weather) (maxL := 4) (ret := (some .boolean)) (by decide) rfl ?_
  intro p e s m args below meth c s₁ B hml hv
  obtain ⟨rfl, hsz, hG, hP, hD0⟩ := hv
  have hx := B.exec
  have hb := B.bytes
  have hr := B.returns
  have hts := atoms_spec (ws := wsX8_weather) B.pre
  have hown : s.vm.findClass RX8 = some m.cls := findClass_of_methodNamed B.named
  have hlocks := B.notSynchronized
  have hK := hG.1
  have hN := hG.2
  subst hsz
  have hD := hD0.self (sz := s.heap.size)
  generalize hAe : va_A [(h0, .inr (8, [.ref (a 1), .ref (a 2), .ref (a 3), .ref (a 4), .ref (a 5), .ref (a 6), .ref (a 7), .null, .int 0, .int 0, .int 0, .int 0])), (a 5, .inr (4, [.ref (a 12), .ref (a 13), .int 0, .int 0, .int 0, .int 1440, .int 1, .int 0, .int 12, .int 0])), (a 12, .inl (cI, 24, .inl (fun _ => 0))), (a 13, .inl (cI, 24, .inl (fun _ => 0)))] s.heap.size = A at hD ⊢
  have hA : ∀ q : Nat, s.heap.size ≤ q → A q := fun q h => by rw [← hAe]; exact Or.inr h
  have hS : va_S A s.heap s.heap [] := va_S.rf
  have hP : va_P D vwCl [(h0, .inr (8, [.ref (a 1), .ref (a 2), .ref (a 3), .ref (a 4), .ref (a 5), .ref (a 6), .ref (a 7), .null, .int 0, .int 0, .int 0, .int 0])), (a 5, .inr (4, [.ref (a 12), .ref (a 13), .int 0, .int 0, .int 0, .int 1440, .int 1, .int 0, .int 12, .int 0])), (a 12, .inl (cI, 24, .inl (fun _ => 0))), (a 13, .inl (cI, 24, .inl (fun _ => 0)))] s.heap := hP
  have hl := lv_entry ([.ref h0, .int x1, .int x2, .int x3]) (n := 4) (Nat.le_of_ble_eq_true rfl)
  rw [lg_entry_eq]
  generalize (lg_sl ([.ref h0, .int x1, .int x2, .int x3]) ++ List.replicate (4 - (lg_sl ([.ref h0, .int x1, .int x2, .int x3])).length) Slot.unset).toArray = ls at hl ⊢
  have hl : lv_has ls 4 [(0, .ref h0), (1, .int x1), (2, .int x2), (3, .int x3)] := hl
  refine lv_iload_n hx hb dX8_weather_0 rfl (lv_at hl 1 rfl) ?_
  refine lv_iconst (v := 0) hx hb dX8_weather_1 (by decide) ?_
  refine lv_bipush (v := 23) hx hb dX8_weather_2 (by decide) ?_
  refine vp_callSi (va_Run.run (va_runS (As := [.int x1, .int 0, .int 23]) (rest := []) ⟨hx, hb, hml, hown, hts⟩ (k_X8_within l x1 0 23) (va_cwS 3 hts gX8_weather_X8_within rfl rfl rfl (by decide +kernel) ⟨Nat.le_of_ble_eq_true rfl, Nat.le_of_ble_eq_true rfl⟩) preEq rfl rfl hl.1 rfl (lv_room (Nat.le_of_ble_eq_true rfl)) dX8_weather_4 ⟨Nat.le_of_ble_eq_true rfl, Nat.le_of_ble_eq_true rfl⟩)) (fun r_1 h_1 => ?_)
  rcases h_1 with ⟨rfl, h_1⟩ | ⟨rfl, h_1⟩
  · refine lv_if_eq (tgt := 31) hx hb dX8_weather_7 (by decide) (fun c_2 => False.elim (by revert c_2; decide)) (fun _ => ?_)
    refine lv_iload_n hx hb dX8_weather_10 rfl (lv_at hl 2 rfl) ?_
    refine lv_bipush (v := (-50)) hx hb dX8_weather_11 (by decide) ?_
    refine lv_bipush (v := 50) hx hb dX8_weather_13 (by decide) ?_
    refine vp_callSi (va_Run.run (va_runS (As := [.int x2, .int (-50), .int 50]) (rest := []) ⟨hx, hb, hml, hown, hts⟩ (k_X8_within l x2 (-50) 50) (va_cwS 3 hts gX8_weather_X8_within rfl rfl rfl (by decide +kernel) ⟨Nat.le_of_ble_eq_true rfl, Nat.le_of_ble_eq_true rfl⟩) preEq rfl rfl hl.1 rfl (lv_room (Nat.le_of_ble_eq_true rfl)) dX8_weather_15 ⟨Nat.le_of_ble_eq_true rfl, Nat.le_of_ble_eq_true rfl⟩)) (fun r_3 h_3 => ?_)
    rcases h_3 with ⟨rfl, h_3⟩ | ⟨rfl, h_3⟩
    · refine lv_if_eq (tgt := 31) hx hb dX8_weather_18 (by decide) (fun c_4 => False.elim (by revert c_4; decide)) (fun _ => ?_)
      refine lv_iload_n hx hb dX8_weather_21 rfl (lv_at hl 3 rfl) ?_
      refine lv_iconst (v := 0) hx hb dX8_weather_22 (by decide) ?_
      refine lv_bipush (v := 12) hx hb dX8_weather_23 (by decide) ?_
      refine vp_callSi (va_Run.run (va_runS (As := [.int x3, .int 0, .int 12]) (rest := []) ⟨hx, hb, hml, hown, hts⟩ (k_X8_within l x3 0 12) (va_cwS 3 hts gX8_weather_X8_within rfl rfl rfl (by decide +kernel) ⟨Nat.le_of_ble_eq_true rfl, Nat.le_of_ble_eq_true rfl⟩) preEq rfl rfl hl.1 rfl (lv_room (Nat.le_of_ble_eq_true rfl)) dX8_weather_25 ⟨Nat.le_of_ble_eq_true rfl, Nat.le_of_ble_eq_true rfl⟩)) (fun r_5 h_5 => ?_)
      rcases h_5 with ⟨rfl, h_5⟩ | ⟨rfl, h_5⟩
      · refine lv_if_ne (tgt := 33) hx hb dX8_weather_28 (by decide) (fun _ => ?_) (fun c_6 => False.elim (by revert c_6; decide))
        refine lv_aload_n hx hb dX8_weather_33 rfl (lv_at hl 0 rfl) ?_
        refine va_get (D := D) (ci := 8) (v := .ref (a 5)) (C := RX8) (T := TX8) (N := 12) hx hb hts (fun _ h9 => List.mem_cons_of_mem _ (List.mem_append_left _ (List.mem_append_right _ h9))) hown hK hP 0 rfl rfl 4 (by decide) (hts (.fieldLink RX8 32 "BuoyTender" "vessel" "LBuoyTender$Ship;") (by decide +kernel)) (fun _ h9 => h9) rfl dX8_weather_34 ?_
        refine va_getN (D := D) (ci := 4) (v := .ref (a 12)) (C := RX4) (T := TX4) (N := 10) hx hb hts (fun _ h9 => List.mem_cons_of_mem _ (List.mem_append_right _ h9)) hown hK hP 1 rfl rfl 0 (by decide) (va_Nw.use rfl (hN.1 (RX8, 220, "BuoyTender$Ship", "tides", "[I", "BuoyTender") (by decide +kernel))) (fun _ h9 => h9) rfl dX8_weather_37 ?_
        refine lv_iload_n hx hb dX8_weather_40 rfl (lv_at hl 1 rfl) ?_
        refine lv_iload_n hx hb dX8_weather_41 rfl (lv_at hl 2 rfl) ?_
        refine va_iast hx hb hK hP hD hS 2 0 rfl rfl (ix_1 (X := 23) (a := 23) (by decide) h_1 (by decide) (by decide)) dX8_weather_42 (fun H locs hP hD hS => ?_)
        have hP : va_P D vwCl [(h0, .inr (8, [.ref (a 1), .ref (a 2), .ref (a 3), .ref (a 4), .ref (a 5), .ref (a 6), .ref (a 7), .null, .int 0, .int 0, .int 0, .int 0])), (a 5, .inr (4, [.ref (a 12), .ref (a 13), .int 0, .int 0, .int 0, .int 1440, .int 1, .int 0, .int 12, .int 0])), (a 12, .inl (cI, 24, .inl (upd (fun _ => 0) x1.toNatClampNeg x2))), (a 13, .inl (cI, 24, .inl (fun _ => 0)))] H := hP
        have hD : va_D A [(h0, .inr (8, [.ref (a 1), .ref (a 2), .ref (a 3), .ref (a 4), .ref (a 5), .ref (a 6), .ref (a 7), .null, .int 0, .int 0, .int 0, .int 0])), (a 5, .inr (4, [.ref (a 12), .ref (a 13), .int 0, .int 0, .int 0, .int 1440, .int 1, .int 0, .int 12, .int 0])), (a 12, .inl (cI, 24, .inl (upd (fun _ => 0) x1.toNatClampNeg x2))), (a 13, .inl (cI, 24, .inl (fun _ => 0)))] := hD
        refine lv_aload_n hx hb dX8_weather_43 rfl (lv_at hl 0 rfl) ?_
        refine va_get (D := D) (ci := 8) (v := .ref (a 5)) (C := RX8) (T := TX8) (N := 12) hx hb hts (fun _ h9 => List.mem_cons_of_mem _ (List.mem_append_left _ (List.mem_append_right _ h9))) hown hK hP 0 rfl rfl 4 (by decide) (hts (.fieldLink RX8 32 "BuoyTender" "vessel" "LBuoyTender$Ship;") (by decide +kernel)) (fun _ h9 => h9) rfl dX8_weather_44 ?_
        refine va_getN (D := D) (ci := 4) (v := .ref (a 13)) (C := RX4) (T := TX4) (N := 10) hx hb hts (fun _ h9 => List.mem_cons_of_mem _ (List.mem_append_right _ h9)) hown hK hP 1 rfl rfl 1 (by decide) (va_Nw.use rfl (hN.1 (RX8, 223, "BuoyTender$Ship", "winds", "[I", "BuoyTender") (by decide +kernel))) (fun _ h9 => h9) rfl dX8_weather_47 ?_
        refine lv_iload_n hx hb dX8_weather_50 rfl (lv_at hl 1 rfl) ?_
        refine lv_iload_n hx hb dX8_weather_51 rfl (lv_at hl 3 rfl) ?_
        refine va_iast hx hb hK hP hD hS 3 0 rfl rfl (ix_1 (X := 23) (a := 23) (by decide) h_1 (by decide) (by decide)) dX8_weather_52 (fun H locs hP hD hS => ?_)
        have hP : va_P D vwCl [(h0, .inr (8, [.ref (a 1), .ref (a 2), .ref (a 3), .ref (a 4), .ref (a 5), .ref (a 6), .ref (a 7), .null, .int 0, .int 0, .int 0, .int 0])), (a 5, .inr (4, [.ref (a 12), .ref (a 13), .int 0, .int 0, .int 0, .int 1440, .int 1, .int 0, .int 12, .int 0])), (a 12, .inl (cI, 24, .inl (upd (fun _ => 0) x1.toNatClampNeg x2))), (a 13, .inl (cI, 24, .inl (upd (fun _ => 0) x1.toNatClampNeg x3)))] H := hP
        have hD : va_D A [(h0, .inr (8, [.ref (a 1), .ref (a 2), .ref (a 3), .ref (a 4), .ref (a 5), .ref (a 6), .ref (a 7), .null, .int 0, .int 0, .int 0, .int 0])), (a 5, .inr (4, [.ref (a 12), .ref (a 13), .int 0, .int 0, .int 0, .int 1440, .int 1, .int 0, .int 12, .int 0])), (a 12, .inl (cI, 24, .inl (upd (fun _ => 0) x1.toNatClampNeg x2))), (a 13, .inl (cI, 24, .inl (upd (fun _ => 0) x1.toNatClampNeg x3)))] := hD
        refine lv_aload_n hx hb dX8_weather_53 rfl (lv_at hl 0 rfl) ?_
        refine lv_iconst (v := 0) hx hb dX8_weather_54 (by decide) ?_
        refine va_put (D := D) (ci := 8) (v := .int 0) (ty := (tyX8 11)) (C := RX8) (T := TX8) (N := 12) hx hb hts (fun _ h9 => List.mem_cons_of_mem _ (List.mem_append_left _ (List.mem_append_right _ h9))) tyX8 tyX8_ok nmX8 hown hK hP hD hS 0 rfl rfl 11 (by decide) (hts (.fieldLink RX8 58 "BuoyTender" "planned" "Z") (by decide +kernel)) (fun _ h9 => h9) rfl (by decide +kernel) rfl rfl (Nat.le_of_ble_eq_true rfl) dX8_weather_55 (fun H locs hP hD hS => ?_)
        have hP : va_P D vwCl [(h0, .inr (8, [.ref (a 1), .ref (a 2), .ref (a 3), .ref (a 4), .ref (a 5), .ref (a 6), .ref (a 7), .null, .int 0, .int 0, .int 0, .int 0])), (a 5, .inr (4, [.ref (a 12), .ref (a 13), .int 0, .int 0, .int 0, .int 1440, .int 1, .int 0, .int 12, .int 0])), (a 12, .inl (cI, 24, .inl (upd (fun _ => 0) x1.toNatClampNeg x2))), (a 13, .inl (cI, 24, .inl (upd (fun _ => 0) x1.toNatClampNeg x3)))] H := hP
        have hD : va_D A [(h0, .inr (8, [.ref (a 1), .ref (a 2), .ref (a 3), .ref (a 4), .ref (a 5), .ref (a 6), .ref (a 7), .null, .int 0, .int 0, .int 0, .int 0])), (a 5, .inr (4, [.ref (a 12), .ref (a 13), .int 0, .int 0, .int 0, .int 1440, .int 1, .int 0, .int 12, .int 0])), (a 12, .inl (cI, 24, .inl (upd (fun _ => 0) x1.toNatClampNeg x2))), (a 13, .inl (cI, 24, .inl (upd (fun _ => 0) x1.toNatClampNeg x3)))] := hD
        refine lv_iconst (v := 1) hx hb dX8_weather_58 (by decide) ?_
        exact W.zret (v := 1) hx hb hr rfl (fun t ht hW => ⟨⟨1, (), rfl, (Or.inl ⟨rfl, h_1, h_3, h_5⟩), trivial⟩, hS.F ht⟩) hS.2.2 dX8_weather_59
      refine lv_if_ne (tgt := 33) hx hb dX8_weather_28 (by decide) (fun c_9 => False.elim (by revert c_9; decide)) (fun _ => ?_)
      refine lv_iconst (v := 0) hx hb dX8_weather_31 (by decide) ?_
      exact W.zret (v := 0) hx hb hr rfl (fun t ht hW => ⟨⟨0, (), rfl, (Or.inr ⟨rfl, fun h9 => h_5 (h9.2.2)⟩), trivial⟩, hS.F ht⟩) hS.2.2 dX8_weather_32
    refine lv_if_eq (tgt := 31) hx hb dX8_weather_18 (by decide) (fun _ => ?_) (fun c_10 => False.elim (by revert c_10; decide))
    refine lv_iconst (v := 0) hx hb dX8_weather_31 (by decide) ?_
    exact W.zret (v := 0) hx hb hr rfl (fun t ht hW => ⟨⟨0, (), rfl, (Or.inr ⟨rfl, fun h9 => h_3 (h9.2.1)⟩), trivial⟩, hS.F ht⟩) hS.2.2 dX8_weather_32
  refine lv_if_eq (tgt := 31) hx hb dX8_weather_7 (by decide) (fun _ => ?_) (fun c_11 => False.elim (by revert c_11; decide))
  refine lv_iconst (v := 0) hx hb dX8_weather_31 (by decide) ?_
  exact W.zret (v := 0) hx hb hr rfl (fun t ht hW => ⟨⟨0, (), rfl, (Or.inr ⟨rfl, fun h9 => h_1 (h9.1)⟩), trivial⟩, hS.F ht⟩) hS.2.2 dX8_weather_32
set_option maxHeartbeats 4000000 in
set_option maxRecDepth 100000 in
/-- X8_ship on a fresh object -/
theorem k_X8_ship (l : Launch) (D : va_G) (cI cJ cZ cM : Nat) (h0 : Nat) (a : Nat → Nat) (x1 : Int32) (x2 : Int32) (x3 : Int32) (x4 : Int32) (sz : Nat) : Met l yX8_ship wsX8_ship ({ frames := 1, cells := 0, slots := 0, locals := 22 } : Room) (RW D cI cJ cZ cM [.ref h0, .int x1, .int x2, .int x3, .int x4] [(h0, .inr (8, [.ref (a 1), .ref (a 2), .ref (a 3), .ref (a 4), .ref (a 5), .ref (a 6), .ref (a 7), .null, .int 0, .int 0, .int 0, .int 0])), (a 5, .inr (4, [.ref (a 12), .ref (a 13), .int 0, .int 0, .int 0, .int 1440, .int 1, .int 0, .int 12, .int 0]))] sz) (va_Qi (S := Unit) (fun r u => okI 1 0 ((0 ≤ x1 ∧ x1 ≤ 60) ∧ (0 ≤ x2 ∧ x2 ≤ 100) ∧ (0 ≤ x3 ∧ x3 ≤ 12) ∧ (0 ≤ x4 ∧ x4 ≤ 10000)) r) (fun _ _ => True) (va_A [(h0, .inr (8, [.ref (a 1), .ref (a 2), .ref (a 3), .ref (a 4), .ref (a 5), .ref (a 6), .ref (a 7), .null, .int 0, .int 0, .int 0, .int 0])), (a 5, .inr (4, [.ref (a 12), .ref (a 13), .int 0, .int 0, .int 0, .int 1440, .int 1, .int 0, .int 12, .int 0]))] sz)) 0 0 (va_A [(h0, .inr (8, [.ref (a 1), .ref (a 2), .ref (a 3), .ref (a 4), .ref (a 5), .ref (a 6), .ref (a 7), .null, .int 0, .int 0, .int 0, .int 0])), (a 5, .inr (4, [.ref (a 12), .ref (a 13), .int 0, .int 0, .int 0, .int 1440, .int 1, .int 0, .int 12, .int 0]))] sz) := by
  refine Met.ofW (cc := cX8_ship) (maxL := 5) (ret := (some .boolean)) (by decide) rfl ?_
  intro p e s m args below meth c s₁ B hml hv
  obtain ⟨rfl, hsz, hG, hP, hD0⟩ := hv
  have hx := B.exec
  have hb := B.bytes
  have hr := B.returns
  have hts := atoms_spec (ws := wsX8_ship) B.pre
  have hown : s.vm.findClass RX8 = some m.cls := findClass_of_methodNamed B.named
  have hlocks := B.notSynchronized
  have hK := hG.1
  have hN := hG.2
  subst hsz
  have hD := hD0.self (sz := s.heap.size)
  generalize hAe : va_A [(h0, .inr (8, [.ref (a 1), .ref (a 2), .ref (a 3), .ref (a 4), .ref (a 5), .ref (a 6), .ref (a 7), .null, .int 0, .int 0, .int 0, .int 0])), (a 5, .inr (4, [.ref (a 12), .ref (a 13), .int 0, .int 0, .int 0, .int 1440, .int 1, .int 0, .int 12, .int 0]))] s.heap.size = A at hD ⊢
  have hA : ∀ q : Nat, s.heap.size ≤ q → A q := fun q h => by rw [← hAe]; exact Or.inr h
  have hS : va_S A s.heap s.heap [] := va_S.rf
  have hP : va_P D vwCl [(h0, .inr (8, [.ref (a 1), .ref (a 2), .ref (a 3), .ref (a 4), .ref (a 5), .ref (a 6), .ref (a 7), .null, .int 0, .int 0, .int 0, .int 0])), (a 5, .inr (4, [.ref (a 12), .ref (a 13), .int 0, .int 0, .int 0, .int 1440, .int 1, .int 0, .int 12, .int 0]))] s.heap := hP
  have hl := lv_entry ([.ref h0, .int x1, .int x2, .int x3, .int x4]) (n := 5) (Nat.le_of_ble_eq_true rfl)
  rw [lg_entry_eq]
  generalize (lg_sl ([.ref h0, .int x1, .int x2, .int x3, .int x4]) ++ List.replicate (5 - (lg_sl ([.ref h0, .int x1, .int x2, .int x3, .int x4])).length) Slot.unset).toArray = ls at hl ⊢
  have hl : lv_has ls 5 [(0, .ref h0), (1, .int x1), (2, .int x2), (3, .int x3), (4, .int x4)] := hl
  refine lv_iload_n hx hb dX8_ship_0 rfl (lv_at hl 1 rfl) ?_
  refine lv_iconst (v := 0) hx hb dX8_ship_1 (by decide) ?_
  refine lv_bipush (v := 60) hx hb dX8_ship_2 (by decide) ?_
  refine vp_callSi (va_Run.run (va_runS (As := [.int x1, .int 0, .int 60]) (rest := []) ⟨hx, hb, hml, hown, hts⟩ (k_X8_within l x1 0 60) (va_cwS 3 hts gX8_ship_X8_within rfl rfl rfl (by decide +kernel) ⟨Nat.le_of_ble_eq_true rfl, Nat.le_of_ble_eq_true rfl⟩) preEq rfl rfl hl.1 rfl (lv_room (Nat.le_of_ble_eq_true rfl)) dX8_ship_4 ⟨Nat.le_of_ble_eq_true rfl, Nat.le_of_ble_eq_true rfl⟩)) (fun r_1 h_1 => ?_)
  rcases h_1 with ⟨rfl, h_1⟩ | ⟨rfl, h_1⟩
  · refine lv_if_eq (tgt := 42) hx hb dX8_ship_7 (by decide) (fun c_2 => False.elim (by revert c_2; decide)) (fun _ => ?_)
    refine lv_iload_n hx hb dX8_ship_10 rfl (lv_at hl 2 rfl) ?_
    refine lv_iconst (v := 0) hx hb dX8_ship_11 (by decide) ?_
    refine lv_bipush (v := 100) hx hb dX8_ship_12 (by decide) ?_
    refine vp_callSi (va_Run.run (va_runS (As := [.int x2, .int 0, .int 100]) (rest := []) ⟨hx, hb, hml, hown, hts⟩ (k_X8_within l x2 0 100) (va_cwS 3 hts gX8_ship_X8_within rfl rfl rfl (by decide +kernel) ⟨Nat.le_of_ble_eq_true rfl, Nat.le_of_ble_eq_true rfl⟩) preEq rfl rfl hl.1 rfl (lv_room (Nat.le_of_ble_eq_true rfl)) dX8_ship_14 ⟨Nat.le_of_ble_eq_true rfl, Nat.le_of_ble_eq_true rfl⟩)) (fun r_3 h_3 => ?_)
    rcases h_3 with ⟨rfl, h_3⟩ | ⟨rfl, h_3⟩
    · refine lv_if_eq (tgt := 42) hx hb dX8_ship_17 (by decide) (fun c_4 => False.elim (by revert c_4; decide)) (fun _ => ?_)
      refine lv_iload_n hx hb dX8_ship_20 rfl (lv_at hl 3 rfl) ?_
      refine lv_iconst (v := 0) hx hb dX8_ship_21 (by decide) ?_
      refine lv_bipush (v := 12) hx hb dX8_ship_22 (by decide) ?_
      refine vp_callSi (va_Run.run (va_runS (As := [.int x3, .int 0, .int 12]) (rest := []) ⟨hx, hb, hml, hown, hts⟩ (k_X8_within l x3 0 12) (va_cwS 3 hts gX8_ship_X8_within rfl rfl rfl (by decide +kernel) ⟨Nat.le_of_ble_eq_true rfl, Nat.le_of_ble_eq_true rfl⟩) preEq rfl rfl hl.1 rfl (lv_room (Nat.le_of_ble_eq_true rfl)) dX8_ship_24 ⟨Nat.le_of_ble_eq_true rfl, Nat.le_of_ble_eq_true rfl⟩)) (fun r_5 h_5 => ?_)
      rcases h_5 with ⟨rfl, h_5⟩ | ⟨rfl, h_5⟩
      · refine lv_if_eq (tgt := 42) hx hb dX8_ship_27 (by decide) (fun c_6 => False.elim (by revert c_6; decide)) (fun _ => ?_)
        refine lv_iload hx hb dX8_ship_30 (lv_at hl 4 rfl) ?_
        refine lv_iconst (v := 0) hx hb dX8_ship_32 (by decide) ?_
        refine lv_sipush (v := 10000) hx hb dX8_ship_33 (by decide) ?_
        refine vp_callSi (va_Run.run (va_runS (As := [.int x4, .int 0, .int 10000]) (rest := []) ⟨hx, hb, hml, hown, hts⟩ (k_X8_within l x4 0 10000) (va_cwS 3 hts gX8_ship_X8_within rfl rfl rfl (by decide +kernel) ⟨Nat.le_of_ble_eq_true rfl, Nat.le_of_ble_eq_true rfl⟩) preEq rfl rfl hl.1 rfl (lv_room (Nat.le_of_ble_eq_true rfl)) dX8_ship_36 ⟨Nat.le_of_ble_eq_true rfl, Nat.le_of_ble_eq_true rfl⟩)) (fun r_7 h_7 => ?_)
        rcases h_7 with ⟨rfl, h_7⟩ | ⟨rfl, h_7⟩
        · refine lv_if_ne (tgt := 44) hx hb dX8_ship_39 (by decide) (fun _ => ?_) (fun c_8 => False.elim (by revert c_8; decide))
          refine lv_aload_n hx hb dX8_ship_44 rfl (lv_at hl 0 rfl) ?_
          refine va_get (D := D) (ci := 8) (v := .ref (a 5)) (C := RX8) (T := TX8) (N := 12) hx hb hts (fun _ h9 => List.mem_cons_of_mem _ (List.mem_append_left _ (List.mem_append_right _ h9))) hown hK hP 0 rfl rfl 4 (by decide) (hts (.fieldLink RX8 32 "BuoyTender" "vessel" "LBuoyTender$Ship;") (by decide +kernel)) (fun _ h9 => h9) rfl dX8_ship_45 ?_
          refine lv_iload_n hx hb dX8_ship_48 rfl (lv_at hl 1 rfl) ?_
          refine va_putN (D := D) (ci := 4) (v := .int x1) (ty := (tyX4 6)) (C := RX4) (T := TX4) (N := 10) hx hb hts (fun _ h9 => List.mem_cons_of_mem _ (List.mem_append_right _ h9)) tyX4 tyX4_ok nmX4 hown hK hP hD hS 1 rfl rfl 6 (by decide) (va_Nw.use rfl (hN.1 (RX8, 226, "BuoyTender$Ship", "pace", "I", "BuoyTender") (by decide +kernel))) (fun _ h9 => h9) rfl (by decide +kernel) rfl rfl (Nat.le_of_ble_eq_true rfl) dX8_ship_49 (fun H locs hP hD hS => ?_)
          have hP : va_P D vwCl [(h0, .inr (8, [.ref (a 1), .ref (a 2), .ref (a 3), .ref (a 4), .ref (a 5), .ref (a 6), .ref (a 7), .null, .int 0, .int 0, .int 0, .int 0])), (a 5, .inr (4, [.ref (a 12), .ref (a 13), .int 0, .int 0, .int 0, .int 1440, .int x1, .int 0, .int 12, .int 0]))] H := hP
          have hD : va_D A [(h0, .inr (8, [.ref (a 1), .ref (a 2), .ref (a 3), .ref (a 4), .ref (a 5), .ref (a 6), .ref (a 7), .null, .int 0, .int 0, .int 0, .int 0])), (a 5, .inr (4, [.ref (a 12), .ref (a 13), .int 0, .int 0, .int 0, .int 1440, .int x1, .int 0, .int 12, .int 0]))] := hD
          refine lv_aload_n hx hb dX8_ship_52 rfl (lv_at hl 0 rfl) ?_
          refine va_get (D := D) (ci := 8) (v := .ref (a 5)) (C := RX8) (T := TX8) (N := 12) hx hb hts (fun _ h9 => List.mem_cons_of_mem _ (List.mem_append_left _ (List.mem_append_right _ h9))) hown hK hP 0 rfl rfl 4 (by decide) (hts (.fieldLink RX8 32 "BuoyTender" "vessel" "LBuoyTender$Ship;") (by decide +kernel)) (fun _ h9 => h9) rfl dX8_ship_53 ?_
          refine lv_iload_n hx hb dX8_ship_56 rfl (lv_at hl 2 rfl) ?_
          refine va_putN (D := D) (ci := 4) (v := .int x2) (ty := (tyX4 7)) (C := RX4) (T := TX4) (N := 10) hx hb hts (fun _ h9 => List.mem_cons_of_mem _ (List.mem_append_right _ h9)) tyX4 tyX4_ok nmX4 hown hK hP hD hS 1 rfl rfl 7 (by decide) (va_Nw.use rfl (hN.1 (RX8, 229, "BuoyTender$Ship", "draught", "I", "BuoyTender") (by decide +kernel))) (fun _ h9 => h9) rfl (by decide +kernel) rfl rfl (Nat.le_of_ble_eq_true rfl) dX8_ship_57 (fun H locs hP hD hS => ?_)
          have hP : va_P D vwCl [(h0, .inr (8, [.ref (a 1), .ref (a 2), .ref (a 3), .ref (a 4), .ref (a 5), .ref (a 6), .ref (a 7), .null, .int 0, .int 0, .int 0, .int 0])), (a 5, .inr (4, [.ref (a 12), .ref (a 13), .int 0, .int 0, .int 0, .int 1440, .int x1, .int x2, .int 12, .int 0]))] H := hP
          have hD : va_D A [(h0, .inr (8, [.ref (a 1), .ref (a 2), .ref (a 3), .ref (a 4), .ref (a 5), .ref (a 6), .ref (a 7), .null, .int 0, .int 0, .int 0, .int 0])), (a 5, .inr (4, [.ref (a 12), .ref (a 13), .int 0, .int 0, .int 0, .int 1440, .int x1, .int x2, .int 12, .int 0]))] := hD
          refine lv_aload_n hx hb dX8_ship_60 rfl (lv_at hl 0 rfl) ?_
          refine va_get (D := D) (ci := 8) (v := .ref (a 5)) (C := RX8) (T := TX8) (N := 12) hx hb hts (fun _ h9 => List.mem_cons_of_mem _ (List.mem_append_left _ (List.mem_append_right _ h9))) hown hK hP 0 rfl rfl 4 (by decide) (hts (.fieldLink RX8 32 "BuoyTender" "vessel" "LBuoyTender$Ship;") (by decide +kernel)) (fun _ h9 => h9) rfl dX8_ship_61 ?_
          refine lv_iload_n hx hb dX8_ship_64 rfl (lv_at hl 3 rfl) ?_
          refine va_putN (D := D) (ci := 4) (v := .int x3) (ty := (tyX4 8)) (C := RX4) (T := TX4) (N := 10) hx hb hts (fun _ h9 => List.mem_cons_of_mem _ (List.mem_append_right _ h9)) tyX4 tyX4_ok nmX4 hown hK hP hD hS 1 rfl rfl 8 (by decide) (va_Nw.use rfl (hN.1 (RX8, 232, "BuoyTender$Ship", "mostWind", "I", "BuoyTender") (by decide +kernel))) (fun _ h9 => h9) rfl (by decide +kernel) rfl rfl (Nat.le_of_ble_eq_true rfl) dX8_ship_65 (fun H locs hP hD hS => ?_)
          have hP : va_P D vwCl [(h0, .inr (8, [.ref (a 1), .ref (a 2), .ref (a 3), .ref (a 4), .ref (a 5), .ref (a 6), .ref (a 7), .null, .int 0, .int 0, .int 0, .int 0])), (a 5, .inr (4, [.ref (a 12), .ref (a 13), .int 0, .int 0, .int 0, .int 1440, .int x1, .int x2, .int x3, .int 0]))] H := hP
          have hD : va_D A [(h0, .inr (8, [.ref (a 1), .ref (a 2), .ref (a 3), .ref (a 4), .ref (a 5), .ref (a 6), .ref (a 7), .null, .int 0, .int 0, .int 0, .int 0])), (a 5, .inr (4, [.ref (a 12), .ref (a 13), .int 0, .int 0, .int 0, .int 1440, .int x1, .int x2, .int x3, .int 0]))] := hD
          refine lv_aload_n hx hb dX8_ship_68 rfl (lv_at hl 0 rfl) ?_
          refine va_get (D := D) (ci := 8) (v := .ref (a 5)) (C := RX8) (T := TX8) (N := 12) hx hb hts (fun _ h9 => List.mem_cons_of_mem _ (List.mem_append_left _ (List.mem_append_right _ h9))) hown hK hP 0 rfl rfl 4 (by decide) (hts (.fieldLink RX8 32 "BuoyTender" "vessel" "LBuoyTender$Ship;") (by decide +kernel)) (fun _ h9 => h9) rfl dX8_ship_69 ?_
          refine lv_iload hx hb dX8_ship_72 (lv_at hl 4 rfl) ?_
          refine va_putN (D := D) (ci := 4) (v := .int x4) (ty := (tyX4 9)) (C := RX4) (T := TX4) (N := 10) hx hb hts (fun _ h9 => List.mem_cons_of_mem _ (List.mem_append_right _ h9)) tyX4 tyX4_ok nmX4 hown hK hP hD hS 1 rfl rfl 9 (by decide) (va_Nw.use rfl (hN.1 (RX8, 235, "BuoyTender$Ship", "carried", "I", "BuoyTender") (by decide +kernel))) (fun _ h9 => h9) rfl (by decide +kernel) rfl rfl (Nat.le_of_ble_eq_true rfl) dX8_ship_74 (fun H locs hP hD hS => ?_)
          have hP : va_P D vwCl [(h0, .inr (8, [.ref (a 1), .ref (a 2), .ref (a 3), .ref (a 4), .ref (a 5), .ref (a 6), .ref (a 7), .null, .int 0, .int 0, .int 0, .int 0])), (a 5, .inr (4, [.ref (a 12), .ref (a 13), .int 0, .int 0, .int 0, .int 1440, .int x1, .int x2, .int x3, .int x4]))] H := hP
          have hD : va_D A [(h0, .inr (8, [.ref (a 1), .ref (a 2), .ref (a 3), .ref (a 4), .ref (a 5), .ref (a 6), .ref (a 7), .null, .int 0, .int 0, .int 0, .int 0])), (a 5, .inr (4, [.ref (a 12), .ref (a 13), .int 0, .int 0, .int 0, .int 1440, .int x1, .int x2, .int x3, .int x4]))] := hD
          refine lv_aload_n hx hb dX8_ship_77 rfl (lv_at hl 0 rfl) ?_
          refine lv_iconst (v := 0) hx hb dX8_ship_78 (by decide) ?_
          refine va_put (D := D) (ci := 8) (v := .int 0) (ty := (tyX8 11)) (C := RX8) (T := TX8) (N := 12) hx hb hts (fun _ h9 => List.mem_cons_of_mem _ (List.mem_append_left _ (List.mem_append_right _ h9))) tyX8 tyX8_ok nmX8 hown hK hP hD hS 0 rfl rfl 11 (by decide) (hts (.fieldLink RX8 58 "BuoyTender" "planned" "Z") (by decide +kernel)) (fun _ h9 => h9) rfl (by decide +kernel) rfl rfl (Nat.le_of_ble_eq_true rfl) dX8_ship_79 (fun H locs hP hD hS => ?_)
          have hP : va_P D vwCl [(h0, .inr (8, [.ref (a 1), .ref (a 2), .ref (a 3), .ref (a 4), .ref (a 5), .ref (a 6), .ref (a 7), .null, .int 0, .int 0, .int 0, .int 0])), (a 5, .inr (4, [.ref (a 12), .ref (a 13), .int 0, .int 0, .int 0, .int 1440, .int x1, .int x2, .int x3, .int x4]))] H := hP
          have hD : va_D A [(h0, .inr (8, [.ref (a 1), .ref (a 2), .ref (a 3), .ref (a 4), .ref (a 5), .ref (a 6), .ref (a 7), .null, .int 0, .int 0, .int 0, .int 0])), (a 5, .inr (4, [.ref (a 12), .ref (a 13), .int 0, .int 0, .int 0, .int 1440, .int x1, .int x2, .int x3, .int x4]))] := hD
          refine lv_iconst (v := 1) hx hb dX8_ship_82 (by decide) ?_
          exact W.zret (v := 1) hx hb hr rfl (fun t ht hW => ⟨⟨1, (), rfl, (Or.inl ⟨rfl, h_1, h_3, h_5, h_7⟩), trivial⟩, hS.F ht⟩) hS.2.2 dX8_ship_83
        refine lv_if_ne (tgt := 44) hx hb dX8_ship_39 (by decide) (fun c_9 => False.elim (by revert c_9; decide)) (fun _ => ?_)
        refine lv_iconst (v := 0) hx hb dX8_ship_42 (by decide) ?_
        exact W.zret (v := 0) hx hb hr rfl (fun t ht hW => ⟨⟨0, (), rfl, (Or.inr ⟨rfl, fun h9 => h_7 (h9.2.2.2)⟩), trivial⟩, hS.F ht⟩) hS.2.2 dX8_ship_43
      refine lv_if_eq (tgt := 42) hx hb dX8_ship_27 (by decide) (fun _ => ?_) (fun c_10 => False.elim (by revert c_10; decide))
      refine lv_iconst (v := 0) hx hb dX8_ship_42 (by decide) ?_
      exact W.zret (v := 0) hx hb hr rfl (fun t ht hW => ⟨⟨0, (), rfl, (Or.inr ⟨rfl, fun h9 => h_5 (h9.2.2.1)⟩), trivial⟩, hS.F ht⟩) hS.2.2 dX8_ship_43
    refine lv_if_eq (tgt := 42) hx hb dX8_ship_17 (by decide) (fun _ => ?_) (fun c_11 => False.elim (by revert c_11; decide))
    refine lv_iconst (v := 0) hx hb dX8_ship_42 (by decide) ?_
    exact W.zret (v := 0) hx hb hr rfl (fun t ht hW => ⟨⟨0, (), rfl, (Or.inr ⟨rfl, fun h9 => h_3 (h9.2.1)⟩), trivial⟩, hS.F ht⟩) hS.2.2 dX8_ship_43
  refine lv_if_eq (tgt := 42) hx hb dX8_ship_7 (by decide) (fun _ => ?_) (fun c_12 => False.elim (by revert c_12; decide))
  refine lv_iconst (v := 0) hx hb dX8_ship_42 (by decide) ?_
  exact W.zret (v := 0) hx hb hr rfl (fun t ht hW => ⟨⟨0, (), rfl, (Or.inr ⟨rfl, fun h9 => h_1 (h9.1)⟩), trivial⟩, hS.F ht⟩) hS.2.2 dX8_ship_43
set_option maxHeartbeats 4000000 in
set_option maxRecDepth 100000 in
/-- X8_at on a fresh object -/
theorem k_X8_at (l : Launch) (D : va_G) (cI cJ cZ cM : Nat) (h0 : Nat) (a : Nat → Nat) (x1 : Int32) (x2 : Int32) (x3 : Int32) (x4 : Int32) (sz : Nat) : Met l yX8_at wsX8_at ({ frames := 2, cells := 0, slots := 0, locals := 43 } : Room) (RW D cI cJ cZ cM [.ref h0, .int x1, .int x2, .int x3, .int x4] [(h0, .inr (8, [.ref (a 1), .ref (a 2), .ref (a 3), .ref (a 4), .ref (a 5), .ref (a 6), .ref (a 7), .null, .int 0, .int 0, .int 0, .int 0])), (a 5, .inr (4, [.ref (a 12), .ref (a 13), .int 0, .int 0, .int 0, .int 1440, .int 1, .int 0, .int 12, .int 0]))] sz) (va_Qi (S := Unit) (fun r u => okI 1 0 (placeP x1 x2 ∧ (0 ≤ x3 ∧ x3 ≤ 1440) ∧ (x3 ≤ x4 ∧ x4 ≤ 1440)) r) (fun _ _ => True) (va_A [(h0, .inr (8, [.ref (a 1), .ref (a 2), .ref (a 3), .ref (a 4), .ref (a 5), .ref (a 6), .ref (a 7), .null, .int 0, .int 0, .int 0, .int 0])), (a 5, .inr (4, [.ref (a 12), .ref (a 13), .int 0, .int 0, .int 0, .int 1440, .int 1, .int 0, .int 12, .int 0]))] sz)) 0 0 (va_A [(h0, .inr (8, [.ref (a 1), .ref (a 2), .ref (a 3), .ref (a 4), .ref (a 5), .ref (a 6), .ref (a 7), .null, .int 0, .int 0, .int 0, .int 0])), (a 5, .inr (4, [.ref (a 12), .ref (a 13), .int 0, .int 0, .int 0, .int 1440, .int 1, .int 0, .int 12, .int 0]))] sz) := by
  refine Met.ofW (cc := cX8_at) (maxL := 5) (ret := (some .boolean)) (by decide) rfl ?_
  intro p e s m args below meth c s₁ B hml hv
  obtain ⟨rfl, hsz, hG, hP, hD0⟩ := hv
  have hx := B.exec
  have hb := B.bytes
  have hr := B.returns
  have hts := atoms_spec (ws := wsX8_at) B.pre
  have hown : s.vm.findClass RX8 = some m.cls := findClass_of_methodNamed B.named
  have hlocks := B.notSynchronized
  have hK := hG.1
  have hN := hG.2
  subst hsz
  have hD := hD0.self (sz := s.heap.size)
  generalize hAe : va_A [(h0, .inr (8, [.ref (a 1), .ref (a 2), .ref (a 3), .ref (a 4), .ref (a 5), .ref (a 6), .ref (a 7), .null, .int 0, .int 0, .int 0, .int 0])), (a 5, .inr (4, [.ref (a 12), .ref (a 13), .int 0, .int 0, .int 0, .int 1440, .int 1, .int 0, .int 12, .int 0]))] s.heap.size = A at hD ⊢
  have hA : ∀ q : Nat, s.heap.size ≤ q → A q := fun q h => by rw [← hAe]; exact Or.inr h
  have hS : va_S A s.heap s.heap [] := va_S.rf
  have hP : va_P D vwCl [(h0, .inr (8, [.ref (a 1), .ref (a 2), .ref (a 3), .ref (a 4), .ref (a 5), .ref (a 6), .ref (a 7), .null, .int 0, .int 0, .int 0, .int 0])), (a 5, .inr (4, [.ref (a 12), .ref (a 13), .int 0, .int 0, .int 0, .int 1440, .int 1, .int 0, .int 12, .int 0]))] s.heap := hP
  have hl := lv_entry ([.ref h0, .int x1, .int x2, .int x3, .int x4]) (n := 5) (Nat.le_of_ble_eq_true rfl)
  rw [lg_entry_eq]
  generalize (lg_sl ([.ref h0, .int x1, .int x2, .int x3, .int x4]) ++ List.replicate (5 - (lg_sl ([.ref h0, .int x1, .int x2, .int x3, .int x4])).length) Slot.unset).toArray = ls at hl ⊢
  have hl : lv_has ls 5 [(0, .ref h0), (1, .int x1), (2, .int x2), (3, .int x3), (4, .int x4)] := hl
  refine lv_iload_n hx hb dX8_at_0 rfl (lv_at hl 1 rfl) ?_
  refine lv_iload_n hx hb dX8_at_1 rfl (lv_at hl 2 rfl) ?_
  refine vp_callSi (va_Run.run (va_runS (As := [.int x1, .int x2]) (rest := []) ⟨hx, hb, hml, hown, hts⟩ (k_X8_isPlace l x1 x2) (va_cwS 2 hts gX8_at_X8_isPlace rfl rfl rfl (by decide +kernel) ⟨Nat.le_of_ble_eq_true rfl, Nat.le_of_ble_eq_true rfl⟩) preEq rfl rfl hl.1 rfl (lv_room (Nat.le_of_ble_eq_true rfl)) dX8_at_2 ⟨Nat.le_of_ble_eq_true rfl, Nat.le_of_ble_eq_true rfl⟩)) (fun r_1 h_1 => ?_)
  rcases h_1 with ⟨rfl, h_1⟩ | ⟨rfl, h_1⟩
  · refine lv_if_eq (tgt := 31) hx hb dX8_at_5 (by decide) (fun c_2 => False.elim (by revert c_2; decide)) (fun _ => ?_)
    refine lv_iload_n hx hb dX8_at_8 rfl (lv_at hl 3 rfl) ?_
    refine lv_iconst (v := 0) hx hb dX8_at_9 (by decide) ?_
    refine lv_sipush (v := 1440) hx hb dX8_at_10 (by decide) ?_
    refine vp_callSi (va_Run.run (va_runS (As := [.int x3, .int 0, .int 1440]) (rest := []) ⟨hx, hb, hml, hown, hts⟩ (k_X8_within l x3 0 1440) (va_cwS 3 hts gX8_at_X8_within rfl rfl rfl (by decide +kernel) ⟨Nat.le_of_ble_eq_true rfl, Nat.le_of_ble_eq_true rfl⟩) preEq rfl rfl hl.1 rfl (lv_room (Nat.le_of_ble_eq_true rfl)) dX8_at_13 ⟨Nat.le_of_ble_eq_true rfl, Nat.le_of_ble_eq_true rfl⟩)) (fun r_3 h_3 => ?_)
    rcases h_3 with ⟨rfl, h_3⟩ | ⟨rfl, h_3⟩
    · refine lv_if_eq (tgt := 31) hx hb dX8_at_16 (by decide) (fun c_4 => False.elim (by revert c_4; decide)) (fun _ => ?_)
      refine lv_iload hx hb dX8_at_19 (lv_at hl 4 rfl) ?_
      refine lv_iload_n hx hb dX8_at_21 rfl (lv_at hl 3 rfl) ?_
      refine lv_sipush (v := 1440) hx hb dX8_at_22 (by decide) ?_
      refine vp_callSi (va_Run.run (va_runS (As := [.int x4, .int x3, .int 1440]) (rest := []) ⟨hx, hb, hml, hown, hts⟩ (k_X8_within l x4 x3 1440) (va_cwS 3 hts gX8_at_X8_within rfl rfl rfl (by decide +kernel) ⟨Nat.le_of_ble_eq_true rfl, Nat.le_of_ble_eq_true rfl⟩) preEq rfl rfl hl.1 rfl (lv_room (Nat.le_of_ble_eq_true rfl)) dX8_at_25 ⟨Nat.le_of_ble_eq_true rfl, Nat.le_of_ble_eq_true rfl⟩)) (fun r_5 h_5 => ?_)
      rcases h_5 with ⟨rfl, h_5⟩ | ⟨rfl, h_5⟩
      · refine lv_if_ne (tgt := 33) hx hb dX8_at_28 (by decide) (fun _ => ?_) (fun c_6 => False.elim (by revert c_6; decide))
        refine lv_aload_n hx hb dX8_at_33 rfl (lv_at hl 0 rfl) ?_
        refine va_get (D := D) (ci := 8) (v := .ref (a 5)) (C := RX8) (T := TX8) (N := 12) hx hb hts (fun _ h9 => List.mem_cons_of_mem _ (List.mem_append_left _ (List.mem_append_right _ h9))) hown hK hP 0 rfl rfl 4 (by decide) (hts (.fieldLink RX8 32 "BuoyTender" "vessel" "LBuoyTender$Ship;") (by decide +kernel)) (fun _ h9 => h9) rfl dX8_at_34 ?_
        refine lv_iload_n hx hb dX8_at_37 rfl (lv_at hl 1 rfl) ?_
        refine va_putN (D := D) (ci := 4) (v := .int x1) (ty := (tyX4 2)) (C := RX4) (T := TX4) (N := 10) hx hb hts (fun _ h9 => List.mem_cons_of_mem _ (List.mem_append_right _ h9)) tyX4 tyX4_ok nmX4 hown hK hP hD hS 1 rfl rfl 2 (by decide) (va_Nw.use rfl (hN.1 (RX8, 238, "BuoyTender$Ship", "x", "I", "BuoyTender") (by decide +kernel))) (fun _ h9 => h9) rfl (by decide +kernel) rfl rfl (Nat.le_of_ble_eq_true rfl) dX8_at_38 (fun H locs hP hD hS => ?_)
        have hP : va_P D vwCl [(h0, .inr (8, [.ref (a 1), .ref (a 2), .ref (a 3), .ref (a 4), .ref (a 5), .ref (a 6), .ref (a 7), .null, .int 0, .int 0, .int 0, .int 0])), (a 5, .inr (4, [.ref (a 12), .ref (a 13), .int x1, .int 0, .int 0, .int 1440, .int 1, .int 0, .int 12, .int 0]))] H := hP
        have hD : va_D A [(h0, .inr (8, [.ref (a 1), .ref (a 2), .ref (a 3), .ref (a 4), .ref (a 5), .ref (a 6), .ref (a 7), .null, .int 0, .int 0, .int 0, .int 0])), (a 5, .inr (4, [.ref (a 12), .ref (a 13), .int x1, .int 0, .int 0, .int 1440, .int 1, .int 0, .int 12, .int 0]))] := hD
        refine lv_aload_n hx hb dX8_at_41 rfl (lv_at hl 0 rfl) ?_
        refine va_get (D := D) (ci := 8) (v := .ref (a 5)) (C := RX8) (T := TX8) (N := 12) hx hb hts (fun _ h9 => List.mem_cons_of_mem _ (List.mem_append_left _ (List.mem_append_right _ h9))) hown hK hP 0 rfl rfl 4 (by decide) (hts (.fieldLink RX8 32 "BuoyTender" "vessel" "LBuoyTender$Ship;") (by decide +kernel)) (fun _ h9 => h9) rfl dX8_at_42 ?_
        refine lv_iload_n hx hb dX8_at_45 rfl (lv_at hl 2 rfl) ?_
        refine va_putN (D := D) (ci := 4) (v := .int x2) (ty := (tyX4 3)) (C := RX4) (T := TX4) (N := 10) hx hb hts (fun _ h9 => List.mem_cons_of_mem _ (List.mem_append_right _ h9)) tyX4 tyX4_ok nmX4 hown hK hP hD hS 1 rfl rfl 3 (by decide) (va_Nw.use rfl (hN.1 (RX8, 239, "BuoyTender$Ship", "y", "I", "BuoyTender") (by decide +kernel))) (fun _ h9 => h9) rfl (by decide +kernel) rfl rfl (Nat.le_of_ble_eq_true rfl) dX8_at_46 (fun H locs hP hD hS => ?_)
        have hP : va_P D vwCl [(h0, .inr (8, [.ref (a 1), .ref (a 2), .ref (a 3), .ref (a 4), .ref (a 5), .ref (a 6), .ref (a 7), .null, .int 0, .int 0, .int 0, .int 0])), (a 5, .inr (4, [.ref (a 12), .ref (a 13), .int x1, .int x2, .int 0, .int 1440, .int 1, .int 0, .int 12, .int 0]))] H := hP
        have hD : va_D A [(h0, .inr (8, [.ref (a 1), .ref (a 2), .ref (a 3), .ref (a 4), .ref (a 5), .ref (a 6), .ref (a 7), .null, .int 0, .int 0, .int 0, .int 0])), (a 5, .inr (4, [.ref (a 12), .ref (a 13), .int x1, .int x2, .int 0, .int 1440, .int 1, .int 0, .int 12, .int 0]))] := hD
        refine lv_aload_n hx hb dX8_at_49 rfl (lv_at hl 0 rfl) ?_
        refine va_get (D := D) (ci := 8) (v := .ref (a 5)) (C := RX8) (T := TX8) (N := 12) hx hb hts (fun _ h9 => List.mem_cons_of_mem _ (List.mem_append_left _ (List.mem_append_right _ h9))) hown hK hP 0 rfl rfl 4 (by decide) (hts (.fieldLink RX8 32 "BuoyTender" "vessel" "LBuoyTender$Ship;") (by decide +kernel)) (fun _ h9 => h9) rfl dX8_at_50 ?_
        refine lv_iload_n hx hb dX8_at_53 rfl (lv_at hl 3 rfl) ?_
        refine va_putN (D := D) (ci := 4) (v := .int x3) (ty := (tyX4 4)) (C := RX4) (T := TX4) (N := 10) hx hb hts (fun _ h9 => List.mem_cons_of_mem _ (List.mem_append_right _ h9)) tyX4 tyX4_ok nmX4 hown hK hP hD hS 1 rfl rfl 4 (by decide) (va_Nw.use rfl (hN.1 (RX8, 240, "BuoyTender$Ship", "minute", "I", "BuoyTender") (by decide +kernel))) (fun _ h9 => h9) rfl (by decide +kernel) rfl rfl (Nat.le_of_ble_eq_true rfl) dX8_at_54 (fun H locs hP hD hS => ?_)
        have hP : va_P D vwCl [(h0, .inr (8, [.ref (a 1), .ref (a 2), .ref (a 3), .ref (a 4), .ref (a 5), .ref (a 6), .ref (a 7), .null, .int 0, .int 0, .int 0, .int 0])), (a 5, .inr (4, [.ref (a 12), .ref (a 13), .int x1, .int x2, .int x3, .int 1440, .int 1, .int 0, .int 12, .int 0]))] H := hP
        have hD : va_D A [(h0, .inr (8, [.ref (a 1), .ref (a 2), .ref (a 3), .ref (a 4), .ref (a 5), .ref (a 6), .ref (a 7), .null, .int 0, .int 0, .int 0, .int 0])), (a 5, .inr (4, [.ref (a 12), .ref (a 13), .int x1, .int x2, .int x3, .int 1440, .int 1, .int 0, .int 12, .int 0]))] := hD
        refine lv_aload_n hx hb dX8_at_57 rfl (lv_at hl 0 rfl) ?_
        refine va_get (D := D) (ci := 8) (v := .ref (a 5)) (C := RX8) (T := TX8) (N := 12) hx hb hts (fun _ h9 => List.mem_cons_of_mem _ (List.mem_append_left _ (List.mem_append_right _ h9))) hown hK hP 0 rfl rfl 4 (by decide) (hts (.fieldLink RX8 32 "BuoyTender" "vessel" "LBuoyTender$Ship;") (by decide +kernel)) (fun _ h9 => h9) rfl dX8_at_58 ?_
        refine lv_iload hx hb dX8_at_61 (lv_at hl 4 rfl) ?_
        refine va_putN (D := D) (ci := 4) (v := .int x4) (ty := (tyX4 5)) (C := RX4) (T := TX4) (N := 10) hx hb hts (fun _ h9 => List.mem_cons_of_mem _ (List.mem_append_right _ h9)) tyX4 tyX4_ok nmX4 hown hK hP hD hS 1 rfl rfl 5 (by decide) (va_Nw.use rfl (hN.1 (RX8, 243, "BuoyTender$Ship", "end", "I", "BuoyTender") (by decide +kernel))) (fun _ h9 => h9) rfl (by decide +kernel) rfl rfl (Nat.le_of_ble_eq_true rfl) dX8_at_63 (fun H locs hP hD hS => ?_)
        have hP : va_P D vwCl [(h0, .inr (8, [.ref (a 1), .ref (a 2), .ref (a 3), .ref (a 4), .ref (a 5), .ref (a 6), .ref (a 7), .null, .int 0, .int 0, .int 0, .int 0])), (a 5, .inr (4, [.ref (a 12), .ref (a 13), .int x1, .int x2, .int x3, .int x4, .int 1, .int 0, .int 12, .int 0]))] H := hP
        have hD : va_D A [(h0, .inr (8, [.ref (a 1), .ref (a 2), .ref (a 3), .ref (a 4), .ref (a 5), .ref (a 6), .ref (a 7), .null, .int 0, .int 0, .int 0, .int 0])), (a 5, .inr (4, [.ref (a 12), .ref (a 13), .int x1, .int x2, .int x3, .int x4, .int 1, .int 0, .int 12, .int 0]))] := hD
        refine lv_aload_n hx hb dX8_at_66 rfl (lv_at hl 0 rfl) ?_
        refine lv_iconst (v := 0) hx hb dX8_at_67 (by decide) ?_
        refine va_put (D := D) (ci := 8) (v := .int 0) (ty := (tyX8 11)) (C := RX8) (T := TX8) (N := 12) hx hb hts (fun _ h9 => List.mem_cons_of_mem _ (List.mem_append_left _ (List.mem_append_right _ h9))) tyX8 tyX8_ok nmX8 hown hK hP hD hS 0 rfl rfl 11 (by decide) (hts (.fieldLink RX8 58 "BuoyTender" "planned" "Z") (by decide +kernel)) (fun _ h9 => h9) rfl (by decide +kernel) rfl rfl (Nat.le_of_ble_eq_true rfl) dX8_at_68 (fun H locs hP hD hS => ?_)
        have hP : va_P D vwCl [(h0, .inr (8, [.ref (a 1), .ref (a 2), .ref (a 3), .ref (a 4), .ref (a 5), .ref (a 6), .ref (a 7), .null, .int 0, .int 0, .int 0, .int 0])), (a 5, .inr (4, [.ref (a 12), .ref (a 13), .int x1, .int x2, .int x3, .int x4, .int 1, .int 0, .int 12, .int 0]))] H := hP
        have hD : va_D A [(h0, .inr (8, [.ref (a 1), .ref (a 2), .ref (a 3), .ref (a 4), .ref (a 5), .ref (a 6), .ref (a 7), .null, .int 0, .int 0, .int 0, .int 0])), (a 5, .inr (4, [.ref (a 12), .ref (a 13), .int x1, .int x2, .int x3, .int x4, .int 1, .int 0, .int 12, .int 0]))] := hD
        refine lv_iconst (v := 1) hx hb dX8_at_71 (by decide) ?_
        exact W.zret (v := 1) hx hb hr rfl (fun t ht hW => ⟨⟨1, (), rfl, (Or.inl ⟨rfl, h_1, h_3, h_5⟩), trivial⟩, hS.F ht⟩) hS.2.2 dX8_at_72
      refine lv_if_ne (tgt := 33) hx hb dX8_at_28 (by decide) (fun c_7 => False.elim (by revert c_7; decide)) (fun _ => ?_)
      refine lv_iconst (v := 0) hx hb dX8_at_31 (by decide) ?_
      exact W.zret (v := 0) hx hb hr rfl (fun t ht hW => ⟨⟨0, (), rfl, (Or.inr ⟨rfl, fun h9 => h_5 (h9.2.2)⟩), trivial⟩, hS.F ht⟩) hS.2.2 dX8_at_32
    refine lv_if_eq (tgt := 31) hx hb dX8_at_16 (by decide) (fun _ => ?_) (fun c_8 => False.elim (by revert c_8; decide))
    refine lv_iconst (v := 0) hx hb dX8_at_31 (by decide) ?_
    exact W.zret (v := 0) hx hb hr rfl (fun t ht hW => ⟨⟨0, (), rfl, (Or.inr ⟨rfl, fun h9 => h_3 (h9.2.1)⟩), trivial⟩, hS.F ht⟩) hS.2.2 dX8_at_32
  refine lv_if_eq (tgt := 31) hx hb dX8_at_5 (by decide) (fun _ => ?_) (fun c_9 => False.elim (by revert c_9; decide))
  refine lv_iconst (v := 0) hx hb dX8_at_31 (by decide) ?_
  exact W.zret (v := 0) hx hb hr rfl (fun t ht hW => ⟨⟨0, (), rfl, (Or.inr ⟨rfl, fun h9 => h_1 (h9.1)⟩), trivial⟩, hS.F ht⟩) hS.2.2 dX8_at_32
set_option maxHeartbeats 4000000 in
set_option maxRecDepth 100000 in
/-- Mark(x, y, r) -/
theorem k_X1_init (l : Launch) (D : va_G) (cI cJ cZ cM : Nat) (h0 : Nat) (x1 : Int32) (x2 : Int32) (x3 : Int32) (sz : Nat) : Met l yX1_init wsX1_init ({ frames := 2, cells := 5, slots := 59, locals := 40 } : Room) (RW D cI cJ cZ cM [.ref h0, .int x1, .int x2, .int x3] [(h0, .inr (1, [.int 0, .int 0, .int 0, .null, .null, .null, .int 0, .int 0, .int 0]))] sz) (va_Qv (S := Nat × Nat × Nat × Nat × Nat) (fun u => True) (BB D (fun u => [(h0, .inr (1, [.int x1, .int x2, .int x3, .ref u.1, .ref u.2.2.1, .ref u.2.2.2.1, .int 0, .int 0, .int 0])), (u.1, .inr (5, [.ref u.2.1, .int 0, .int 200, .int 0])), (u.2.1, .inl (cJ, 40, .inr (.inl (fun _ => 0)))), (u.2.2.1, .inr (0, [.int 0, .int 0, .int 0, .int 0, .int 0])), (u.2.2.2.1, .inr (3, [.ref u.2.2.2.2, .int 0])), (u.2.2.2.2, .inl (cI, 8, .inl (fun _ => 0)))]) (va_A [(h0, .inr (1, [.int 0, .int 0, .int 0, .null, .null, .null, .int 0, .int 0, .int 0]))] sz)) (va_A [(h0, .inr (1, [.int 0, .int 0, .int 0, .null, .null, .null, .int 0, .int 0, .int 0]))] sz)) 5 59 (va_A [(h0, .inr (1, [.int 0, .int 0, .int 0, .null, .null, .null, .int 0, .int 0, .int 0]))] sz) := by
  refine Met.ofW (cc := cX1_init) (maxL := 4) (ret := none) (by decide) rfl ?_
  intro p e s m args below meth c s₁ B hml hv
  obtain ⟨rfl, hsz, hG, hP, hD0⟩ := hv
  have hx := B.exec
  have hb := B.bytes
  have hr := B.returns
  have hts := atoms_spec (ws := wsX1_init) B.pre
  have hown : s.vm.findClass RX1 = some m.cls := findClass_of_methodNamed B.named
  have hlocks := B.notSynchronized
  have hin : meth.name = "<init>" := (name_of_methodNamed B.named B.method).1
  have hK := hG.1
  have hN := hG.2
  subst hsz
  have hD := hD0.self (sz := s.heap.size)
  generalize hAe : va_A [(h0, .inr (1, [.int 0, .int 0, .int 0, .null, .null, .null, .int 0, .int 0, .int 0]))] s.heap.size = A at hD ⊢
  have hA : ∀ q : Nat, s.heap.size ≤ q → A q := fun q h => by rw [← hAe]; exact Or.inr h
  have hS : va_S A s.heap s.heap [] := va_S.rf
  have hP : va_P D vwCl [(h0, .inr (1, [.int 0, .int 0, .int 0, .null, .null, .null, .int 0, .int 0, .int 0]))] s.heap := hP
  have hl := lv_entry ([.ref h0, .int x1, .int x2, .int x3]) (n := 4) (Nat.le_of_ble_eq_true rfl)
  rw [lg_entry_eq]
  generalize (lg_sl ([.ref h0, .int x1, .int x2, .int x3]) ++ List.replicate (4 - (lg_sl ([.ref h0, .int x1, .int x2, .int x3])).length) Slot.unset).toArray = ls at hl ⊢
  have hl : lv_has ls 4 [(0, .ref h0), (1, .int x1), (2, .int x2), (3, .int x3)] := hl
  refine lv_aload_n hx hb dX1_init_0 rfl (lv_at hl 0 rfl) ?_
  refine W.objInit hx hb hown (hts (.methodLink RX1 1 objectInit) (by decide +kernel)) (hts (.instanceMethod objectInit) (by decide +kernel)) (hts (.code objectInit ⟨#[0xb1]⟩ 1 none) (by decide +kernel)) rfl (by rw [hml]; exact hl.1) rfl dX1_init_1 (Nat.le_of_ble_eq_true rfl) (Nat.le_of_ble_eq_true rfl) ?_
  refine W.eq (g2 := F0 m 4 ls []) rfl ?_
  refine lv_aload_n hx hb dX1_init_4 rfl (lv_at hl 0 rfl) ?_
  refine va_new (ci := 5) (fs := [.null, .int 0, .int 0, .int 0]) (C := RX5) (T := TX5) (N := 4) hx hb hts (fun _ h9 => List.mem_cons_of_mem _ (List.mem_append_left _ (List.mem_append_left _ (List.mem_append_left _ (List.mem_append_right _ h9))))) tyX5 tyX5_ok hown (hts (.classLink RX1 7 RX5) (by decide +kernel)) (hts (.instantiable RX5 4) (by decide +kernel)) (hts (.initialized RX5) (by decide +kernel)) hK hP hD hS hA rfl (fun j hj => by rcases (show j = 0 ∨ j = 1 ∨ j = 2 ∨ j = 3 by omega) with rfl | rfl | rfl | rfl <;> rfl) (Nat.le_of_ble_eq_true rfl) (Nat.le_of_ble_eq_true rfl) dX1_init_5 (fun q1 H hP hD hS => ?_)
  have hP : va_P D vwCl [(h0, .inr (1, [.int 0, .int 0, .int 0, .null, .null, .null, .int 0, .int 0, .int 0])), (q1, .inr (5, [.null, .int 0, .int 0, .int 0]))] H := hP
  have hD : va_D A [(h0, .inr (1, [.int 0, .int 0, .int 0, .null, .null, .null, .int 0, .int 0, .int 0])), (q1, .inr (5, [.null, .int 0, .int 0, .int 0]))] := hD
  refine W.widen (k := 1) (n := 4) (by decide) (by decide) ?_
  refine lv_dup hx hb dX1_init_8 rfl ?_
  have hPc := hP.sub (ws' := [(q1, .inr (5, [.null, .int 0, .int 0, .int 0]))]) [1] rfl
  have hDc := hD.sub (ws' := [(q1, .inr (5, [.null, .int 0, .int 0, .int 0]))]) [1] (by decide) rfl
  have hFc := va_free (wc := [(q1, .inr (5, [.null, .int 0, .int 0, .int 0]))]) hD hS hA [1] rfl
  refine va_callv (va_runIN (As := []) (rest := [.ref q1, .ref h0]) ⟨hx, hb, hml, hown, hts⟩ (k_X5_init l D cI cJ cZ cM q1 _) ⟨(va_cnB 0 hts gX1_init_X5_init_n9 rfl rfl rfl (hN.2.1 (RX1, 9, yX5_init, "BuoyTender") (by decide +kernel)) (hts (.initialized RX5) (by decide +kernel)) (by decide +kernel) ⟨Nat.le_of_ble_eq_true rfl, Nat.le_of_ble_eq_true rfl⟩), rfl, hts (.instanceMethod yX5_init) (by decide +kernel)⟩ (rw_S hG hPc hDc) rfl rfl hl.1 rfl (lv_room (Nat.le_of_ble_eq_true rfl)) dX1_init_9 ⟨Nat.le_of_ble_eq_true rfl, Nat.le_of_ble_eq_true rfl⟩) hS (fun q _ h => hFc q h) hFc (fun u_2 t_2 H1 locs ht hvm hw hB hz1 hk1 hS => ?_)
  obtain ⟨y0_2, rfl⟩ : ∃ z, z = u_2 := ⟨_, rfl⟩
  obtain ⟨hP1, hD1⟩ := hB
  rw [ht] at hP1
  obtain ⟨hP, hD⟩ := va_join (wr := [(h0, .inr (1, [.int 0, .int 0, .int 0, .null, .null, .null, .int 0, .int 0, .int 0]))]) (w1 := [(q1, .inr (5, [.ref y0_2, .int 0, .int 200, .int 0])), (y0_2, .inl (cJ, 40, .inr (.inl (fun _ => 0))))]) hP hD [1] [0] rfl rfl (by decide) (by decide) hk1 hFc hP1 hD1
  generalize H1 = H at hP hS ⊢
  have hP : va_P D vwCl [(h0, .inr (1, [.int 0, .int 0, .int 0, .null, .null, .null, .int 0, .int 0, .int 0])), (q1, .inr (5, [.ref y0_2, .int 0, .int 200, .int 0])), (y0_2, .inl (cJ, 40, .inr (.inl (fun _ => 0))))] H := hP
  have hD : va_D A [(h0, .inr (1, [.int 0, .int 0, .int 0, .null, .null, .null, .int 0, .int 0, .int 0])), (q1, .inr (5, [.ref y0_2, .int 0, .int 200, .int 0])), (y0_2, .inl (cJ, 40, .inr (.inl (fun _ => 0))))] := hD
  refine W.widen (k := 2) (n := 44) (by decide) (by decide) ?_
  refine va_putF (D := D) (ci := 1) (v := .ref q1) (ty := (tyX1 3)) (C := RX1) (T := TX1) (N := 9) hx hb hts (fun _ h9 => List.mem_cons_of_mem _ (List.mem_append_left _ (List.mem_append_left _ (List.mem_append_right _ h9)))) tyX1 tyX1_ok nmX1 hown hK hP hD hS 0 rfl rfl 3 (by decide) (hts (.fieldLink RX1 10 "BuoyTender$Mark" "sighting" "LBuoyTender$Sighting;") (by decide +kernel)) (fun _ h9 => h9) rfl hin rfl (by decide +kernel) rfl rfl (Nat.le_of_ble_eq_true rfl) dX1_init_12 (fun H locs hP hD hS => ?_)
  have hP : va_P D vwCl [(h0, .inr (1, [.int 0, .int 0, .int 0, .ref q1, .null, .null, .int 0, .int 0, .int 0])), (q1, .inr (5, [.ref y0_2, .int 0, .int 200, .int 0])), (y0_2, .inl (cJ, 40, .inr (.inl (fun _ => 0))))] H := hP
  have hD : va_D A [(h0, .inr (1, [.int 0, .int 0, .int 0, .ref q1, .null, .null, .int 0, .int 0, .int 0])), (q1, .inr (5, [.ref y0_2, .int 0, .int 200, .int 0])), (y0_2, .inl (cJ, 40, .inr (.inl (fun _ => 0))))] := hD
  refine lv_aload_n hx hb dX1_init_15 rfl (lv_at hl 0 rfl) ?_
  refine va_new (ci := 0) (fs := [.int 0, .int 0, .int 0, .int 0, .int 0]) (C := RX0) (T := TX0) (N := 5) hx hb hts (fun _ h9 => List.mem_cons_of_mem _ (List.mem_append_left _ (List.mem_append_right _ h9))) tyX0 tyX0_ok hown (hts (.classLink RX1 16 RX0) (by decide +kernel)) (hts (.instantiable RX0 5) (by decide +kernel)) (hts (.initialized RX0) (by decide +kernel)) hK hP hD hS hA rfl (fun j hj => by rcases (show j = 0 ∨ j = 1 ∨ j = 2 ∨ j = 3 ∨ j = 4 by omega) with rfl | rfl | rfl | rfl | rfl <;> rfl) (Nat.le_of_ble_eq_true rfl) (Nat.le_of_ble_eq_true rfl) dX1_init_16 (fun q3 H hP hD hS => ?_)
  have hP : va_P D vwCl [(h0, .inr (1, [.int 0, .int 0, .int 0, .ref q1, .null, .null, .int 0, .int 0, .int 0])), (q1, .inr (5, [.ref y0_2, .int 0, .int 200, .int 0])), (y0_2, .inl (cJ, 40, .inr (.inl (fun _ => 0)))), (q3, .inr (0, [.int 0, .int 0, .int 0, .int 0, .int 0]))] H := hP
  have hD : va_D A [(h0, .inr (1, [.int 0, .int 0, .int 0, .ref q1, .null, .null, .int 0, .int 0, .int 0])), (q1, .inr (5, [.ref y0_2, .int 0, .int 200, .int 0])), (y0_2, .inl (cJ, 40, .inr (.inl (fun _ => 0)))), (q3, .inr (0, [.int 0, .int 0, .int 0, .int 0, .int 0]))] := hD
  refine W.widen (k := 3) (n := 49) (by decide) (by decide) ?_
  refine lv_dup hx hb dX1_init_19 rfl ?_
  have hPc := hP.sub (ws' := [(q3, .inr (0, [.int 0, .int 0, .int 0, .int 0, .int 0]))]) [3] rfl
  have hDc := hD.sub (ws' := [(q3, .inr (0, [.int 0, .int 0, .int 0, .int 0, .int 0]))]) [3] (by decide) rfl
  have hFc := va_free (wc := [(q3, .inr (0, [.int 0, .int 0, .int 0, .int 0, .int 0]))]) hD hS hA [3] rfl
  refine va_callv (va_runIN (As := []) (rest := [.ref q3, .ref h0]) ⟨hx, hb, hml, hown, hts⟩ (k_X0_init l D cI cJ cZ cM q3 _) ⟨(va_cnB 0 hts gX1_init_X0_init_n18 rfl rfl rfl (hN.2.1 (RX1, 18, yX0_init, "BuoyTender") (by decide +kernel)) (hts (.initialized RX0) (by decide +kernel)) (by decide +kernel) ⟨Nat.le_of_ble_eq_true rfl, Nat.le_of_ble_eq_true rfl⟩), rfl, hts (.instanceMethod yX0_init) (by decide +kernel)⟩ (rw_S hG hPc hDc) rfl rfl hl.1 rfl (lv_room (Nat.le_of_ble_eq_true rfl)) dX1_init_20 ⟨Nat.le_of_ble_eq_true rfl, Nat.le_of_ble_eq_true rfl⟩) hS (fun q _ h => hFc q h) hFc (fun u_4 t_4 H1 locs ht hvm hw hB hz1 hk1 hS => ?_)
  obtain ⟨hP1, hD1⟩ := hB
  rw [ht] at hP1
  obtain ⟨hP, hD⟩ := va_join (wr := [(h0, .inr (1, [.int 0, .int 0, .int 0, .ref q1, .null, .null, .int 0, .int 0, .int 0])), (q1, .inr (5, [.ref y0_2, .int 0, .int 200, .int 0])), (y0_2, .inl (cJ, 40, .inr (.inl (fun _ => 0))))]) (w1 := [(q3, .inr (0, [.int 0, .int 0, .int 0, .int 0, .int 0]))]) hP hD [3] [0, 1, 2] rfl rfl (by decide) (by decide) hk1 hFc hP1 hD1
  generalize H1 = H at hP hS ⊢
  have hP : va_P D vwCl [(h0, .inr (1, [.int 0, .int 0, .int 0, .ref q1, .null, .null, .int 0, .int 0, .int 0])), (q1, .inr (5, [.ref y0_2, .int 0, .int 200, .int 0])), (y0_2, .inl (cJ, 40, .inr (.inl (fun _ => 0)))), (q3, .inr (0, [.int 0, .int 0, .int 0, .int 0, .int 0]))] H := hP
  have hD : va_D A [(h0, .inr (1, [.int 0, .int 0, .int 0, .ref q1, .null, .null, .int 0, .int 0, .int 0])), (q1, .inr (5, [.ref y0_2, .int 0, .int 200, .int 0])), (y0_2, .inl (cJ, 40, .inr (.inl (fun _ => 0)))), (q3, .inr (0, [.int 0, .int 0, .int 0, .int 0, .int 0]))] := hD
  refine va_putF (D := D) (ci := 1) (v := .ref q3) (ty := (tyX1 4)) (C := RX1) (T := TX1) (N := 9) hx hb hts (fun _ h9 => List.mem_cons_of_mem _ (List.mem_append_left _ (List.mem_append_left _ (List.mem_append_right _ h9)))) tyX1 tyX1_ok nmX1 hown hK hP hD hS 0 rfl rfl 4 (by decide) (hts (.fieldLink RX1 19 "BuoyTender$Mark" "chain" "LBuoyTender$Chain;") (by decide +kernel)) (fun _ h9 => h9) rfl hin rfl (by decide +kernel) rfl rfl (Nat.le_of_ble_eq_true rfl) dX1_init_23 (fun H locs hP hD hS => ?_)
  have hP : va_P D vwCl [(h0, .inr (1, [.int 0, .int 0, .int 0, .ref q1, .ref q3, .null, .int 0, .int 0, .int 0])), (q1, .inr (5, [.ref y0_2, .int 0, .int 200, .int 0])), (y0_2, .inl (cJ, 40, .inr (.inl (fun _ => 0)))), (q3, .inr (0, [.int 0, .int 0, .int 0, .int 0, .int 0]))] H := hP
  have hD : va_D A [(h0, .inr (1, [.int 0, .int 0, .int 0, .ref q1, .ref q3, .null, .int 0, .int 0, .int 0])), (q1, .inr (5, [.ref y0_2, .int 0, .int 200, .int 0])), (y0_2, .inl (cJ, 40, .inr (.inl (fun _ => 0)))), (q3, .inr (0, [.int 0, .int 0, .int 0, .int 0, .int 0]))] := hD
  refine lv_aload_n hx hb dX1_init_26 rfl (lv_at hl 0 rfl) ?_
  refine va_new (ci := 3) (fs := [.null, .int 0]) (C := RX3) (T := TX3) (N := 2) hx hb hts (fun _ h9 => List.mem_cons_of_mem _ (List.mem_append_right _ h9)) tyX3 tyX3_ok hown (hts (.classLink RX1 23 RX3) (by decide +kernel)) (hts (.instantiable RX3 2) (by decide +kernel)) (hts (.initialized RX3) (by decide +kernel)) hK hP hD hS hA rfl (fun j hj => by rcases (show j = 0 ∨ j = 1 by omega) with rfl | rfl <;> rfl) (Nat.le_of_ble_eq_true rfl) (Nat.le_of_ble_eq_true rfl) dX1_init_27 (fun q5 H hP hD hS => ?_)
  have hP : va_P D vwCl [(h0, .inr (1, [.int 0, .int 0, .int 0, .ref q1, .ref q3, .null, .int 0, .int 0, .int 0])), (q1, .inr (5, [.ref y0_2, .int 0, .int 200, .int 0])), (y0_2, .inl (cJ, 40, .inr (.inl (fun _ => 0)))), (q3, .inr (0, [.int 0, .int 0, .int 0, .int 0, .int 0])), (q5, .inr (3, [.null, .int 0]))] H := hP
  have hD : va_D A [(h0, .inr (1, [.int 0, .int 0, .int 0, .ref q1, .ref q3, .null, .int 0, .int 0, .int 0])), (q1, .inr (5, [.ref y0_2, .int 0, .int 200, .int 0])), (y0_2, .inl (cJ, 40, .inr (.inl (fun _ => 0)))), (q3, .inr (0, [.int 0, .int 0, .int 0, .int 0, .int 0])), (q5, .inr (3, [.null, .int 0]))] := hD
  refine W.widen (k := 4) (n := 51) (by decide) (by decide) ?_
  refine lv_dup hx hb dX1_init_30 rfl ?_
  have hPc := hP.sub (ws' := [(q5, .inr (3, [.null, .int 0]))]) [4] rfl
  have hDc := hD.sub (ws' := [(q5, .inr (3, [.null, .int 0]))]) [4] (by decide) rfl
  have hFc := va_free (wc := [(q5, .inr (3, [.null, .int 0]))]) hD hS hA [4] rfl
  refine va_callv (va_runIN (As := []) (rest := [.ref q5, .ref h0]) ⟨hx, hb, hml, hown, hts⟩ (k_X3_init l D cI cJ cZ cM q5 _) ⟨(va_cnB 0 hts gX1_init_X3_init_n25 rfl rfl rfl (hN.2.1 (RX1, 25, yX3_init, "BuoyTender") (by decide +kernel)) (hts (.initialized RX3) (by decide +kernel)) (by decide +kernel) ⟨Nat.le_of_ble_eq_true rfl, Nat.le_of_ble_eq_true rfl⟩), rfl, hts (.instanceMethod yX3_init) (by decide +kernel)⟩ (rw_S hG hPc hDc) rfl rfl hl.1 rfl (lv_room (Nat.le_of_ble_eq_true rfl)) dX1_init_31 ⟨Nat.le_of_ble_eq_true rfl, Nat.le_of_ble_eq_true rfl⟩) hS (fun q _ h => hFc q h) hFc (fun u_6 t_6 H1 locs ht hvm hw hB hz1 hk1 hS => ?_)
  obtain ⟨y0_6, rfl⟩ : ∃ z, z = u_6 := ⟨_, rfl⟩
  obtain ⟨hP1, hD1⟩ := hB
  rw [ht] at hP1
  obtain ⟨hP, hD⟩ := va_join (wr := [(h0, .inr (1, [.int 0, .int 0, .int 0, .ref q1, .ref q3, .null, .int 0, .int 0, .int 0])), (q1, .inr (5, [.ref y0_2, .int 0, .int 200, .int 0])), (y0_2, .inl (cJ, 40, .inr (.inl (fun _ => 0)))), (q3, .inr (0, [.int 0, .int 0, .int 0, .int 0, .int 0]))]) (w1 := [(q5, .inr (3, [.ref y0_6, .int 0])), (y0_6, .inl (cI, 8, .inl (fun _ => 0)))]) hP hD [4] [0, 1, 2, 3] rfl rfl (by decide) (by decide) hk1 hFc hP1 hD1
  generalize H1 = H at hP hS ⊢
  have hP : va_P D vwCl [(h0, .inr (1, [.int 0, .int 0, .int 0, .ref q1, .ref q3, .null, .int 0, .int 0, .int 0])), (q1, .inr (5, [.ref y0_2, .int 0, .int 200, .int 0])), (y0_2, .inl (cJ, 40, .inr (.inl (fun _ => 0)))), (q3, .inr (0, [.int 0, .int 0, .int 0, .int 0, .int 0])), (q5, .inr (3, [.ref y0_6, .int 0])), (y0_6, .inl (cI, 8, .inl (fun _ => 0)))] H := hP
  have hD : va_D A [(h0, .inr (1, [.int 0, .int 0, .int 0, .ref q1, .ref q3, .null, .int 0, .int 0, .int 0])), (q1, .inr (5, [.ref y0_2, .int 0, .int 200, .int 0])), (y0_2, .inl (cJ, 40, .inr (.inl (fun _ => 0)))), (q3, .inr (0, [.int 0, .int 0, .int 0, .int 0, .int 0])), (q5, .inr (3, [.ref y0_6, .int 0])), (y0_6, .inl (cI, 8, .inl (fun _ => 0)))] := hD
  refine W.widen (k := 5) (n := 59) (by decide) (by decide) ?_
  refine va_putF (D := D) (ci := 1) (v := .ref q5) (ty := (tyX1 5)) (C := RX1) (T := TX1) (N := 9) hx hb hts (fun _ h9 => List.mem_cons_of_mem _ (List.mem_append_left _ (List.mem_append_left _ (List.mem_append_right _ h9)))) tyX1 tyX1_ok nmX1 hown hK hP hD hS 0 rfl rfl 5 (by decide) (hts (.fieldLink RX1 26 "BuoyTender$Mark" "rhythm" "LBuoyTender$Rhythm;") (by decide +kernel)) (fun _ h9 => h9) rfl hin rfl (by decide +kernel) rfl rfl (Nat.le_of_ble_eq_true rfl) dX1_init_34 (fun H locs hP hD hS => ?_)
  have hP : va_P D vwCl [(h0, .inr (1, [.int 0, .int 0, .int 0, .ref q1, .ref q3, .ref q5, .int 0, .int 0, .int 0])), (q1, .inr (5, [.ref y0_2, .int 0, .int 200, .int 0])), (y0_2, .inl (cJ, 40, .inr (.inl (fun _ => 0)))), (q3, .inr (0, [.int 0, .int 0, .int 0, .int 0, .int 0])), (q5, .inr (3, [.ref y0_6, .int 0])), (y0_6, .inl (cI, 8, .inl (fun _ => 0)))] H := hP
  have hD : va_D A [(h0, .inr (1, [.int 0, .int 0, .int 0, .ref q1, .ref q3, .ref q5, .int 0, .int 0, .int 0])), (q1, .inr (5, [.ref y0_2, .int 0, .int 200, .int 0])), (y0_2, .inl (cJ, 40, .inr (.inl (fun _ => 0)))), (q3, .inr (0, [.int 0, .int 0, .int 0, .int 0, .int 0])), (q5, .inr (3, [.ref y0_6, .int 0])), (y0_6, .inl (cI, 8, .inl (fun _ => 0)))] := hD
  refine lv_aload_n hx hb dX1_init_37 rfl (lv_at hl 0 rfl) ?_
  refine lv_iload_n hx hb dX1_init_38 rfl (lv_at hl 1 rfl) ?_
  refine va_putF (D := D) (ci := 1) (v := .int x1) (ty := (tyX1 0)) (C := RX1) (T := TX1) (N := 9) hx hb hts (fun _ h9 => List.mem_cons_of_mem _ (List.mem_append_left _ (List.mem_append_left _ (List.mem_append_right _ h9)))) tyX1 tyX1_ok nmX1 hown hK hP hD hS 0 rfl rfl 0 (by decide) (hts (.fieldLink RX1 30 "BuoyTender$Mark" "x" "I") (by decide +kernel)) (fun _ h9 => h9) rfl hin rfl (by decide +kernel) rfl rfl (Nat.le_of_ble_eq_true rfl) dX1_init_39 (fun H locs hP hD hS => ?_)
  have hP : va_P D vwCl [(h0, .inr (1, [.int x1, .int 0, .int 0, .ref q1, .ref q3, .ref q5, .int 0, .int 0, .int 0])), (q1, .inr (5, [.ref y0_2, .int 0, .int 200, .int 0])), (y0_2, .inl (cJ, 40, .inr (.inl (fun _ => 0)))), (q3, .inr (0, [.int 0, .int 0, .int 0, .int 0, .int 0])), (q5, .inr (3, [.ref y0_6, .int 0])), (y0_6, .inl (cI, 8, .inl (fun _ => 0)))] H := hP
  have hD : va_D A [(h0, .inr (1, [.int x1, .int 0, .int 0, .ref q1, .ref q3, .ref q5, .int 0, .int 0, .int 0])), (q1, .inr (5, [.ref y0_2, .int 0, .int 200, .int 0])), (y0_2, .inl (cJ, 40, .inr (.inl (fun _ => 0)))), (q3, .inr (0, [.int 0, .int 0, .int 0, .int 0, .int 0])), (q5, .inr (3, [.ref y0_6, .int 0])), (y0_6, .inl (cI, 8, .inl (fun _ => 0)))] := hD
  refine lv_aload_n hx hb dX1_init_42 rfl (lv_at hl 0 rfl) ?_
  refine lv_iload_n hx hb dX1_init_43 rfl (lv_at hl 2 rfl) ?_
  refine va_putF (D := D) (ci := 1) (v := .int x2) (ty := (tyX1 1)) (C := RX1) (T := TX1) (N := 9) hx hb hts (fun _ h9 => List.mem_cons_of_mem _ (List.mem_append_left _ (List.mem_append_left _ (List.mem_append_right _ h9)))) tyX1 tyX1_ok nmX1 hown hK hP hD hS 0 rfl rfl 1 (by decide) (hts (.fieldLink RX1 34 "BuoyTender$Mark" "y" "I") (by decide +kernel)) (fun _ h9 => h9) rfl hin rfl (by decide +kernel) rfl rfl (Nat.le_of_ble_eq_true rfl) dX1_init_44 (fun H locs hP hD hS => ?_)
  have hP : va_P D vwCl [(h0, .inr (1, [.int x1, .int x2, .int 0, .ref q1, .ref q3, .ref q5, .int 0, .int 0, .int 0])), (q1, .inr (5, [.ref y0_2, .int 0, .int 200, .int 0])), (y0_2, .inl (cJ, 40, .inr (.inl (fun _ => 0)))), (q3, .inr (0, [.int 0, .int 0, .int 0, .int 0, .int 0])), (q5, .inr (3, [.ref y0_6, .int 0])), (y0_6, .inl (cI, 8, .inl (fun _ => 0)))] H := hP
  have hD : va_D A [(h0, .inr (1, [.int x1, .int x2, .int 0, .ref q1, .ref q3, .ref q5, .int 0, .int 0, .int 0])), (q1, .inr (5, [.ref y0_2, .int 0, .int 200, .int 0])), (y0_2, .inl (cJ, 40, .inr (.inl (fun _ => 0)))), (q3, .inr (0, [.int 0, .int 0, .int 0, .int 0, .int 0])), (q5, .inr (3, [.ref y0_6, .int 0])), (y0_6, .inl (cI, 8, .inl (fun _ => 0)))] := hD
  refine lv_aload_n hx hb dX1_init_47 rfl (lv_at hl 0 rfl) ?_
  refine lv_iload_n hx hb dX1_init_48 rfl (lv_at hl 3 rfl) ?_
  refine va_putF (D := D) (ci := 1) (v := .int x3) (ty := (tyX1 2)) (C := RX1) (T := TX1) (N := 9) hx hb hts (fun _ h9 => List.mem_cons_of_mem _ (List.mem_append_left _ (List.mem_append_left _ (List.mem_append_right _ h9)))) tyX1 tyX1_ok nmX1 hown hK hP hD hS 0 rfl rfl 2 (by decide) (hts (.fieldLink RX1 37 "BuoyTender$Mark" "radius" "I") (by decide +kernel)) (fun _ h9 => h9) rfl hin rfl (by decide +kernel) rfl rfl (Nat.le_of_ble_eq_true rfl) dX1_init_49 (fun H locs hP hD hS => ?_)
  have hP : va_P D vwCl [(h0, .inr (1, [.int x1, .int x2, .int x3, .ref q1, .ref q3, .ref q5, .int 0, .int 0, .int 0])), (q1, .inr (5, [.ref y0_2, .int 0, .int 200, .int 0])), (y0_2, .inl (cJ, 40, .inr (.inl (fun _ => 0)))), (q3, .inr (0, [.int 0, .int 0, .int 0, .int 0, .int 0])), (q5, .inr (3, [.ref y0_6, .int 0])), (y0_6, .inl (cI, 8, .inl (fun _ => 0)))] H := hP
  have hD : va_D A [(h0, .inr (1, [.int x1, .int x2, .int x3, .ref q1, .ref q3, .ref q5, .int 0, .int 0, .int 0])), (q1, .inr (5, [.ref y0_2, .int 0, .int 200, .int 0])), (y0_2, .inl (cJ, 40, .inr (.inl (fun _ => 0)))), (q3, .inr (0, [.int 0, .int 0, .int 0, .int 0, .int 0])), (q5, .inr (3, [.ref y0_6, .int 0])), (y0_6, .inl (cI, 8, .inl (fun _ => 0)))] := hD
  have hP9 := hP.sub (ws' := [(h0, .inr (1, [.int x1, .int x2, .int x3, .ref q1, .ref q3, .ref q5, .int 0, .int 0, .int 0])), (q1, .inr (5, [.ref y0_2, .int 0, .int 200, .int 0])), (y0_2, .inl (cJ, 40, .inr (.inl (fun _ => 0)))), (q3, .inr (0, [.int 0, .int 0, .int 0, .int 0, .int 0])), (q5, .inr (3, [.ref y0_6, .int 0])), (y0_6, .inl (cI, 8, .inl (fun _ => 0)))]) [0, 1, 2, 3, 4, 5] rfl
  have hD9 := hD.sub (ws' := [(h0, .inr (1, [.int x1, .int x2, .int x3, .ref q1, .ref q3, .ref q5, .int 0, .int 0, .int 0])), (q1, .inr (5, [.ref y0_2, .int 0, .int 200, .int 0])), (y0_2, .inl (cJ, 40, .inr (.inl (fun _ => 0)))), (q3, .inr (0, [.int 0, .int 0, .int 0, .int 0, .int 0])), (q5, .inr (3, [.ref y0_6, .int 0])), (y0_6, .inl (cI, 8, .inl (fun _ => 0)))]) [0, 1, 2, 3, 4, 5] (by decide) rfl
  exact W.vret hx hb hr (fun t ht hW => ⟨⟨(q1, y0_2, q3, q5, y0_6), rfl, trivial, ⟨by rw [ht]; exact hP9, hD9⟩⟩, hS.F ht⟩) hS.2.2 dX1_init_52
set_option maxHeartbeats 4000000 in
set_option maxRecDepth 100000 in
/-- mark on a fresh object -/
theorem k_X8_mark (l : Launch) (D : va_G) (cI cJ cZ cM : Nat) (h0 : Nat) (a : Nat → Nat) (x1 : Int32) (x2 : Int32) (x3 : Int32) (sz : Nat) : Met l yX8_mark wsX8_mark ({ frames := 3, cells := 6, slots := 68, locals := 63 } : Room) (RW D cI cJ cZ cM [.ref h0, .int x1, .int x2, .int x3] [(h0, .inr (8, [.ref (a 1), .ref (a 2), .ref (a 3), .ref (a 4), .ref (a 5), .ref (a 6), .ref (a 7), .null, .int 0, .int 0, .int 0, .int 0])), (a 2, .inl (cM, 10, .inr (.inr (.inr (.inr (fun _ => none))))))] sz) (va_Qi (S := Unit) (fun r u => okI 0 (-1) (placeP x1 x2 ∧ (0 ≤ x3 ∧ x3 ≤ 20)) r) (fun _ _ => True) (va_A [(h0, .inr (8, [.ref (a 1), .ref (a 2), .ref (a 3), .ref (a 4), .ref (a 5), .ref (a 6), .ref (a 7), .null, .int 0, .int 0, .int 0, .int 0])), (a 2, .inl (cM, 10, .inr (.inr (.inr (.inr (fun _ => none))))))] sz)) 6 68 (va_A [(h0, .inr (8, [.ref (a 1), .ref (a 2), .ref (a 3), .ref (a 4), .ref (a 5), .ref (a 6), .ref (a 7), .null, .int 0, .int 0, .int 0, .int 0])), (a 2, .inl (cM, 10, .inr (.inr (.inr (.inr (fun _ => none))))))] sz) := by
  refine Met.ofW (cc := cX8_mark) (maxL := 5) (ret := (some .int)) (by decide) rfl ?_
  intro p e s m args below meth c s₁ B hml hv
  obtain ⟨rfl, hsz, hG, hP, hD0⟩ := hv
  have hx := B.exec
  have hb := B.bytes
  have hr := B.returns
  have hts := atoms_spec (ws := wsX8_mark) B.pre
  have hown : s.vm.findClass RX8 = some m.cls := findClass_of_methodNamed B.named
  have hlocks := B.notSynchronized
  have hK := hG.1
  have hN := hG.2
  subst hsz
  have hD := hD0.self (sz := s.heap.size)
  generalize hAe : va_A [(h0, .inr (8, [.ref (a 1), .ref (a 2), .ref (a 3), .ref (a 4), .ref (a 5), .ref (a 6), .ref (a 7), .null, .int 0, .int 0, .int 0, .int 0])), (a 2, .inl (cM, 10, .inr (.inr (.inr (.inr (fun _ => none))))))] s.heap.size = A at hD ⊢
  have hA : ∀ q : Nat, s.heap.size ≤ q → A q := fun q h => by rw [← hAe]; exact Or.inr h
  have hS : va_S A s.heap s.heap [] := va_S.rf
  have hP : va_P D vwCl [(h0, .inr (8, [.ref (a 1), .ref (a 2), .ref (a 3), .ref (a 4), .ref (a 5), .ref (a 6), .ref (a 7), .null, .int 0, .int 0, .int 0, .int 0])), (a 2, .inl (cM, 10, .inr (.inr (.inr (.inr (fun _ => none))))))] s.heap := hP
  have hl := lv_entry ([.ref h0, .int x1, .int x2, .int x3]) (n := 5) (Nat.le_of_ble_eq_true rfl)
  rw [lg_entry_eq]
  generalize (lg_sl ([.ref h0, .int x1, .int x2, .int x3]) ++ List.replicate (5 - (lg_sl ([.ref h0, .int x1, .int x2, .int x3])).length) Slot.unset).toArray = ls at hl ⊢
  have hl : lv_has ls 5 [(0, .ref h0), (1, .int x1), (2, .int x2), (3, .int x3)] := hl
  refine lv_iload_n hx hb dX8_mark_0 rfl (lv_at hl 1 rfl) ?_
  refine lv_iload_n hx hb dX8_mark_1 rfl (lv_at hl 2 rfl) ?_
  refine vp_callSi (va_Run.run (va_runS (As := [.int x1, .int x2]) (rest := []) ⟨hx, hb, hml, hown, hts⟩ (k_X8_isPlace l x1 x2) (va_cwS 2 hts gX8_mark_X8_isPlace rfl rfl rfl (by decide +kernel) ⟨Nat.le_of_ble_eq_true rfl, Nat.le_of_ble_eq_true rfl⟩) preEq rfl rfl hl.1 rfl (lv_room (Nat.le_of_ble_eq_true rfl)) dX8_mark_2 ⟨Nat.le_of_ble_eq_true rfl, Nat.le_of_ble_eq_true rfl⟩)) (fun r_1 h_1 => ?_)
  rcases h_1 with ⟨rfl, h_1⟩ | ⟨rfl, h_1⟩
  · refine lv_if_eq (tgt := 27) hx hb dX8_mark_5 (by decide) (fun c_2 => False.elim (by revert c_2; decide)) (fun _ => ?_)
    refine lv_iload_n hx hb dX8_mark_8 rfl (lv_at hl 3 rfl) ?_
    refine lv_iconst (v := 0) hx hb dX8_mark_9 (by decide) ?_
    refine lv_bipush (v := 20) hx hb dX8_mark_10 (by decide) ?_
    refine vp_callSi (va_Run.run (va_runS (As := [.int x3, .int 0, .int 20]) (rest := []) ⟨hx, hb, hml, hown, hts⟩ (k_X8_within l x3 0 20) (va_cwS 3 hts gX8_mark_X8_within rfl rfl rfl (by decide +kernel) ⟨Nat.le_of_ble_eq_true rfl, Nat.le_of_ble_eq_true rfl⟩) preEq rfl rfl hl.1 rfl (lv_room (Nat.le_of_ble_eq_true rfl)) dX8_mark_12 ⟨Nat.le_of_ble_eq_true rfl, Nat.le_of_ble_eq_true rfl⟩)) (fun r_3 h_3 => ?_)
    rcases h_3 with ⟨rfl, h_3⟩ | ⟨rfl, h_3⟩
    · refine lv_if_eq (tgt := 27) hx hb dX8_mark_15 (by decide) (fun c_4 => False.elim (by revert c_4; decide)) (fun _ => ?_)
      refine lv_aload_n hx hb dX8_mark_18 rfl (lv_at hl 0 rfl) ?_
      refine va_get (D := D) (ci := 8) (v := .int 0) (C := RX8) (T := TX8) (N := 12) hx hb hts (fun _ h9 => List.mem_cons_of_mem _ (List.mem_append_left _ (List.mem_append_left _ (List.mem_append_left _ (List.mem_append_left _ (List.mem_append_right _ h9)))))) hown hK hP 0 rfl rfl 8 (by decide) (hts (.fieldLink RX8 62 "BuoyTender" "markCount" "I") (by decide +kernel)) (fun _ h9 => h9) rfl dX8_mark_19 ?_
      refine lv_bipush (v := 10) hx hb dX8_mark_22 (by decide) ?_
      refine lv_icmp_lt (tgt := 29) hx hb dX8_mark_24 (by decide) (fun _ => ?_) (fun c_5 => False.elim (by revert c_5; decide))
      refine lv_aload_n hx hb dX8_mark_29 rfl (lv_at hl 0 rfl) ?_
      refine va_get (D := D) (ci := 8) (v := .int 0) (C := RX8) (T := TX8) (N := 12) hx hb hts (fun _ h9 => List.mem_cons_of_mem _ (List.mem_append_left _ (List.mem_append_left _ (List.mem_append_left _ (List.mem_append_left _ (List.mem_append_right _ h9)))))) hown hK hP 0 rfl rfl 8 (by decide) (hts (.fieldLink RX8 62 "BuoyTender" "markCount" "I") (by decide +kernel)) (fun _ h9 => h9) rfl dX8_mark_30 ?_
      refine lv_istore (lv' := [(4, .int 0), (0, .ref h0), (1, .int x1), (2, .int x2), (3, .int x3)]) hx hb dX8_mark_33 hl (by decide) rfl (fun ls hl => ?_)
      refine lv_aload_n hx hb dX8_mark_35 rfl (lv_at hl 1 rfl) ?_
      refine va_get (D := D) (ci := 8) (v := .ref (a 2)) (C := RX8) (T := TX8) (N := 12) hx hb hts (fun _ h9 => List.mem_cons_of_mem _ (List.mem_append_left _ (List.mem_append_left _ (List.mem_append_left _ (List.mem_append_left _ (List.mem_append_right _ h9)))))) hown hK hP 0 rfl rfl 1 (by decide) (hts (.fieldLink RX8 15 "BuoyTender" "marks" "[LBuoyTender$Mark;") (by decide +kernel)) (fun _ h9 => h9) rfl dX8_mark_36 ?_
      refine lv_iload hx hb dX8_mark_39 (lv_at hl 0 rfl) ?_
      refine va_new (ci := 1) (fs := [.int 0, .int 0, .int 0, .null, .null, .null, .int 0, .int 0, .int 0]) (C := RX1) (T := TX1) (N := 9) hx hb hts (fun _ h9 => List.mem_cons_of_mem _ (List.mem_append_left _ (List.mem_append_left _ (List.mem_append_left _ (List.mem_append_right _ h9))))) tyX1 tyX1_ok hown (hts (.classLink RX8 13 RX1) (by decide +kernel)) (hts (.instantiable RX1 9) (by decide +kernel)) (hts (.initialized RX1) (by decide +kernel)) hK hP hD hS hA rfl (fun j hj => by rcases (show j = 0 ∨ j = 1 ∨ j = 2 ∨ j = 3 ∨ j = 4 ∨ j = 5 ∨ j = 6 ∨ j = 7 ∨ j = 8 by omega) with rfl | rfl | rfl | rfl | rfl | rfl | rfl | rfl | rfl <;> rfl) (Nat.le_of_ble_eq_true rfl) (Nat.le_of_ble_eq_true rfl) dX8_mark_41 (fun q6 H hP hD hS => ?_)
      have hP : va_P D vwCl [(h0, .inr (8, [.ref (a 1), .ref (a 2), .ref (a 3), .ref (a 4), .ref (a 5), .ref (a 6), .ref (a 7), .null, .int 0, .int 0, .int 0, .int 0])), (a 2, .inl (cM, 10, .inr (.inr (.inr (.inr (fun _ => none)))))), (q6, .inr (1, [.int 0, .int 0, .int 0, .null, .null, .null, .int 0, .int 0, .int 0]))] H := hP
      have hD : va_D A [(h0, .inr (8, [.ref (a 1), .ref (a 2), .ref (a 3), .ref (a 4), .ref (a 5), .ref (a 6), .ref (a 7), .null, .int 0, .int 0, .int 0, .int 0])), (a 2, .inl (cM, 10, .inr (.inr (.inr (.inr (fun _ => none)))))), (q6, .inr (1, [.int 0, .int 0, .int 0, .null, .null, .null, .int 0, .int 0, .int 0]))] := hD
      refine W.widen (k := 1) (n := 9) (by decide) (by decide) ?_
      refine lv_dup hx hb dX8_mark_44 rfl ?_
      refine lv_iload_n hx hb dX8_mark_45 rfl (lv_at hl 2 rfl) ?_
      refine lv_iload_n hx hb dX8_mark_46 rfl (lv_at hl 3 rfl) ?_
      refine lv_iload_n hx hb dX8_mark_47 rfl (lv_at hl 4 rfl) ?_
      have hPc := hP.sub (ws' := [(q6, .inr (1, [.int 0, .int 0, .int 0, .null, .null, .null, .int 0, .int 0, .int 0]))]) [2] rfl
      have hDc := hD.sub (ws' := [(q6, .inr (1, [.int 0, .int 0, .int 0, .null, .null, .null, .int 0, .int 0, .int 0]))]) [2] (by decide) rfl
      have hFc := va_free (wc := [(q6, .inr (1, [.int 0, .int 0, .int 0, .null, .null, .null, .int 0, .int 0, .int 0]))]) hD hS hA [2] rfl
      refine va_callv (va_runIN (As := [.int x1, .int x2, .int x3]) (rest := [.ref q6, .int 0, .ref (a 2)]) ⟨hx, hb, hml, hown, hts⟩ (k_X1_init l D cI cJ cZ cM q6 x1 x2 x3 _) ⟨(va_cnB 3 hts gX8_mark_X1_init_n66 rfl rfl rfl (hN.2.1 (RX8, 66, yX1_init, "BuoyTender") (by decide +kernel)) (hts (.initialized RX1) (by decide +kernel)) (by decide +kernel) ⟨Nat.le_of_ble_eq_true rfl, Nat.le_of_ble_eq_true rfl⟩), rfl, hts (.instanceMethod yX1_init) (by decide +kernel)⟩ (rw_S hG hPc hDc) rfl rfl hl.1 rfl (lv_room (Nat.le_of_ble_eq_true rfl)) dX8_mark_48 ⟨Nat.le_of_ble_eq_true rfl, Nat.le_of_ble_eq_true rfl⟩) hS (fun q _ h => hFc q h) hFc (fun u_7 t_7 H1 locs ht hvm hw hB hz1 hk1 hS => ?_)
      obtain ⟨y0_7, y1_7, y2_7, y3_7, y4_7⟩ := u_7
      obtain ⟨hP1, hD1⟩ := hB
      rw [ht] at hP1
      obtain ⟨hP, hD⟩ := va_join (wr := [(h0, .inr (8, [.ref (a 1), .ref (a 2), .ref (a 3), .ref (a 4), .ref (a 5), .ref (a 6), .ref (a 7), .null, .int 0, .int 0, .int 0, .int 0])), (a 2, .inl (cM, 10, .inr (.inr (.inr (.inr (fun _ => none))))))]) (w1 := [(q6, .inr (1, [.int x1, .int x2, .int x3, .ref y0_7, .ref y2_7, .ref y3_7, .int 0, .int 0, .int 0])), (y0_7, .inr (5, [.ref y1_7, .int 0, .int 200, .int 0])), (y1_7, .inl (cJ, 40, .inr (.inl (fun _ => 0)))), (y2_7, .inr (0, [.int 0, .int 0, .int 0, .int 0, .int 0])), (y3_7, .inr (3, [.ref y4_7, .int 0])), (y4_7, .inl (cI, 8, .inl (fun _ => 0)))]) hP hD [2] [0, 1] rfl rfl (by decide) (by decide) hk1 hFc hP1 hD1
      generalize H1 = H at hP hS ⊢
      have hP : va_P D vwCl [(h0, .inr (8, [.ref (a 1), .ref (a 2), .ref (a 3), .ref (a 4), .ref (a 5), .ref (a 6), .ref (a 7), .null, .int 0, .int 0, .int 0, .int 0])), (a 2, .inl (cM, 10, .inr (.inr (.inr (.inr (fun _ => none)))))), (q6, .inr (1, [.int x1, .int x2, .int x3, .ref y0_7, .ref y2_7, .ref y3_7, .int 0, .int 0, .int 0])), (y0_7, .inr (5, [.ref y1_7, .int 0, .int 200, .int 0])), (y1_7, .inl (cJ, 40, .inr (.inl (fun _ => 0)))), (y2_7, .inr (0, [.int 0, .int 0, .int 0, .int 0, .int 0])), (y3_7, .inr (3, [.ref y4_7, .int 0])), (y4_7, .inl (cI, 8, .inl (fun _ => 0)))] H := hP
      have hD : va_D A [(h0, .inr (8, [.ref (a 1), .ref (a 2), .ref (a 3), .ref (a 4), .ref (a 5), .ref (a 6), .ref (a 7), .null, .int 0, .int 0, .int 0, .int 0])), (a 2, .inl (cM, 10, .inr (.inr (.inr (.inr (fun _ => none)))))), (q6, .inr (1, [.int x1, .int x2, .int x3, .ref y0_7, .ref y2_7, .ref y3_7, .int 0, .int 0, .int 0])), (y0_7, .inr (5, [.ref y1_7, .int 0, .int 200, .int 0])), (y1_7, .inl (cJ, 40, .inr (.inl (fun _ => 0)))), (y2_7, .inr (0, [.int 0, .int 0, .int 0, .int 0, .int 0])), (y3_7, .inr (3, [.ref y4_7, .int 0])), (y4_7, .inl (cI, 8, .inl (fun _ => 0)))] := hD
      refine W.widen (k := 6) (n := 68) (by decide) (by decide) ?_
      refine va_astq hx hb hK hP hD hS 1 3 2 1 rfl rfl rfl rfl (vp_in_nI (n := 0) (N := 10) (by decide) (by decide)) dX8_mark_51 (fun H locs hP hD hS => ?_)
      have hP : va_P D vwCl [(h0, .inr (8, [.ref (a 1), .ref (a 2), .ref (a 3), .ref (a 4), .ref (a 5), .ref (a 6), .ref (a 7), .null, .int 0, .int 0, .int 0, .int 0])), (a 2, .inl (cM, 10, .inr (.inr (.inr (.inr (va_up (fun _ => none) (0 : Int32).toNatClampNeg (some q6))))))), (q6, .inr (1, [.int x1, .int x2, .int x3, .ref y0_7, .ref y2_7, .ref y3_7, .int 0, .int 0, .int 0])), (y0_7, .inr (5, [.ref y1_7, .int 0, .int 200, .int 0])), (y1_7, .inl (cJ, 40, .inr (.inl (fun _ => 0)))), (y2_7, .inr (0, [.int 0, .int 0, .int 0, .int 0, .int 0])), (y3_7, .inr (3, [.ref y4_7, .int 0])), (y4_7, .inl (cI, 8, .inl (fun _ => 0)))] H := hP
      have hD : va_D A [(h0, .inr (8, [.ref (a 1), .ref (a 2), .ref (a 3), .ref (a 4), .ref (a 5), .ref (a 6), .ref (a 7), .null, .int 0, .int 0, .int 0, .int 0])), (a 2, .inl (cM, 10, .inr (.inr (.inr (.inr (va_up (fun _ => none) (0 : Int32).toNatClampNeg (some q6))))))), (q6, .inr (1, [.int x1, .int x2, .int x3, .ref y0_7, .ref y2_7, .ref y3_7, .int 0, .int 0, .int 0])), (y0_7, .inr (5, [.ref y1_7, .int 0, .int 200, .int 0])), (y1_7, .inl (cJ, 40, .inr (.inl (fun _ => 0)))), (y2_7, .inr (0, [.int 0, .int 0, .int 0, .int 0, .int 0])), (y3_7, .inr (3, [.ref y4_7, .int 0])), (y4_7, .inl (cI, 8, .inl (fun _ => 0)))] := hD
      refine lv_aload_n hx hb dX8_mark_52 rfl (lv_at hl 1 rfl) ?_
      refine lv_dup hx hb dX8_mark_53 rfl ?_
      refine va_get (D := D) (ci := 8) (v := .int 0) (C := RX8) (T := TX8) (N := 12) hx hb hts (fun _ h9 => List.mem_cons_of_mem _ (List.mem_append_left _ (List.mem_append_left _ (List.mem_append_left _ (List.mem_append_left _ (List.mem_append_right _ h9)))))) hown hK hP 0 rfl rfl 8 (by decide) (hts (.fieldLink RX8 62 "BuoyTender" "markCount" "I") (by decide +kernel)) (fun _ h9 => h9) rfl dX8_mark_54 ?_
      refine lv_iconst (v := 1) hx hb dX8_mark_57 (by decide) ?_
      refine lv_iadd hx hb dX8_mark_58 ?_
      refine lv_topi (fun z_8 ez_8 => ?_)
      obtain rfl : z_8 = 1 := ez_8.trans (by decide)
      refine va_put (D := D) (ci := 8) (v := .int 1) (ty := (tyX8 8)) (C := RX8) (T := TX8) (N := 12) hx hb hts (fun _ h9 => List.mem_cons_of_mem _ (List.mem_append_left _ (List.mem_append_left _ (List.mem_append_left _ (List.mem_append_left _ (List.mem_append_right _ h9)))))) tyX8 tyX8_ok nmX8 hown hK hP hD hS 0 rfl rfl 8 (by decide) (hts (.fieldLink RX8 62 "BuoyTender" "markCount" "I") (by decide +kernel)) (fun _ h9 => h9) rfl (by decide +kernel) rfl rfl (Nat.le_of_ble_eq_true rfl) dX8_mark_59 (fun H locs hP hD hS => ?_)
      have hP : va_P D vwCl [(h0, .inr (8, [.ref (a 1), .ref (a 2), .ref (a 3), .ref (a 4), .ref (a 5), .ref (a 6), .ref (a 7), .null, .int 1, .int 0, .int 0, .int 0])), (a 2, .inl (cM, 10, .inr (.inr (.inr (.inr (va_up (fun _ => none) (0 : Int32).toNatClampNeg (some q6))))))), (q6, .inr (1, [.int x1, .int x2, .int x3, .ref y0_7, .ref y2_7, .ref y3_7, .int 0, .int 0, .int 0])), (y0_7, .inr (5, [.ref y1_7, .int 0, .int 200, .int 0])), (y1_7, .inl (cJ, 40, .inr (.inl (fun _ => 0)))), (y2_7, .inr (0, [.int 0, .int 0, .int 0, .int 0, .int 0])), (y3_7, .inr (3, [.ref y4_7, .int 0])), (y4_7, .inl (cI, 8, .inl (fun _ => 0)))] H := hP
      have hD : va_D A [(h0, .inr (8, [.ref (a 1), .ref (a 2), .ref (a 3), .ref (a 4), .ref (a 5), .ref (a 6), .ref (a 7), .null, .int 1, .int 0, .int 0, .int 0])), (a 2, .inl (cM, 10, .inr (.inr (.inr (.inr (va_up (fun _ => none) (0 : Int32).toNatClampNeg (some q6))))))), (q6, .inr (1, [.int x1, .int x2, .int x3, .ref y0_7, .ref y2_7, .ref y3_7, .int 0, .int 0, .int 0])), (y0_7, .inr (5, [.ref y1_7, .int 0, .int 200, .int 0])), (y1_7, .inl (cJ, 40, .inr (.inl (fun _ => 0)))), (y2_7, .inr (0, [.int 0, .int 0, .int 0, .int 0, .int 0])), (y3_7, .inr (3, [.ref y4_7, .int 0])), (y4_7, .inl (cI, 8, .inl (fun _ => 0)))] := hD
      refine lv_iload hx hb dX8_mark_62 (lv_at hl 0 rfl) ?_
      exact W.iret (v := 0) hx hb hr (fun t ht hW => ⟨⟨0, (), rfl, (Or.inl ⟨rfl, h_1, h_3⟩), trivial⟩, hS.F ht⟩) hS.2.2 dX8_mark_64
    refine lv_if_eq (tgt := 27) hx hb dX8_mark_15 (by decide) (fun _ => ?_) (fun c_9 => False.elim (by revert c_9; decide))
    refine lv_iconst (v := (-1)) hx hb dX8_mark_27 (by decide) ?_
    refine W.widen (k := 6) (n := 68) (by decide) (by decide) ?_
    exact W.iret (v := (-1)) hx hb hr (fun t ht hW => ⟨⟨(-1), (), rfl, (Or.inr ⟨rfl, fun h9 => h_3 (h9.2)⟩), trivial⟩, hS.F ht⟩) hS.2.2 dX8_mark_28
  refine lv_if_eq (tgt := 27) hx hb dX8_mark_5 (by decide) (fun _ => ?_) (fun c_10 => False.elim (by revert c_10; decide))
  refine lv_iconst (v := (-1)) hx hb dX8_mark_27 (by decide) ?_
  refine W.widen (k := 6) (n := 68) (by decide) (by decide) ?_
  exact W.iret (v := (-1)) hx hb hr (fun t ht hW => ⟨⟨(-1), (), rfl, (Or.inr ⟨rfl, fun h9 => h_1 (h9.1)⟩), trivial⟩, hS.F ht⟩) hS.2.2 dX8_mark_28
