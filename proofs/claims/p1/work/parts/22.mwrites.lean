set_option maxHeartbeats 4000000 in
set_option maxRecDepth 100000 in
/-- X9_day on a fresh object -/
theorem k_X9_day (l : Launch) (D : va_G) (cI cJ cZ cM : Nat) (h0 : Nat) (n : Nat → Nat) (x1 : Int32) (sz : Nat) : Met l yX9_day wsX9_day ({ frames := 1, cells := 0, slots := 0, locals := 22 } : Room) (RW D cI cJ cZ cM [.ref h0, .int x1] [(h0, .inr (9, [.ref (n 0), .int 0, .ref (n 2), .ref (n 3), .ref (n 4), .ref (n 5), .ref (n 6), .int 0, .ref (n 8), .ref (n 9), .ref (n 10), .ref (n 11), .ref (n 12), .ref (n 13), .ref (n 14), .int 0, .int 0, .ref (n 17), .ref (n 18), .ref (n 19), .ref (n 20), .ref (n 21), .ref (n 22), .ref (n 23), .ref (n 24), .ref (n 25), .int 1, .int 0, .int 12, .int 0, .int 0, .int 0, .int 0, .int 1440, .ref (n 34), .ref (n 35), .int 0, .int 0, .int 0, .ref (n 39), .ref (n 40), .ref (n 41), .ref (n 42), .int 0, .int 0, .int 0]))] sz) (va_Qi (S := Unit) (fun r u => okI 1 0 ((0 ≤ x1 ∧ x1 ≤ 10000)) r) (fun _ _ => True) (va_A [(h0, .inr (9, [.ref (n 0), .int 0, .ref (n 2), .ref (n 3), .ref (n 4), .ref (n 5), .ref (n 6), .int 0, .ref (n 8), .ref (n 9), .ref (n 10), .ref (n 11), .ref (n 12), .ref (n 13), .ref (n 14), .int 0, .int 0, .ref (n 17), .ref (n 18), .ref (n 19), .ref (n 20), .ref (n 21), .ref (n 22), .ref (n 23), .ref (n 24), .ref (n 25), .int 1, .int 0, .int 12, .int 0, .int 0, .int 0, .int 0, .int 1440, .ref (n 34), .ref (n 35), .int 0, .int 0, .int 0, .ref (n 39), .ref (n 40), .ref (n 41), .ref (n 42), .int 0, .int 0, .int 0]))] sz)) 0 0 (va_A [(h0, .inr (9, [.ref (n 0), .int 0, .ref (n 2), .ref (n 3), .ref (n 4), .ref (n 5), .ref (n 6), .int 0, .ref (n 8), .ref (n 9), .ref (n 10), .ref (n 11), .ref (n 12), .ref (n 13), .ref (n 14), .int 0, .int 0, .ref (n 17), .ref (n 18), .ref (n 19), .ref (n 20), .ref (n 21), .ref (n 22), .ref (n 23), .ref (n 24), .ref (n 25), .int 1, .int 0, .int 12, .int 0, .int 0, .int 0, .int 0, .int 1440, .ref (n 34), .ref (n 35), .int 0, .int 0, .int 0, .ref (n 39), .ref (n 40), .ref (n 41), .ref (n 42), .int 0, .int 0, .int 0]))] sz) := by
  refine Met.ofW (cc := cX9_day) (maxL := 2) (ret := (some .boolean)) (by decide) rfl ?_
  intro p e s m args below meth c s₁ B hml hv
  obtain ⟨rfl, hsz, hG, hP, hD0⟩ := hv
  have hx := B.exec
  have hb := B.bytes
  have hr := B.returns
  have hts := atoms_spec (ws := wsX9_day) B.pre
  have hown : s.vm.findClass RX9 = some m.cls := findClass_of_methodNamed B.named
  have hlocks := B.notSynchronized
  have hK := hG.1
  have hN := hG.2
  subst hsz
  have hD := hD0.self (sz := s.heap.size)
  generalize hAe : va_A [(h0, .inr (9, [.ref (n 0), .int 0, .ref (n 2), .ref (n 3), .ref (n 4), .ref (n 5), .ref (n 6), .int 0, .ref (n 8), .ref (n 9), .ref (n 10), .ref (n 11), .ref (n 12), .ref (n 13), .ref (n 14), .int 0, .int 0, .ref (n 17), .ref (n 18), .ref (n 19), .ref (n 20), .ref (n 21), .ref (n 22), .ref (n 23), .ref (n 24), .ref (n 25), .int 1, .int 0, .int 12, .int 0, .int 0, .int 0, .int 0, .int 1440, .ref (n 34), .ref (n 35), .int 0, .int 0, .int 0, .ref (n 39), .ref (n 40), .ref (n 41), .ref (n 42), .int 0, .int 0, .int 0]))] s.heap.size = A at hD ⊢
  have hA : ∀ q : Nat, s.heap.size ≤ q → A q := fun q h => by rw [← hAe]; exact Or.inr h
  have hS : va_S A s.heap s.heap [] := va_S.rf
  have hP : va_P D vwCl [(h0, .inr (9, [.ref (n 0), .int 0, .ref (n 2), .ref (n 3), .ref (n 4), .ref (n 5), .ref (n 6), .int 0, .ref (n 8), .ref (n 9), .ref (n 10), .ref (n 11), .ref (n 12), .ref (n 13), .ref (n 14), .int 0, .int 0, .ref (n 17), .ref (n 18), .ref (n 19), .ref (n 20), .ref (n 21), .ref (n 22), .ref (n 23), .ref (n 24), .ref (n 25), .int 1, .int 0, .int 12, .int 0, .int 0, .int 0, .int 0, .int 1440, .ref (n 34), .ref (n 35), .int 0, .int 0, .int 0, .ref (n 39), .ref (n 40), .ref (n 41), .ref (n 42), .int 0, .int 0, .int 0]))] s.heap := hP
  have hl := lv_entry ([.ref h0, .int x1]) (n := 2) (Nat.le_of_ble_eq_true rfl)
  rw [lg_entry_eq]
  generalize (lg_sl ([.ref h0, .int x1]) ++ List.replicate (2 - (lg_sl ([.ref h0, .int x1])).length) Slot.unset).toArray = ls at hl ⊢
  have hl : lv_has ls 2 [(0, .ref h0), (1, .int x1)] := hl
  refine lv_iload_n hx hb dX9_day_0 rfl (lv_at hl 1 rfl) ?_
  refine lv_aload_n hx hb dX9_day_1 rfl (lv_at hl 0 rfl) ?_
  refine va_get (D := D) (ci := 9) (v := .int 0) (C := RX9) (T := TX9) (N := 46) hx hb hts (fun _ h9 => List.mem_cons_of_mem _ (List.mem_append_right _ h9)) hown hK hP 0 rfl rfl 7 (by decide) (hts (.fieldLink RX9 131 "BuoyTenderModel" "clock" "I") (by decide +kernel)) (fun _ h9 => h9) rfl dX9_day_2 ?_
  refine lv_sipush (v := 10000) hx hb dX9_day_5 (by decide) ?_
  refine vp_callSi (va_Run.run (va_runS (As := [.int x1, .int 0, .int 10000]) (rest := []) ⟨hx, hb, hml, hown, hts⟩ (k_X9_in l x1 0 10000) (va_cwS 3 hts gX9_day_X9_in rfl rfl rfl (by decide +kernel) ⟨Nat.le_of_ble_eq_true rfl, Nat.le_of_ble_eq_true rfl⟩) preEq rfl rfl hl.1 rfl (lv_room (Nat.le_of_ble_eq_true rfl)) dX9_day_8 ⟨Nat.le_of_ble_eq_true rfl, Nat.le_of_ble_eq_true rfl⟩)) (fun r_1 h_1 => ?_)
  rcases h_1 with ⟨rfl, h_1⟩ | ⟨rfl, h_1⟩
  · refine lv_if_ne (tgt := 16) hx hb dX9_day_11 (by decide) (fun _ => ?_) (fun c_2 => False.elim (by revert c_2; decide))
    refine lv_aload_n hx hb dX9_day_16 rfl (lv_at hl 0 rfl) ?_
    refine lv_iload_n hx hb dX9_day_17 rfl (lv_at hl 1 rfl) ?_
    refine va_put (D := D) (ci := 9) (v := .int x1) (ty := (tyX9 7)) (C := RX9) (T := TX9) (N := 46) hx hb hts (fun _ h9 => List.mem_cons_of_mem _ (List.mem_append_right _ h9)) tyX9 tyX9_ok nmX9 hown hK hP hD hS 0 rfl rfl 7 (by decide) (hts (.fieldLink RX9 131 "BuoyTenderModel" "clock" "I") (by decide +kernel)) (fun _ h9 => h9) rfl (by decide +kernel) rfl rfl (Nat.le_of_ble_eq_true rfl) dX9_day_18 (fun H locs hP hD hS => ?_)
    have hP : va_P D vwCl [(h0, .inr (9, [.ref (n 0), .int 0, .ref (n 2), .ref (n 3), .ref (n 4), .ref (n 5), .ref (n 6), .int x1, .ref (n 8), .ref (n 9), .ref (n 10), .ref (n 11), .ref (n 12), .ref (n 13), .ref (n 14), .int 0, .int 0, .ref (n 17), .ref (n 18), .ref (n 19), .ref (n 20), .ref (n 21), .ref (n 22), .ref (n 23), .ref (n 24), .ref (n 25), .int 1, .int 0, .int 12, .int 0, .int 0, .int 0, .int 0, .int 1440, .ref (n 34), .ref (n 35), .int 0, .int 0, .int 0, .ref (n 39), .ref (n 40), .ref (n 41), .ref (n 42), .int 0, .int 0, .int 0]))] H := hP
    have hD : va_D A [(h0, .inr (9, [.ref (n 0), .int 0, .ref (n 2), .ref (n 3), .ref (n 4), .ref (n 5), .ref (n 6), .int x1, .ref (n 8), .ref (n 9), .ref (n 10), .ref (n 11), .ref (n 12), .ref (n 13), .ref (n 14), .int 0, .int 0, .ref (n 17), .ref (n 18), .ref (n 19), .ref (n 20), .ref (n 21), .ref (n 22), .ref (n 23), .ref (n 24), .ref (n 25), .int 1, .int 0, .int 12, .int 0, .int 0, .int 0, .int 0, .int 1440, .ref (n 34), .ref (n 35), .int 0, .int 0, .int 0, .ref (n 39), .ref (n 40), .ref (n 41), .ref (n 42), .int 0, .int 0, .int 0]))] := hD
    refine lv_iconst (v := 1) hx hb dX9_day_21 (by decide) ?_
    exact W.zret (v := 1) hx hb hr rfl (fun t ht hW => ⟨⟨1, (), rfl, (Or.inl ⟨rfl, h_1⟩), trivial⟩, hS.F ht⟩) hS.2.2 dX9_day_22
  refine lv_if_ne (tgt := 16) hx hb dX9_day_11 (by decide) (fun c_3 => False.elim (by revert c_3; decide)) (fun _ => ?_)
  refine lv_iconst (v := 0) hx hb dX9_day_14 (by decide) ?_
  exact W.zret (v := 0) hx hb hr rfl (fun t ht hW => ⟨⟨0, (), rfl, (Or.inr ⟨rfl, fun h9 => h_1 (h9)⟩), trivial⟩, hS.F ht⟩) hS.2.2 dX9_day_15
set_option maxHeartbeats 4000000 in
set_option maxRecDepth 100000 in
/-- X9_wear on a fresh object -/
theorem k_X9_wear (l : Launch) (D : va_G) (cI cJ cZ cM : Nat) (h0 : Nat) (n : Nat → Nat) (x1 : Int32) (x2 : Int32) (x3 : Int32) (sz : Nat) : Met l yX9_wear wsX9_wear ({ frames := 1, cells := 0, slots := 0, locals := 22 } : Room) (RW D cI cJ cZ cM [.ref h0, .int x1, .int x2, .int x3] [(h0, .inr (9, [.ref (n 0), .int 0, .ref (n 2), .ref (n 3), .ref (n 4), .ref (n 5), .ref (n 6), .int 0, .ref (n 8), .ref (n 9), .ref (n 10), .ref (n 11), .ref (n 12), .ref (n 13), .ref (n 14), .int 0, .int 0, .ref (n 17), .ref (n 18), .ref (n 19), .ref (n 20), .ref (n 21), .ref (n 22), .ref (n 23), .ref (n 24), .ref (n 25), .int 1, .int 0, .int 12, .int 0, .int 0, .int 0, .int 0, .int 1440, .ref (n 34), .ref (n 35), .int 0, .int 0, .int 0, .ref (n 39), .ref (n 40), .ref (n 41), .ref (n 42), .int 0, .int 0, .int 0])), (n 12, .inl (cI, 48, .inl (fun _ => 0)))] sz) (va_Qi (S := Unit) (fun r u => okI 1 0 ((0 ≤ x1 ∧ x1 ≤ 3) ∧ (0 ≤ x2 ∧ x2 ≤ 11) ∧ (0 ≤ x3 ∧ x3 ≤ 100)) r) (fun _ _ => True) (va_A [(h0, .inr (9, [.ref (n 0), .int 0, .ref (n 2), .ref (n 3), .ref (n 4), .ref (n 5), .ref (n 6), .int 0, .ref (n 8), .ref (n 9), .ref (n 10), .ref (n 11), .ref (n 12), .ref (n 13), .ref (n 14), .int 0, .int 0, .ref (n 17), .ref (n 18), .ref (n 19), .ref (n 20), .ref (n 21), .ref (n 22), .ref (n 23), .ref (n 24), .ref (n 25), .int 1, .int 0, .int 12, .int 0, .int 0, .int 0, .int 0, .int 1440, .ref (n 34), .ref (n 35), .int 0, .int 0, .int 0, .ref (n 39), .ref (n 40), .ref (n 41), .ref (n 42), .int 0, .int 0, .int 0])), (n 12, .inl (cI, 48, .inl (fun _ => 0)))] sz)) 0 0 (va_A [(h0, .inr (9, [.ref (n 0), .int 0, .ref (n 2), .ref (n 3), .ref (n 4), .ref (n 5), .ref (n 6), .int 0, .ref (n 8), .ref (n 9), .ref (n 10), .ref (n 11), .ref (n 12), .ref (n 13), .ref (n 14), .int 0, .int 0, .ref (n 17), .ref (n 18), .ref (n 19), .ref (n 20), .ref (n 21), .ref (n 22), .ref (n 23), .ref (n 24), .ref (n 25), .int 1, .int 0, .int 12, .int 0, .int 0, .int 0, .int 0, .int 1440, .ref (n 34), .ref (n 35), .int 0, .int 0, .int 0, .ref (n 39), .ref (n 40), .ref (n 41), .ref (n 42), .int 0, .int 0, .int 0])), (n 12, .inl (cI, 48, .inl (fun _ => 0)))] sz) := by
  refine Met.ofW (cc := cX9_wear) (maxL := 4) (ret := (some .boolean)) (by decide) rfl ?_
  intro p e s m args below meth c s₁ B hml hv
  obtain ⟨rfl, hsz, hG, hP, hD0⟩ := hv
  have hx := B.exec
  have hb := B.bytes
  have hr := B.returns
  have hts := atoms_spec (ws := wsX9_wear) B.pre
  have hown : s.vm.findClass RX9 = some m.cls := findClass_of_methodNamed B.named
  have hlocks := B.notSynchronized
  have hK := hG.1
  have hN := hG.2
  subst hsz
  have hD := hD0.self (sz := s.heap.size)
  generalize hAe : va_A [(h0, .inr (9, [.ref (n 0), .int 0, .ref (n 2), .ref (n 3), .ref (n 4), .ref (n 5), .ref (n 6), .int 0, .ref (n 8), .ref (n 9), .ref (n 10), .ref (n 11), .ref (n 12), .ref (n 13), .ref (n 14), .int 0, .int 0, .ref (n 17), .ref (n 18), .ref (n 19), .ref (n 20), .ref (n 21), .ref (n 22), .ref (n 23), .ref (n 24), .ref (n 25), .int 1, .int 0, .int 12, .int 0, .int 0, .int 0, .int 0, .int 1440, .ref (n 34), .ref (n 35), .int 0, .int 0, .int 0, .ref (n 39), .ref (n 40), .ref (n 41), .ref (n 42), .int 0, .int 0, .int 0])), (n 12, .inl (cI, 48, .inl (fun _ => 0)))] s.heap.size = A at hD ⊢
  have hA : ∀ q : Nat, s.heap.size ≤ q → A q := fun q h => by rw [← hAe]; exact Or.inr h
  have hS : va_S A s.heap s.heap [] := va_S.rf
  have hP : va_P D vwCl [(h0, .inr (9, [.ref (n 0), .int 0, .ref (n 2), .ref (n 3), .ref (n 4), .ref (n 5), .ref (n 6), .int 0, .ref (n 8), .ref (n 9), .ref (n 10), .ref (n 11), .ref (n 12), .ref (n 13), .ref (n 14), .int 0, .int 0, .ref (n 17), .ref (n 18), .ref (n 19), .ref (n 20), .ref (n 21), .ref (n 22), .ref (n 23), .ref (n 24), .ref (n 25), .int 1, .int 0, .int 12, .int 0, .int 0, .int 0, .int 0, .int 1440, .ref (n 34), .ref (n 35), .int 0, .int 0, .int 0, .ref (n 39), .ref (n 40), .ref (n 41), .ref (n 42), .int 0, .int 0, .int 0])), (n 12, .inl (cI, 48, .inl (fun _ => 0)))] s.heap := hP
  have hl := lv_entry ([.ref h0, .int x1, .int x2, .int x3]) (n := 4) (Nat.le_of_ble_eq_true rfl)
  rw [lg_entry_eq]
  generalize (lg_sl ([.ref h0, .int x1, .int x2, .int x3]) ++ List.replicate (4 - (lg_sl ([.ref h0, .int x1, .int x2, .int x3])).length) Slot.unset).toArray = ls at hl ⊢
  have hl : lv_has ls 4 [(0, .ref h0), (1, .int x1), (2, .int x2), (3, .int x3)] := hl
  refine lv_iload_n hx hb dX9_wear_0 rfl (lv_at hl 1 rfl) ?_
  refine lv_iconst (v := 0) hx hb dX9_wear_1 (by decide) ?_
  refine lv_iconst (v := 3) hx hb dX9_wear_2 (by decide) ?_
  refine vp_callSi (va_Run.run (va_runS (As := [.int x1, .int 0, .int 3]) (rest := []) ⟨hx, hb, hml, hown, hts⟩ (k_X9_in l x1 0 3) (va_cwS 3 hts gX9_wear_X9_in rfl rfl rfl (by decide +kernel) ⟨Nat.le_of_ble_eq_true rfl, Nat.le_of_ble_eq_true rfl⟩) preEq rfl rfl hl.1 rfl (lv_room (Nat.le_of_ble_eq_true rfl)) dX9_wear_3 ⟨Nat.le_of_ble_eq_true rfl, Nat.le_of_ble_eq_true rfl⟩)) (fun r_1 h_1 => ?_)
  rcases h_1 with ⟨rfl, h_1⟩ | ⟨rfl, h_1⟩
  · refine lv_if_eq (tgt := 29) hx hb dX9_wear_6 (by decide) (fun c_2 => False.elim (by revert c_2; decide)) (fun _ => ?_)
    refine lv_iload_n hx hb dX9_wear_9 rfl (lv_at hl 2 rfl) ?_
    refine lv_iconst (v := 0) hx hb dX9_wear_10 (by decide) ?_
    refine lv_bipush (v := 11) hx hb dX9_wear_11 (by decide) ?_
    refine vp_callSi (va_Run.run (va_runS (As := [.int x2, .int 0, .int 11]) (rest := []) ⟨hx, hb, hml, hown, hts⟩ (k_X9_in l x2 0 11) (va_cwS 3 hts gX9_wear_X9_in rfl rfl rfl (by decide +kernel) ⟨Nat.le_of_ble_eq_true rfl, Nat.le_of_ble_eq_true rfl⟩) preEq rfl rfl hl.1 rfl (lv_room (Nat.le_of_ble_eq_true rfl)) dX9_wear_13 ⟨Nat.le_of_ble_eq_true rfl, Nat.le_of_ble_eq_true rfl⟩)) (fun r_3 h_3 => ?_)
    rcases h_3 with ⟨rfl, h_3⟩ | ⟨rfl, h_3⟩
    · refine lv_if_eq (tgt := 29) hx hb dX9_wear_16 (by decide) (fun c_4 => False.elim (by revert c_4; decide)) (fun _ => ?_)
      refine lv_iload_n hx hb dX9_wear_19 rfl (lv_at hl 3 rfl) ?_
      refine lv_iconst (v := 0) hx hb dX9_wear_20 (by decide) ?_
      refine lv_bipush (v := 100) hx hb dX9_wear_21 (by decide) ?_
      refine vp_callSi (va_Run.run (va_runS (As := [.int x3, .int 0, .int 100]) (rest := []) ⟨hx, hb, hml, hown, hts⟩ (k_X9_in l x3 0 100) (va_cwS 3 hts gX9_wear_X9_in rfl rfl rfl (by decide +kernel) ⟨Nat.le_of_ble_eq_true rfl, Nat.le_of_ble_eq_true rfl⟩) preEq rfl rfl hl.1 rfl (lv_room (Nat.le_of_ble_eq_true rfl)) dX9_wear_23 ⟨Nat.le_of_ble_eq_true rfl, Nat.le_of_ble_eq_true rfl⟩)) (fun r_5 h_5 => ?_)
      rcases h_5 with ⟨rfl, h_5⟩ | ⟨rfl, h_5⟩
      · refine lv_if_ne (tgt := 31) hx hb dX9_wear_26 (by decide) (fun _ => ?_) (fun c_6 => False.elim (by revert c_6; decide))
        refine lv_aload_n hx hb dX9_wear_31 rfl (lv_at hl 0 rfl) ?_
        refine va_get (D := D) (ci := 9) (v := .ref (n 12)) (C := RX9) (T := TX9) (N := 46) hx hb hts (fun _ h9 => List.mem_cons_of_mem _ (List.mem_append_right _ h9)) hown hK hP 0 rfl rfl 12 (by decide) (hts (.fieldLink RX9 41 "BuoyTenderModel" "wear" "[I") (by decide +kernel)) (fun _ h9 => h9) rfl dX9_wear_32 ?_
        refine lv_bipush (v := 12) hx hb dX9_wear_35 (by decide) ?_
        refine lv_iload_n hx hb dX9_wear_37 rfl (lv_at hl 1 rfl) ?_
        refine lv_imul hx hb dX9_wear_38 ?_
        refine lv_iload_n hx hb dX9_wear_39 rfl (lv_at hl 2 rfl) ?_
        refine lv_iadd hx hb dX9_wear_40 ?_
        refine lv_iload_n hx hb dX9_wear_41 rfl (lv_at hl 3 rfl) ?_
        refine va_iast hx hb hK hP hD hS 1 0 rfl rfl (ix_ck (X := 3) (Y := 11) (a := 3) (b := 11) (c := 12) (by decide) (by decide) h_1 h_3 (by decide) (by decide)) dX9_wear_42 (fun H locs hP hD hS => ?_)
        have hP : va_P D vwCl [(h0, .inr (9, [.ref (n 0), .int 0, .ref (n 2), .ref (n 3), .ref (n 4), .ref (n 5), .ref (n 6), .int 0, .ref (n 8), .ref (n 9), .ref (n 10), .ref (n 11), .ref (n 12), .ref (n 13), .ref (n 14), .int 0, .int 0, .ref (n 17), .ref (n 18), .ref (n 19), .ref (n 20), .ref (n 21), .ref (n 22), .ref (n 23), .ref (n 24), .ref (n 25), .int 1, .int 0, .int 12, .int 0, .int 0, .int 0, .int 0, .int 1440, .ref (n 34), .ref (n 35), .int 0, .int 0, .int 0, .ref (n 39), .ref (n 40), .ref (n 41), .ref (n 42), .int 0, .int 0, .int 0])), (n 12, .inl (cI, 48, .inl (upd (fun _ => 0) ((12 * x1) + x2).toNatClampNeg x3)))] H := hP
        have hD : va_D A [(h0, .inr (9, [.ref (n 0), .int 0, .ref (n 2), .ref (n 3), .ref (n 4), .ref (n 5), .ref (n 6), .int 0, .ref (n 8), .ref (n 9), .ref (n 10), .ref (n 11), .ref (n 12), .ref (n 13), .ref (n 14), .int 0, .int 0, .ref (n 17), .ref (n 18), .ref (n 19), .ref (n 20), .ref (n 21), .ref (n 22), .ref (n 23), .ref (n 24), .ref (n 25), .int 1, .int 0, .int 12, .int 0, .int 0, .int 0, .int 0, .int 1440, .ref (n 34), .ref (n 35), .int 0, .int 0, .int 0, .ref (n 39), .ref (n 40), .ref (n 41), .ref (n 42), .int 0, .int 0, .int 0])), (n 12, .inl (cI, 48, .inl (upd (fun _ => 0) ((12 * x1) + x2).toNatClampNeg x3)))] := hD
        refine lv_iconst (v := 1) hx hb dX9_wear_43 (by decide) ?_
        exact W.zret (v := 1) hx hb hr rfl (fun t ht hW => ⟨⟨1, (), rfl, (Or.inl ⟨rfl, h_1, h_3, h_5⟩), trivial⟩, hS.F ht⟩) hS.2.2 dX9_wear_44
      refine lv_if_ne (tgt := 31) hx hb dX9_wear_26 (by decide) (fun c_8 => False.elim (by revert c_8; decide)) (fun _ => ?_)
      refine lv_iconst (v := 0) hx hb dX9_wear_29 (by decide) ?_
      exact W.zret (v := 0) hx hb hr rfl (fun t ht hW => ⟨⟨0, (), rfl, (Or.inr ⟨rfl, fun h9 => h_5 (h9.2.2)⟩), trivial⟩, hS.F ht⟩) hS.2.2 dX9_wear_30
    refine lv_if_eq (tgt := 29) hx hb dX9_wear_16 (by decide) (fun _ => ?_) (fun c_9 => False.elim (by revert c_9; decide))
    refine lv_iconst (v := 0) hx hb dX9_wear_29 (by decide) ?_
    exact W.zret (v := 0) hx hb hr rfl (fun t ht hW => ⟨⟨0, (), rfl, (Or.inr ⟨rfl, fun h9 => h_3 (h9.2.1)⟩), trivial⟩, hS.F ht⟩) hS.2.2 dX9_wear_30
  refine lv_if_eq (tgt := 29) hx hb dX9_wear_6 (by decide) (fun _ => ?_) (fun c_10 => False.elim (by revert c_10; decide))
  refine lv_iconst (v := 0) hx hb dX9_wear_29 (by decide) ?_
  exact W.zret (v := 0) hx hb hr rfl (fun t ht hW => ⟨⟨0, (), rfl, (Or.inr ⟨rfl, fun h9 => h_1 (h9.1)⟩), trivial⟩, hS.F ht⟩) hS.2.2 dX9_wear_30
set_option maxHeartbeats 4000000 in
set_option maxRecDepth 100000 in
/-- X9_near on a fresh object -/
theorem k_X9_near (l : Launch) (D : va_G) (cI cJ cZ cM : Nat) (h0 : Nat) (n : Nat → Nat) (x1 : Int32) (sz : Nat) : Met l yX9_near wsX9_near ({ frames := 1, cells := 0, slots := 0, locals := 22 } : Room) (RW D cI cJ cZ cM [.ref h0, .int x1] [(h0, .inr (9, [.ref (n 0), .int 0, .ref (n 2), .ref (n 3), .ref (n 4), .ref (n 5), .ref (n 6), .int 0, .ref (n 8), .ref (n 9), .ref (n 10), .ref (n 11), .ref (n 12), .ref (n 13), .ref (n 14), .int 0, .int 0, .ref (n 17), .ref (n 18), .ref (n 19), .ref (n 20), .ref (n 21), .ref (n 22), .ref (n 23), .ref (n 24), .ref (n 25), .int 1, .int 0, .int 12, .int 0, .int 0, .int 0, .int 0, .int 1440, .ref (n 34), .ref (n 35), .int 0, .int 0, .int 0, .ref (n 39), .ref (n 40), .ref (n 41), .ref (n 42), .int 0, .int 0, .int 0]))] sz) (va_Qi (S := Unit) (fun r u => okI 1 0 ((0 ≤ x1 ∧ x1 ≤ 5000)) r) (fun _ _ => True) (va_A [(h0, .inr (9, [.ref (n 0), .int 0, .ref (n 2), .ref (n 3), .ref (n 4), .ref (n 5), .ref (n 6), .int 0, .ref (n 8), .ref (n 9), .ref (n 10), .ref (n 11), .ref (n 12), .ref (n 13), .ref (n 14), .int 0, .int 0, .ref (n 17), .ref (n 18), .ref (n 19), .ref (n 20), .ref (n 21), .ref (n 22), .ref (n 23), .ref (n 24), .ref (n 25), .int 1, .int 0, .int 12, .int 0, .int 0, .int 0, .int 0, .int 1440, .ref (n 34), .ref (n 35), .int 0, .int 0, .int 0, .ref (n 39), .ref (n 40), .ref (n 41), .ref (n 42), .int 0, .int 0, .int 0]))] sz)) 0 0 (va_A [(h0, .inr (9, [.ref (n 0), .int 0, .ref (n 2), .ref (n 3), .ref (n 4), .ref (n 5), .ref (n 6), .int 0, .ref (n 8), .ref (n 9), .ref (n 10), .ref (n 11), .ref (n 12), .ref (n 13), .ref (n 14), .int 0, .int 0, .ref (n 17), .ref (n 18), .ref (n 19), .ref (n 20), .ref (n 21), .ref (n 22), .ref (n 23), .ref (n 24), .ref (n 25), .int 1, .int 0, .int 12, .int 0, .int 0, .int 0, .int 0, .int 1440, .ref (n 34), .ref (n 35), .int 0, .int 0, .int 0, .ref (n 39), .ref (n 40), .ref (n 41), .ref (n 42), .int 0, .int 0, .int 0]))] sz) := by
  refine Met.ofW (cc := cX9_near) (maxL := 3) (ret := (some .boolean)) (by decide) rfl ?_
  intro p e s m args below meth c s₁ B hml hv
  obtain ⟨rfl, hsz, hG, hP, hD0⟩ := hv
  have hx := B.exec
  have hb := B.bytes
  have hr := B.returns
  have hts := atoms_spec (ws := wsX9_near) B.pre
  have hown : s.vm.findClass RX9 = some m.cls := findClass_of_methodNamed B.named
  have hlocks := B.notSynchronized
  have hK := hG.1
  have hN := hG.2
  subst hsz
  have hD := hD0.self (sz := s.heap.size)
  generalize hAe : va_A [(h0, .inr (9, [.ref (n 0), .int 0, .ref (n 2), .ref (n 3), .ref (n 4), .ref (n 5), .ref (n 6), .int 0, .ref (n 8), .ref (n 9), .ref (n 10), .ref (n 11), .ref (n 12), .ref (n 13), .ref (n 14), .int 0, .int 0, .ref (n 17), .ref (n 18), .ref (n 19), .ref (n 20), .ref (n 21), .ref (n 22), .ref (n 23), .ref (n 24), .ref (n 25), .int 1, .int 0, .int 12, .int 0, .int 0, .int 0, .int 0, .int 1440, .ref (n 34), .ref (n 35), .int 0, .int 0, .int 0, .ref (n 39), .ref (n 40), .ref (n 41), .ref (n 42), .int 0, .int 0, .int 0]))] s.heap.size = A at hD ⊢
  have hA : ∀ q : Nat, s.heap.size ≤ q → A q := fun q h => by rw [← hAe]; exact Or.inr h
  have hS : va_S A s.heap s.heap [] := va_S.rf
  have hP : va_P D vwCl [(h0, .inr (9, [.ref (n 0), .int 0, .ref (n 2), .ref (n 3), .ref (n 4), .ref (n 5), .ref (n 6), .int 0, .ref (n 8), .ref (n 9), .ref (n 10), .ref (n 11), .ref (n 12), .ref (n 13), .ref (n 14), .int 0, .int 0, .ref (n 17), .ref (n 18), .ref (n 19), .ref (n 20), .ref (n 21), .ref (n 22), .ref (n 23), .ref (n 24), .ref (n 25), .int 1, .int 0, .int 12, .int 0, .int 0, .int 0, .int 0, .int 1440, .ref (n 34), .ref (n 35), .int 0, .int 0, .int 0, .ref (n 39), .ref (n 40), .ref (n 41), .ref (n 42), .int 0, .int 0, .int 0]))] s.heap := hP
  have hl := lv_entry ([.ref h0, .int x1]) (n := 3) (Nat.le_of_ble_eq_true rfl)
  rw [lg_entry_eq]
  generalize (lg_sl ([.ref h0, .int x1]) ++ List.replicate (3 - (lg_sl ([.ref h0, .int x1])).length) Slot.unset).toArray = ls at hl ⊢
  have hl : lv_has ls 3 [(0, .ref h0), (1, .int x1)] := hl
  refine lv_iload_n hx hb dX9_near_0 rfl (lv_at hl 1 rfl) ?_
  refine lv_iconst (v := 0) hx hb dX9_near_1 (by decide) ?_
  refine lv_sipush (v := 5000) hx hb dX9_near_2 (by decide) ?_
  refine vp_callSi (va_Run.run (va_runS (As := [.int x1, .int 0, .int 5000]) (rest := []) ⟨hx, hb, hml, hown, hts⟩ (k_X9_in l x1 0 5000) (va_cwS 3 hts gX9_near_X9_in rfl rfl rfl (by decide +kernel) ⟨Nat.le_of_ble_eq_true rfl, Nat.le_of_ble_eq_true rfl⟩) preEq rfl rfl hl.1 rfl (lv_room (Nat.le_of_ble_eq_true rfl)) dX9_near_5 ⟨Nat.le_of_ble_eq_true rfl, Nat.le_of_ble_eq_true rfl⟩)) (fun r_1 h_1 => ?_)
  rcases h_1 with ⟨rfl, h_1⟩ | ⟨rfl, h_1⟩
  · refine lv_if_ne (tgt := 13) hx hb dX9_near_8 (by decide) (fun _ => ?_) (fun c_2 => False.elim (by revert c_2; decide))
    refine lv_iconst (v := 0) hx hb dX9_near_13 (by decide) ?_
    refine lv_istore_n (lv' := [(2, .int 0), (0, .ref h0), (1, .int x1)]) hx hb dX9_near_14 rfl hl (by decide) rfl (fun ls hl => ?_)
    refine lv_iload_n hx hb dX9_near_15 rfl (lv_at hl 0 rfl) ?_
    refine lv_aload_n hx hb dX9_near_16 rfl (lv_at hl 1 rfl) ?_
    refine va_get (D := D) (ci := 9) (v := .int 0) (C := RX9) (T := TX9) (N := 46) hx hb hts (fun _ h9 => List.mem_cons_of_mem _ (List.mem_append_right _ h9)) hown hK hP 0 rfl rfl 1 (by decide) (hts (.fieldLink RX9 109 "BuoyTenderModel" "marks" "I") (by decide +kernel)) (fun _ h9 => h9) rfl dX9_near_17 ?_
    refine lv_icmp_ge (tgt := 40) hx hb dX9_near_20 (by decide) (fun _ => ?_) (fun c_3 => False.elim (by revert c_3; decide))
    refine lv_aload_n hx hb dX9_near_40 rfl (lv_at hl 1 rfl) ?_
    refine lv_iload_n hx hb dX9_near_41 rfl (lv_at hl 2 rfl) ?_
    refine va_put (D := D) (ci := 9) (v := .int x1) (ty := (tyX9 15)) (C := RX9) (T := TX9) (N := 46) hx hb hts (fun _ h9 => List.mem_cons_of_mem _ (List.mem_append_right _ h9)) tyX9 tyX9_ok nmX9 hown hK hP hD hS 0 rfl rfl 15 (by decide) (hts (.fieldLink RX9 140 "BuoyTenderModel" "nearness" "I") (by decide +kernel)) (fun _ h9 => h9) rfl (by decide +kernel) rfl rfl (Nat.le_of_ble_eq_true rfl) dX9_near_42 (fun H locs hP hD hS => ?_)
    have hP : va_P D vwCl [(h0, .inr (9, [.ref (n 0), .int 0, .ref (n 2), .ref (n 3), .ref (n 4), .ref (n 5), .ref (n 6), .int 0, .ref (n 8), .ref (n 9), .ref (n 10), .ref (n 11), .ref (n 12), .ref (n 13), .ref (n 14), .int x1, .int 0, .ref (n 17), .ref (n 18), .ref (n 19), .ref (n 20), .ref (n 21), .ref (n 22), .ref (n 23), .ref (n 24), .ref (n 25), .int 1, .int 0, .int 12, .int 0, .int 0, .int 0, .int 0, .int 1440, .ref (n 34), .ref (n 35), .int 0, .int 0, .int 0, .ref (n 39), .ref (n 40), .ref (n 41), .ref (n 42), .int 0, .int 0, .int 0]))] H := hP
    have hD : va_D A [(h0, .inr (9, [.ref (n 0), .int 0, .ref (n 2), .ref (n 3), .ref (n 4), .ref (n 5), .ref (n 6), .int 0, .ref (n 8), .ref (n 9), .ref (n 10), .ref (n 11), .ref (n 12), .ref (n 13), .ref (n 14), .int x1, .int 0, .ref (n 17), .ref (n 18), .ref (n 19), .ref (n 20), .ref (n 21), .ref (n 22), .ref (n 23), .ref (n 24), .ref (n 25), .int 1, .int 0, .int 12, .int 0, .int 0, .int 0, .int 0, .int 1440, .ref (n 34), .ref (n 35), .int 0, .int 0, .int 0, .ref (n 39), .ref (n 40), .ref (n 41), .ref (n 42), .int 0, .int 0, .int 0]))] := hD
    refine lv_iconst (v := 1) hx hb dX9_near_45 (by decide) ?_
    exact W.zret (v := 1) hx hb hr rfl (fun t ht hW => ⟨⟨1, (), rfl, (Or.inl ⟨rfl, h_1⟩), trivial⟩, hS.F ht⟩) hS.2.2 dX9_near_46
  refine lv_if_ne (tgt := 13) hx hb dX9_near_8 (by decide) (fun c_4 => False.elim (by revert c_4; decide)) (fun _ => ?_)
  refine lv_iconst (v := 0) hx hb dX9_near_11 (by decide) ?_
  exact W.zret (v := 0) hx hb hr rfl (fun t ht hW => ⟨⟨0, (), rfl, (Or.inr ⟨rfl, fun h9 => h_1 (h9)⟩), trivial⟩, hS.F ht⟩) hS.2.2 dX9_near_12
set_option maxHeartbeats 4000000 in
set_option maxRecDepth 100000 in
/-- X9_weather on a fresh object -/
theorem k_X9_weather (l : Launch) (D : va_G) (cI cJ cZ cM : Nat) (h0 : Nat) (n : Nat → Nat) (x1 : Int32) (x2 : Int32) (x3 : Int32) (sz : Nat) : Met l yX9_weather wsX9_weather ({ frames := 1, cells := 0, slots := 0, locals := 22 } : Room) (RW D cI cJ cZ cM [.ref h0, .int x1, .int x2, .int x3] [(h0, .inr (9, [.ref (n 0), .int 0, .ref (n 2), .ref (n 3), .ref (n 4), .ref (n 5), .ref (n 6), .int 0, .ref (n 8), .ref (n 9), .ref (n 10), .ref (n 11), .ref (n 12), .ref (n 13), .ref (n 14), .int 0, .int 0, .ref (n 17), .ref (n 18), .ref (n 19), .ref (n 20), .ref (n 21), .ref (n 22), .ref (n 23), .ref (n 24), .ref (n 25), .int 1, .int 0, .int 12, .int 0, .int 0, .int 0, .int 0, .int 1440, .ref (n 34), .ref (n 35), .int 0, .int 0, .int 0, .ref (n 39), .ref (n 40), .ref (n 41), .ref (n 42), .int 0, .int 0, .int 0])), (n 24, .inl (cI, 24, .inl (fun _ => 0))), (n 25, .inl (cI, 24, .inl (fun _ => 0)))] sz) (va_Qi (S := Unit) (fun r u => okI 1 0 ((0 ≤ x1 ∧ x1 ≤ 23) ∧ ((-50) ≤ x2 ∧ x2 ≤ 50) ∧ (0 ≤ x3 ∧ x3 ≤ 12)) r) (fun _ _ => True) (va_A [(h0, .inr (9, [.ref (n 0), .int 0, .ref (n 2), .ref (n 3), .ref (n 4), .ref (n 5), .ref (n 6), .int 0, .ref (n 8), .ref (n 9), .ref (n 10), .ref (n 11), .ref (n 12), .ref (n 13), .ref (n 14), .int 0, .int 0, .ref (n 17), .ref (n 18), .ref (n 19), .ref (n 20), .ref (n 21), .ref (n 22), .ref (n 23), .ref (n 24), .ref (n 25), .int 1, .int 0, .int 12, .int 0, .int 0, .int 0, .int 0, .int 1440, .ref (n 34), .ref (n 35), .int 0, .int 0, .int 0, .ref (n 39), .ref (n 40), .ref (n 41), .ref (n 42), .int 0, .int 0, .int 0])), (n 24, .inl (cI, 24, .inl (fun _ => 0))), (n 25, .inl (cI, 24, .inl (fun _ => 0)))] sz)) 0 0 (va_A [(h0, .inr (9, [.ref (n 0), .int 0, .ref (n 2), .ref (n 3), .ref (n 4), .ref (n 5), .ref (n 6), .int 0, .ref (n 8), .ref (n 9), .ref (n 10), .ref (n 11), .ref (n 12), .ref (n 13), .ref (n 14), .int 0, .int 0, .ref (n 17), .ref (n 18), .ref (n 19), .ref (n 20), .ref (n 21), .ref (n 22), .ref (n 23), .ref (n 24), .ref (n 25), .int 1, .int 0, .int 12, .int 0, .int 0, .int 0, .int 0, .int 1440, .ref (n 34), .ref (n 35), .int 0, .int 0, .int 0, .ref (n 39), .ref (n 40), .ref (n 41), .ref (n 42), .int 0, .int 0, .int 0])), (n 24, .inl (cI, 24, .inl (fun _ => 0))), (n 25, .inl (cI, 24, .inl (fun _ => 0)))] sz) := by
  refine Met.ofW (cc := cX9_weather) (maxL := 4) (ret := (some .boolean)) (by decide) rfl ?_
  intro p e s m args below meth c s₁ B hml hv
  obtain ⟨rfl, hsz, hG, hP, hD0⟩ := hv
  have hx := B.exec
  have hb := B.bytes
  have hr := B.returns
  have hts := atoms_spec (ws := wsX9_weather) B.pre
  have hown : s.vm.findClass RX9 = some m.cls := findClass_of_methodNamed B.named
  have hlocks := B.notSynchronized
  have hK := hG.1
  have hN := hG.2
  subst hsz
  have hD := hD0.self (sz := s.heap.size)
  generalize hAe : va_A [(h0, .inr (9, [.ref (n 0), .int 0, .ref (n 2), .ref (n 3), .ref (n 4), .ref (n 5), .ref (n 6), .int 0, .ref (n 8), .ref (n 9), .ref (n 10), .ref (n 11), .ref (n 12), .ref (n 13), .ref (n 14), .int 0, .int 0, .ref (n 17), .ref (n 18), .ref (n 19), .ref (n 20), .ref (n 21), .ref (n 22), .ref (n 23), .ref (n 24), .ref (n 25), .int 1, .int 0, .int 12, .int 0, .int 0, .int 0, .int 0, .int 1440, .ref (n 34), .ref (n 35), .int 0, .int 0, .int 0, .ref (n 39), .ref (n 40), .ref (n 41), .ref (n 42), .int 0, .int 0, .int 0])), (n 24, .inl (cI, 24, .inl (fun _ => 0))), (n 25, .inl (cI, 24, .inl (fun _ => 0)))] s.heap.size = A at hD ⊢
  have hA : ∀ q : Nat, s.heap.size ≤ q → A q := fun q h => by rw [← hAe]; exact Or.inr h
  have hS : va_S A s.heap s.heap [] := va_S.rf
  have hP : va_P D vwCl [(h0, .inr (9, [.ref (n 0), .int 0, .ref (n 2), .ref (n 3), .ref (n 4), .ref (n 5), .ref (n 6), .int 0, .ref (n 8), .ref (n 9), .ref (n 10), .ref (n 11), .ref (n 12), .ref (n 13), .ref (n 14), .int 0, .int 0, .ref (n 17), .ref (n 18), .ref (n 19), .ref (n 20), .ref (n 21), .ref (n 22), .ref (n 23), .ref (n 24), .ref (n 25), .int 1, .int 0, .int 12, .int 0, .int 0, .int 0, .int 0, .int 1440, .ref (n 34), .ref (n 35), .int 0, .int 0, .int 0, .ref (n 39), .ref (n 40), .ref (n 41), .ref (n 42), .int 0, .int 0, .int 0])), (n 24, .inl (cI, 24, .inl (fun _ => 0))), (n 25, .inl (cI, 24, .inl (fun _ => 0)))] s.heap := hP
  have hl := lv_entry ([.ref h0, .int x1, .int x2, .int x3]) (n := 4) (Nat.le_of_ble_eq_true rfl)
  rw [lg_entry_eq]
  generalize (lg_sl ([.ref h0, .int x1, .int x2, .int x3]) ++ List.replicate (4 - (lg_sl ([.ref h0, .int x1, .int x2, .int x3])).length) Slot.unset).toArray = ls at hl ⊢
  have hl : lv_has ls 4 [(0, .ref h0), (1, .int x1), (2, .int x2), (3, .int x3)] := hl
  refine lv_iload_n hx hb dX9_weather_0 rfl (lv_at hl 1 rfl) ?_
  refine lv_iconst (v := 0) hx hb dX9_weather_1 (by decide) ?_
  refine lv_bipush (v := 23) hx hb dX9_weather_2 (by decide) ?_
  refine vp_callSi (va_Run.run (va_runS (As := [.int x1, .int 0, .int 23]) (rest := []) ⟨hx, hb, hml, hown, hts⟩ (k_X9_in l x1 0 23) (va_cwS 3 hts gX9_weather_X9_in rfl rfl rfl (by decide +kernel) ⟨Nat.le_of_ble_eq_true rfl, Nat.le_of_ble_eq_true rfl⟩) preEq rfl rfl hl.1 rfl (lv_room (Nat.le_of_ble_eq_true rfl)) dX9_weather_4 ⟨Nat.le_of_ble_eq_true rfl, Nat.le_of_ble_eq_true rfl⟩)) (fun r_1 h_1 => ?_)
  rcases h_1 with ⟨rfl, h_1⟩ | ⟨rfl, h_1⟩
  · refine lv_if_eq (tgt := 31) hx hb dX9_weather_7 (by decide) (fun c_2 => False.elim (by revert c_2; decide)) (fun _ => ?_)
    refine lv_iload_n hx hb dX9_weather_10 rfl (lv_at hl 2 rfl) ?_
    refine lv_bipush (v := (-50)) hx hb dX9_weather_11 (by decide) ?_
    refine lv_bipush (v := 50) hx hb dX9_weather_13 (by decide) ?_
    refine vp_callSi (va_Run.run (va_runS (As := [.int x2, .int (-50), .int 50]) (rest := []) ⟨hx, hb, hml, hown, hts⟩ (k_X9_in l x2 (-50) 50) (va_cwS 3 hts gX9_weather_X9_in rfl rfl rfl (by decide +kernel) ⟨Nat.le_of_ble_eq_true rfl, Nat.le_of_ble_eq_true rfl⟩) preEq rfl rfl hl.1 rfl (lv_room (Nat.le_of_ble_eq_true rfl)) dX9_weather_15 ⟨Nat.le_of_ble_eq_true rfl, Nat.le_of_ble_eq_true rfl⟩)) (fun r_3 h_3 => ?_)
    rcases h_3 with ⟨rfl, h_3⟩ | ⟨rfl, h_3⟩
    · refine lv_if_eq (tgt := 31) hx hb dX9_weather_18 (by decide) (fun c_4 => False.elim (by revert c_4; decide)) (fun _ => ?_)
      refine lv_iload_n hx hb dX9_weather_21 rfl (lv_at hl 3 rfl) ?_
      refine lv_iconst (v := 0) hx hb dX9_weather_22 (by decide) ?_
      refine lv_bipush (v := 12) hx hb dX9_weather_23 (by decide) ?_
      refine vp_callSi (va_Run.run (va_runS (As := [.int x3, .int 0, .int 12]) (rest := []) ⟨hx, hb, hml, hown, hts⟩ (k_X9_in l x3 0 12) (va_cwS 3 hts gX9_weather_X9_in rfl rfl rfl (by decide +kernel) ⟨Nat.le_of_ble_eq_true rfl, Nat.le_of_ble_eq_true rfl⟩) preEq rfl rfl hl.1 rfl (lv_room (Nat.le_of_ble_eq_true rfl)) dX9_weather_25 ⟨Nat.le_of_ble_eq_true rfl, Nat.le_of_ble_eq_true rfl⟩)) (fun r_5 h_5 => ?_)
      rcases h_5 with ⟨rfl, h_5⟩ | ⟨rfl, h_5⟩
      · refine lv_if_ne (tgt := 33) hx hb dX9_weather_28 (by decide) (fun _ => ?_) (fun c_6 => False.elim (by revert c_6; decide))
        refine lv_aload_n hx hb dX9_weather_33 rfl (lv_at hl 0 rfl) ?_
        refine va_get (D := D) (ci := 9) (v := .ref (n 24)) (C := RX9) (T := TX9) (N := 46) hx hb hts (fun _ h9 => List.mem_cons_of_mem _ (List.mem_append_right _ h9)) hown hK hP 0 rfl rfl 24 (by decide) (hts (.fieldLink RX9 71 "BuoyTenderModel" "tide" "[I") (by decide +kernel)) (fun _ h9 => h9) rfl dX9_weather_34 ?_
        refine lv_iload_n hx hb dX9_weather_37 rfl (lv_at hl 1 rfl) ?_
        refine lv_iload_n hx hb dX9_weather_38 rfl (lv_at hl 2 rfl) ?_
        refine va_iast hx hb hK hP hD hS 1 0 rfl rfl (ix_1 (X := 23) (a := 23) (by decide) h_1 (by decide) (by decide)) dX9_weather_39 (fun H locs hP hD hS => ?_)
        have hP : va_P D vwCl [(h0, .inr (9, [.ref (n 0), .int 0, .ref (n 2), .ref (n 3), .ref (n 4), .ref (n 5), .ref (n 6), .int 0, .ref (n 8), .ref (n 9), .ref (n 10), .ref (n 11), .ref (n 12), .ref (n 13), .ref (n 14), .int 0, .int 0, .ref (n 17), .ref (n 18), .ref (n 19), .ref (n 20), .ref (n 21), .ref (n 22), .ref (n 23), .ref (n 24), .ref (n 25), .int 1, .int 0, .int 12, .int 0, .int 0, .int 0, .int 0, .int 1440, .ref (n 34), .ref (n 35), .int 0, .int 0, .int 0, .ref (n 39), .ref (n 40), .ref (n 41), .ref (n 42), .int 0, .int 0, .int 0])), (n 24, .inl (cI, 24, .inl (upd (fun _ => 0) x1.toNatClampNeg x2))), (n 25, .inl (cI, 24, .inl (fun _ => 0)))] H := hP
        have hD : va_D A [(h0, .inr (9, [.ref (n 0), .int 0, .ref (n 2), .ref (n 3), .ref (n 4), .ref (n 5), .ref (n 6), .int 0, .ref (n 8), .ref (n 9), .ref (n 10), .ref (n 11), .ref (n 12), .ref (n 13), .ref (n 14), .int 0, .int 0, .ref (n 17), .ref (n 18), .ref (n 19), .ref (n 20), .ref (n 21), .ref (n 22), .ref (n 23), .ref (n 24), .ref (n 25), .int 1, .int 0, .int 12, .int 0, .int 0, .int 0, .int 0, .int 1440, .ref (n 34), .ref (n 35), .int 0, .int 0, .int 0, .ref (n 39), .ref (n 40), .ref (n 41), .ref (n 42), .int 0, .int 0, .int 0])), (n 24, .inl (cI, 24, .inl (upd (fun _ => 0) x1.toNatClampNeg x2))), (n 25, .inl (cI, 24, .inl (fun _ => 0)))] := hD
        refine lv_aload_n hx hb dX9_weather_40 rfl (lv_at hl 0 rfl) ?_
        refine va_get (D := D) (ci := 9) (v := .ref (n 25)) (C := RX9) (T := TX9) (N := 46) hx hb hts (fun _ h9 => List.mem_cons_of_mem _ (List.mem_append_right _ h9)) hown hK hP 0 rfl rfl 25 (by decide) (hts (.fieldLink RX9 74 "BuoyTenderModel" "wind" "[I") (by decide +kernel)) (fun _ h9 => h9) rfl dX9_weather_41 ?_
        refine lv_iload_n hx hb dX9_weather_44 rfl (lv_at hl 1 rfl) ?_
        refine lv_iload_n hx hb dX9_weather_45 rfl (lv_at hl 3 rfl) ?_
        refine va_iast hx hb hK hP hD hS 2 0 rfl rfl (ix_1 (X := 23) (a := 23) (by decide) h_1 (by decide) (by decide)) dX9_weather_46 (fun H locs hP hD hS => ?_)
        have hP : va_P D vwCl [(h0, .inr (9, [.ref (n 0), .int 0, .ref (n 2), .ref (n 3), .ref (n 4), .ref (n 5), .ref (n 6), .int 0, .ref (n 8), .ref (n 9), .ref (n 10), .ref (n 11), .ref (n 12), .ref (n 13), .ref (n 14), .int 0, .int 0, .ref (n 17), .ref (n 18), .ref (n 19), .ref (n 20), .ref (n 21), .ref (n 22), .ref (n 23), .ref (n 24), .ref (n 25), .int 1, .int 0, .int 12, .int 0, .int 0, .int 0, .int 0, .int 1440, .ref (n 34), .ref (n 35), .int 0, .int 0, .int 0, .ref (n 39), .ref (n 40), .ref (n 41), .ref (n 42), .int 0, .int 0, .int 0])), (n 24, .inl (cI, 24, .inl (upd (fun _ => 0) x1.toNatClampNeg x2))), (n 25, .inl (cI, 24, .inl (upd (fun _ => 0) x1.toNatClampNeg x3)))] H := hP
        have hD : va_D A [(h0, .inr (9, [.ref (n 0), .int 0, .ref (n 2), .ref (n 3), .ref (n 4), .ref (n 5), .ref (n 6), .int 0, .ref (n 8), .ref (n 9), .ref (n 10), .ref (n 11), .ref (n 12), .ref (n 13), .ref (n 14), .int 0, .int 0, .ref (n 17), .ref (n 18), .ref (n 19), .ref (n 20), .ref (n 21), .ref (n 22), .ref (n 23), .ref (n 24), .ref (n 25), .int 1, .int 0, .int 12, .int 0, .int 0, .int 0, .int 0, .int 1440, .ref (n 34), .ref (n 35), .int 0, .int 0, .int 0, .ref (n 39), .ref (n 40), .ref (n 41), .ref (n 42), .int 0, .int 0, .int 0])), (n 24, .inl (cI, 24, .inl (upd (fun _ => 0) x1.toNatClampNeg x2))), (n 25, .inl (cI, 24, .inl (upd (fun _ => 0) x1.toNatClampNeg x3)))] := hD
        refine lv_aload_n hx hb dX9_weather_47 rfl (lv_at hl 0 rfl) ?_
        refine lv_iconst (v := 0) hx hb dX9_weather_48 (by decide) ?_
        refine va_put (D := D) (ci := 9) (v := .int 0) (ty := (tyX9 43)) (C := RX9) (T := TX9) (N := 46) hx hb hts (fun _ h9 => List.mem_cons_of_mem _ (List.mem_append_right _ h9)) tyX9 tyX9_ok nmX9 hown hK hP hD hS 0 rfl rfl 43 (by decide) (hts (.fieldLink RX9 116 "BuoyTenderModel" "isKnown" "Z") (by decide +kernel)) (fun _ h9 => h9) rfl (by decide +kernel) rfl rfl (Nat.le_of_ble_eq_true rfl) dX9_weather_49 (fun H locs hP hD hS => ?_)
        have hP : va_P D vwCl [(h0, .inr (9, [.ref (n 0), .int 0, .ref (n 2), .ref (n 3), .ref (n 4), .ref (n 5), .ref (n 6), .int 0, .ref (n 8), .ref (n 9), .ref (n 10), .ref (n 11), .ref (n 12), .ref (n 13), .ref (n 14), .int 0, .int 0, .ref (n 17), .ref (n 18), .ref (n 19), .ref (n 20), .ref (n 21), .ref (n 22), .ref (n 23), .ref (n 24), .ref (n 25), .int 1, .int 0, .int 12, .int 0, .int 0, .int 0, .int 0, .int 1440, .ref (n 34), .ref (n 35), .int 0, .int 0, .int 0, .ref (n 39), .ref (n 40), .ref (n 41), .ref (n 42), .int 0, .int 0, .int 0])), (n 24, .inl (cI, 24, .inl (upd (fun _ => 0) x1.toNatClampNeg x2))), (n 25, .inl (cI, 24, .inl (upd (fun _ => 0) x1.toNatClampNeg x3)))] H := hP
        have hD : va_D A [(h0, .inr (9, [.ref (n 0), .int 0, .ref (n 2), .ref (n 3), .ref (n 4), .ref (n 5), .ref (n 6), .int 0, .ref (n 8), .ref (n 9), .ref (n 10), .ref (n 11), .ref (n 12), .ref (n 13), .ref (n 14), .int 0, .int 0, .ref (n 17), .ref (n 18), .ref (n 19), .ref (n 20), .ref (n 21), .ref (n 22), .ref (n 23), .ref (n 24), .ref (n 25), .int 1, .int 0, .int 12, .int 0, .int 0, .int 0, .int 0, .int 1440, .ref (n 34), .ref (n 35), .int 0, .int 0, .int 0, .ref (n 39), .ref (n 40), .ref (n 41), .ref (n 42), .int 0, .int 0, .int 0])), (n 24, .inl (cI, 24, .inl (upd (fun _ => 0) x1.toNatClampNeg x2))), (n 25, .inl (cI, 24, .inl (upd (fun _ => 0) x1.toNatClampNeg x3)))] := hD
        refine lv_iconst (v := 1) hx hb dX9_weather_52 (by decide) ?_
        exact W.zret (v := 1) hx hb hr rfl (fun t ht hW => ⟨⟨1, (), rfl, (Or.inl ⟨rfl, h_1, h_3, h_5⟩), trivial⟩, hS.F ht⟩) hS.2.2 dX9_weather_53
      refine lv_if_ne (tgt := 33) hx hb dX9_weather_28 (by decide) (fun c_9 => False.elim (by revert c_9; decide)) (fun _ => ?_)
      refine lv_iconst (v := 0) hx hb dX9_weather_31 (by decide) ?_
      exact W.zret (v := 0) hx hb hr rfl (fun t ht hW => ⟨⟨0, (), rfl, (Or.inr ⟨rfl, fun h9 => h_5 (h9.2.2)⟩), trivial⟩, hS.F ht⟩) hS.2.2 dX9_weather_32
    refine lv_if_eq (tgt := 31) hx hb dX9_weather_18 (by decide) (fun _ => ?_) (fun c_10 => False.elim (by revert c_10; decide))
    refine lv_iconst (v := 0) hx hb dX9_weather_31 (by decide) ?_
    exact W.zret (v := 0) hx hb hr rfl (fun t ht hW => ⟨⟨0, (), rfl, (Or.inr ⟨rfl, fun h9 => h_3 (h9.2.1)⟩), trivial⟩, hS.F ht⟩) hS.2.2 dX9_weather_32
  refine lv_if_eq (tgt := 31) hx hb dX9_weather_7 (by decide) (fun _ => ?_) (fun c_11 => False.elim (by revert c_11; decide))
  refine lv_iconst (v := 0) hx hb dX9_weather_31 (by decide) ?_
  exact W.zret (v := 0) hx hb hr rfl (fun t ht hW => ⟨⟨0, (), rfl, (Or.inr ⟨rfl, fun h9 => h_1 (h9.1)⟩), trivial⟩, hS.F ht⟩) hS.2.2 dX9_weather_32
set_option maxHeartbeats 4000000 in
set_option maxRecDepth 100000 in
/-- X9_ship on a fresh object -/
theorem k_X9_ship (l : Launch) (D : va_G) (cI cJ cZ cM : Nat) (h0 : Nat) (n : Nat → Nat) (x1 : Int32) (x2 : Int32) (x3 : Int32) (x4 : Int32) (sz : Nat) : Met l yX9_ship wsX9_ship ({ frames := 1, cells := 0, slots := 0, locals := 22 } : Room) (RW D cI cJ cZ cM [.ref h0, .int x1, .int x2, .int x3, .int x4] [(h0, .inr (9, [.ref (n 0), .int 0, .ref (n 2), .ref (n 3), .ref (n 4), .ref (n 5), .ref (n 6), .int 0, .ref (n 8), .ref (n 9), .ref (n 10), .ref (n 11), .ref (n 12), .ref (n 13), .ref (n 14), .int 0, .int 0, .ref (n 17), .ref (n 18), .ref (n 19), .ref (n 20), .ref (n 21), .ref (n 22), .ref (n 23), .ref (n 24), .ref (n 25), .int 1, .int 0, .int 12, .int 0, .int 0, .int 0, .int 0, .int 1440, .ref (n 34), .ref (n 35), .int 0, .int 0, .int 0, .ref (n 39), .ref (n 40), .ref (n 41), .ref (n 42), .int 0, .int 0, .int 0]))] sz) (va_Qi (S := Unit) (fun r u => okI 1 0 ((0 ≤ x1 ∧ x1 ≤ 60) ∧ (0 ≤ x2 ∧ x2 ≤ 100) ∧ (0 ≤ x3 ∧ x3 ≤ 12) ∧ (0 ≤ x4 ∧ x4 ≤ 10000)) r) (fun _ _ => True) (va_A [(h0, .inr (9, [.ref (n 0), .int 0, .ref (n 2), .ref (n 3), .ref (n 4), .ref (n 5), .ref (n 6), .int 0, .ref (n 8), .ref (n 9), .ref (n 10), .ref (n 11), .ref (n 12), .ref (n 13), .ref (n 14), .int 0, .int 0, .ref (n 17), .ref (n 18), .ref (n 19), .ref (n 20), .ref (n 21), .ref (n 22), .ref (n 23), .ref (n 24), .ref (n 25), .int 1, .int 0, .int 12, .int 0, .int 0, .int 0, .int 0, .int 1440, .ref (n 34), .ref (n 35), .int 0, .int 0, .int 0, .ref (n 39), .ref (n 40), .ref (n 41), .ref (n 42), .int 0, .int 0, .int 0]))] sz)) 0 0 (va_A [(h0, .inr (9, [.ref (n 0), .int 0, .ref (n 2), .ref (n 3), .ref (n 4), .ref (n 5), .ref (n 6), .int 0, .ref (n 8), .ref (n 9), .ref (n 10), .ref (n 11), .ref (n 12), .ref (n 13), .ref (n 14), .int 0, .int 0, .ref (n 17), .ref (n 18), .ref (n 19), .ref (n 20), .ref (n 21), .ref (n 22), .ref (n 23), .ref (n 24), .ref (n 25), .int 1, .int 0, .int 12, .int 0, .int 0, .int 0, .int 0, .int 1440, .ref (n 34), .ref (n 35), .int 0, .int 0, .int 0, .ref (n 39), .ref (n 40), .ref (n 41), .ref (n 42), .int 0, .int 0, .int 0]))] sz) := by
  refine Met.ofW (cc := cX9_ship) (maxL := 5) (ret := (some .boolean)) (by decide) rfl ?_
  intro p e s m args below meth c s₁ B hml hv
  obtain ⟨rfl, hsz, hG, hP, hD0⟩ := hv
  have hx := B.exec
  have hb := B.bytes
  have hr := B.returns
  have hts := atoms_spec (ws := wsX9_ship) B.pre
  have hown : s.vm.findClass RX9 = some m.cls := findClass_of_methodNamed B.named
  have hlocks := B.notSynchronized
  have hK := hG.1
  have hN := hG.2
  subst hsz
  have hD := hD0.self (sz := s.heap.size)
  generalize hAe : va_A [(h0, .inr (9, [.ref (n 0), .int 0, .ref (n 2), .ref (n 3), .ref (n 4), .ref (n 5), .ref (n 6), .int 0, .ref (n 8), .ref (n 9), .ref (n 10), .ref (n 11), .ref (n 12), .ref (n 13), .ref (n 14), .int 0, .int 0, .ref (n 17), .ref (n 18), .ref (n 19), .ref (n 20), .ref (n 21), .ref (n 22), .ref (n 23), .ref (n 24), .ref (n 25), .int 1, .int 0, .int 12, .int 0, .int 0, .int 0, .int 0, .int 1440, .ref (n 34), .ref (n 35), .int 0, .int 0, .int 0, .ref (n 39), .ref (n 40), .ref (n 41), .ref (n 42), .int 0, .int 0, .int 0]))] s.heap.size = A at hD ⊢
  have hA : ∀ q : Nat, s.heap.size ≤ q → A q := fun q h => by rw [← hAe]; exact Or.inr h
  have hS : va_S A s.heap s.heap [] := va_S.rf
  have hP : va_P D vwCl [(h0, .inr (9, [.ref (n 0), .int 0, .ref (n 2), .ref (n 3), .ref (n 4), .ref (n 5), .ref (n 6), .int 0, .ref (n 8), .ref (n 9), .ref (n 10), .ref (n 11), .ref (n 12), .ref (n 13), .ref (n 14), .int 0, .int 0, .ref (n 17), .ref (n 18), .ref (n 19), .ref (n 20), .ref (n 21), .ref (n 22), .ref (n 23), .ref (n 24), .ref (n 25), .int 1, .int 0, .int 12, .int 0, .int 0, .int 0, .int 0, .int 1440, .ref (n 34), .ref (n 35), .int 0, .int 0, .int 0, .ref (n 39), .ref (n 40), .ref (n 41), .ref (n 42), .int 0, .int 0, .int 0]))] s.heap := hP
  have hl := lv_entry ([.ref h0, .int x1, .int x2, .int x3, .int x4]) (n := 5) (Nat.le_of_ble_eq_true rfl)
  rw [lg_entry_eq]
  generalize (lg_sl ([.ref h0, .int x1, .int x2, .int x3, .int x4]) ++ List.replicate (5 - (lg_sl ([.ref h0, .int x1, .int x2, .int x3, .int x4])).length) Slot.unset).toArray = ls at hl ⊢
  have hl : lv_has ls 5 [(0, .ref h0), (1, .int x1), (2, .int x2), (3, .int x3), (4, .int x4)] := hl
  refine lv_iload_n hx hb dX9_ship_0 rfl (lv_at hl 1 rfl) ?_
  refine lv_iconst (v := 0) hx hb dX9_ship_1 (by decide) ?_
  refine lv_bipush (v := 60) hx hb dX9_ship_2 (by decide) ?_
  refine vp_callSi (va_Run.run (va_runS (As := [.int x1, .int 0, .int 60]) (rest := []) ⟨hx, hb, hml, hown, hts⟩ (k_X9_in l x1 0 60) (va_cwS 3 hts gX9_ship_X9_in rfl rfl rfl (by decide +kernel) ⟨Nat.le_of_ble_eq_true rfl, Nat.le_of_ble_eq_true rfl⟩) preEq rfl rfl hl.1 rfl (lv_room (Nat.le_of_ble_eq_true rfl)) dX9_ship_4 ⟨Nat.le_of_ble_eq_true rfl, Nat.le_of_ble_eq_true rfl⟩)) (fun r_1 h_1 => ?_)
  rcases h_1 with ⟨rfl, h_1⟩ | ⟨rfl, h_1⟩
  · refine lv_if_eq (tgt := 42) hx hb dX9_ship_7 (by decide) (fun c_2 => False.elim (by revert c_2; decide)) (fun _ => ?_)
    refine lv_iload_n hx hb dX9_ship_10 rfl (lv_at hl 2 rfl) ?_
    refine lv_iconst (v := 0) hx hb dX9_ship_11 (by decide) ?_
    refine lv_bipush (v := 100) hx hb dX9_ship_12 (by decide) ?_
    refine vp_callSi (va_Run.run (va_runS (As := [.int x2, .int 0, .int 100]) (rest := []) ⟨hx, hb, hml, hown, hts⟩ (k_X9_in l x2 0 100) (va_cwS 3 hts gX9_ship_X9_in rfl rfl rfl (by decide +kernel) ⟨Nat.le_of_ble_eq_true rfl, Nat.le_of_ble_eq_true rfl⟩) preEq rfl rfl hl.1 rfl (lv_room (Nat.le_of_ble_eq_true rfl)) dX9_ship_14 ⟨Nat.le_of_ble_eq_true rfl, Nat.le_of_ble_eq_true rfl⟩)) (fun r_3 h_3 => ?_)
    rcases h_3 with ⟨rfl, h_3⟩ | ⟨rfl, h_3⟩
    · refine lv_if_eq (tgt := 42) hx hb dX9_ship_17 (by decide) (fun c_4 => False.elim (by revert c_4; decide)) (fun _ => ?_)
      refine lv_iload_n hx hb dX9_ship_20 rfl (lv_at hl 3 rfl) ?_
      refine lv_iconst (v := 0) hx hb dX9_ship_21 (by decide) ?_
      refine lv_bipush (v := 12) hx hb dX9_ship_22 (by decide) ?_
      refine vp_callSi (va_Run.run (va_runS (As := [.int x3, .int 0, .int 12]) (rest := []) ⟨hx, hb, hml, hown, hts⟩ (k_X9_in l x3 0 12) (va_cwS 3 hts gX9_ship_X9_in rfl rfl rfl (by decide +kernel) ⟨Nat.le_of_ble_eq_true rfl, Nat.le_of_ble_eq_true rfl⟩) preEq rfl rfl hl.1 rfl (lv_room (Nat.le_of_ble_eq_true rfl)) dX9_ship_24 ⟨Nat.le_of_ble_eq_true rfl, Nat.le_of_ble_eq_true rfl⟩)) (fun r_5 h_5 => ?_)
      rcases h_5 with ⟨rfl, h_5⟩ | ⟨rfl, h_5⟩
      · refine lv_if_eq (tgt := 42) hx hb dX9_ship_27 (by decide) (fun c_6 => False.elim (by revert c_6; decide)) (fun _ => ?_)
        refine lv_iload hx hb dX9_ship_30 (lv_at hl 4 rfl) ?_
        refine lv_iconst (v := 0) hx hb dX9_ship_32 (by decide) ?_
        refine lv_sipush (v := 10000) hx hb dX9_ship_33 (by decide) ?_
        refine vp_callSi (va_Run.run (va_runS (As := [.int x4, .int 0, .int 10000]) (rest := []) ⟨hx, hb, hml, hown, hts⟩ (k_X9_in l x4 0 10000) (va_cwS 3 hts gX9_ship_X9_in rfl rfl rfl (by decide +kernel) ⟨Nat.le_of_ble_eq_true rfl, Nat.le_of_ble_eq_true rfl⟩) preEq rfl rfl hl.1 rfl (lv_room (Nat.le_of_ble_eq_true rfl)) dX9_ship_36 ⟨Nat.le_of_ble_eq_true rfl, Nat.le_of_ble_eq_true rfl⟩)) (fun r_7 h_7 => ?_)
        rcases h_7 with ⟨rfl, h_7⟩ | ⟨rfl, h_7⟩
        · refine lv_if_ne (tgt := 44) hx hb dX9_ship_39 (by decide) (fun _ => ?_) (fun c_8 => False.elim (by revert c_8; decide))
          refine lv_aload_n hx hb dX9_ship_44 rfl (lv_at hl 0 rfl) ?_
          refine lv_iload_n hx hb dX9_ship_45 rfl (lv_at hl 1 rfl) ?_
          refine va_put (D := D) (ci := 9) (v := .int x1) (ty := (tyX9 26)) (C := RX9) (T := TX9) (N := 46) hx hb hts (fun _ h9 => List.mem_cons_of_mem _ (List.mem_append_right _ h9)) tyX9 tyX9_ok nmX9 hown hK hP hD hS 0 rfl rfl 26 (by decide) (hts (.fieldLink RX9 77 "BuoyTenderModel" "pace" "I") (by decide +kernel)) (fun _ h9 => h9) rfl (by decide +kernel) rfl rfl (Nat.le_of_ble_eq_true rfl) dX9_ship_46 (fun H locs hP hD hS => ?_)
          have hP : va_P D vwCl [(h0, .inr (9, [.ref (n 0), .int 0, .ref (n 2), .ref (n 3), .ref (n 4), .ref (n 5), .ref (n 6), .int 0, .ref (n 8), .ref (n 9), .ref (n 10), .ref (n 11), .ref (n 12), .ref (n 13), .ref (n 14), .int 0, .int 0, .ref (n 17), .ref (n 18), .ref (n 19), .ref (n 20), .ref (n 21), .ref (n 22), .ref (n 23), .ref (n 24), .ref (n 25), .int x1, .int 0, .int 12, .int 0, .int 0, .int 0, .int 0, .int 1440, .ref (n 34), .ref (n 35), .int 0, .int 0, .int 0, .ref (n 39), .ref (n 40), .ref (n 41), .ref (n 42), .int 0, .int 0, .int 0]))] H := hP
          have hD : va_D A [(h0, .inr (9, [.ref (n 0), .int 0, .ref (n 2), .ref (n 3), .ref (n 4), .ref (n 5), .ref (n 6), .int 0, .ref (n 8), .ref (n 9), .ref (n 10), .ref (n 11), .ref (n 12), .ref (n 13), .ref (n 14), .int 0, .int 0, .ref (n 17), .ref (n 18), .ref (n 19), .ref (n 20), .ref (n 21), .ref (n 22), .ref (n 23), .ref (n 24), .ref (n 25), .int x1, .int 0, .int 12, .int 0, .int 0, .int 0, .int 0, .int 1440, .ref (n 34), .ref (n 35), .int 0, .int 0, .int 0, .ref (n 39), .ref (n 40), .ref (n 41), .ref (n 42), .int 0, .int 0, .int 0]))] := hD
          refine lv_aload_n hx hb dX9_ship_49 rfl (lv_at hl 0 rfl) ?_
          refine lv_iload_n hx hb dX9_ship_50 rfl (lv_at hl 2 rfl) ?_
          refine va_put (D := D) (ci := 9) (v := .int x2) (ty := (tyX9 27)) (C := RX9) (T := TX9) (N := 46) hx hb hts (fun _ h9 => List.mem_cons_of_mem _ (List.mem_append_right _ h9)) tyX9 tyX9_ok nmX9 hown hK hP hD hS 0 rfl rfl 27 (by decide) (hts (.fieldLink RX9 152 "BuoyTenderModel" "draught" "I") (by decide +kernel)) (fun _ h9 => h9) rfl (by decide +kernel) rfl rfl (Nat.le_of_ble_eq_true rfl) dX9_ship_51 (fun H locs hP hD hS => ?_)
          have hP : va_P D vwCl [(h0, .inr (9, [.ref (n 0), .int 0, .ref (n 2), .ref (n 3), .ref (n 4), .ref (n 5), .ref (n 6), .int 0, .ref (n 8), .ref (n 9), .ref (n 10), .ref (n 11), .ref (n 12), .ref (n 13), .ref (n 14), .int 0, .int 0, .ref (n 17), .ref (n 18), .ref (n 19), .ref (n 20), .ref (n 21), .ref (n 22), .ref (n 23), .ref (n 24), .ref (n 25), .int x1, .int x2, .int 12, .int 0, .int 0, .int 0, .int 0, .int 1440, .ref (n 34), .ref (n 35), .int 0, .int 0, .int 0, .ref (n 39), .ref (n 40), .ref (n 41), .ref (n 42), .int 0, .int 0, .int 0]))] H := hP
          have hD : va_D A [(h0, .inr (9, [.ref (n 0), .int 0, .ref (n 2), .ref (n 3), .ref (n 4), .ref (n 5), .ref (n 6), .int 0, .ref (n 8), .ref (n 9), .ref (n 10), .ref (n 11), .ref (n 12), .ref (n 13), .ref (n 14), .int 0, .int 0, .ref (n 17), .ref (n 18), .ref (n 19), .ref (n 20), .ref (n 21), .ref (n 22), .ref (n 23), .ref (n 24), .ref (n 25), .int x1, .int x2, .int 12, .int 0, .int 0, .int 0, .int 0, .int 1440, .ref (n 34), .ref (n 35), .int 0, .int 0, .int 0, .ref (n 39), .ref (n 40), .ref (n 41), .ref (n 42), .int 0, .int 0, .int 0]))] := hD
          refine lv_aload_n hx hb dX9_ship_54 rfl (lv_at hl 0 rfl) ?_
          refine lv_iload_n hx hb dX9_ship_55 rfl (lv_at hl 3 rfl) ?_
          refine va_put (D := D) (ci := 9) (v := .int x3) (ty := (tyX9 28)) (C := RX9) (T := TX9) (N := 46) hx hb hts (fun _ h9 => List.mem_cons_of_mem _ (List.mem_append_right _ h9)) tyX9 tyX9_ok nmX9 hown hK hP hD hS 0 rfl rfl 28 (by decide) (hts (.fieldLink RX9 81 "BuoyTenderModel" "mostWind" "I") (by decide +kernel)) (fun _ h9 => h9) rfl (by decide +kernel) rfl rfl (Nat.le_of_ble_eq_true rfl) dX9_ship_56 (fun H locs hP hD hS => ?_)
          have hP : va_P D vwCl [(h0, .inr (9, [.ref (n 0), .int 0, .ref (n 2), .ref (n 3), .ref (n 4), .ref (n 5), .ref (n 6), .int 0, .ref (n 8), .ref (n 9), .ref (n 10), .ref (n 11), .ref (n 12), .ref (n 13), .ref (n 14), .int 0, .int 0, .ref (n 17), .ref (n 18), .ref (n 19), .ref (n 20), .ref (n 21), .ref (n 22), .ref (n 23), .ref (n 24), .ref (n 25), .int x1, .int x2, .int x3, .int 0, .int 0, .int 0, .int 0, .int 1440, .ref (n 34), .ref (n 35), .int 0, .int 0, .int 0, .ref (n 39), .ref (n 40), .ref (n 41), .ref (n 42), .int 0, .int 0, .int 0]))] H := hP
          have hD : va_D A [(h0, .inr (9, [.ref (n 0), .int 0, .ref (n 2), .ref (n 3), .ref (n 4), .ref (n 5), .ref (n 6), .int 0, .ref (n 8), .ref (n 9), .ref (n 10), .ref (n 11), .ref (n 12), .ref (n 13), .ref (n 14), .int 0, .int 0, .ref (n 17), .ref (n 18), .ref (n 19), .ref (n 20), .ref (n 21), .ref (n 22), .ref (n 23), .ref (n 24), .ref (n 25), .int x1, .int x2, .int x3, .int 0, .int 0, .int 0, .int 0, .int 1440, .ref (n 34), .ref (n 35), .int 0, .int 0, .int 0, .ref (n 39), .ref (n 40), .ref (n 41), .ref (n 42), .int 0, .int 0, .int 0]))] := hD
          refine lv_aload_n hx hb dX9_ship_59 rfl (lv_at hl 0 rfl) ?_
          refine lv_iload hx hb dX9_ship_60 (lv_at hl 4 rfl) ?_
          refine va_put (D := D) (ci := 9) (v := .int x4) (ty := (tyX9 29)) (C := RX9) (T := TX9) (N := 46) hx hb hts (fun _ h9 => List.mem_cons_of_mem _ (List.mem_append_right _ h9)) tyX9 tyX9_ok nmX9 hown hK hP hD hS 0 rfl rfl 29 (by decide) (hts (.fieldLink RX9 155 "BuoyTenderModel" "carries" "I") (by decide +kernel)) (fun _ h9 => h9) rfl (by decide +kernel) rfl rfl (Nat.le_of_ble_eq_true rfl) dX9_ship_62 (fun H locs hP hD hS => ?_)
          have hP : va_P D vwCl [(h0, .inr (9, [.ref (n 0), .int 0, .ref (n 2), .ref (n 3), .ref (n 4), .ref (n 5), .ref (n 6), .int 0, .ref (n 8), .ref (n 9), .ref (n 10), .ref (n 11), .ref (n 12), .ref (n 13), .ref (n 14), .int 0, .int 0, .ref (n 17), .ref (n 18), .ref (n 19), .ref (n 20), .ref (n 21), .ref (n 22), .ref (n 23), .ref (n 24), .ref (n 25), .int x1, .int x2, .int x3, .int x4, .int 0, .int 0, .int 0, .int 1440, .ref (n 34), .ref (n 35), .int 0, .int 0, .int 0, .ref (n 39), .ref (n 40), .ref (n 41), .ref (n 42), .int 0, .int 0, .int 0]))] H := hP
          have hD : va_D A [(h0, .inr (9, [.ref (n 0), .int 0, .ref (n 2), .ref (n 3), .ref (n 4), .ref (n 5), .ref (n 6), .int 0, .ref (n 8), .ref (n 9), .ref (n 10), .ref (n 11), .ref (n 12), .ref (n 13), .ref (n 14), .int 0, .int 0, .ref (n 17), .ref (n 18), .ref (n 19), .ref (n 20), .ref (n 21), .ref (n 22), .ref (n 23), .ref (n 24), .ref (n 25), .int x1, .int x2, .int x3, .int x4, .int 0, .int 0, .int 0, .int 1440, .ref (n 34), .ref (n 35), .int 0, .int 0, .int 0, .ref (n 39), .ref (n 40), .ref (n 41), .ref (n 42), .int 0, .int 0, .int 0]))] := hD
          refine lv_aload_n hx hb dX9_ship_65 rfl (lv_at hl 0 rfl) ?_
          refine lv_iconst (v := 0) hx hb dX9_ship_66 (by decide) ?_
          refine va_put (D := D) (ci := 9) (v := .int 0) (ty := (tyX9 43)) (C := RX9) (T := TX9) (N := 46) hx hb hts (fun _ h9 => List.mem_cons_of_mem _ (List.mem_append_right _ h9)) tyX9 tyX9_ok nmX9 hown hK hP hD hS 0 rfl rfl 43 (by decide) (hts (.fieldLink RX9 116 "BuoyTenderModel" "isKnown" "Z") (by decide +kernel)) (fun _ h9 => h9) rfl (by decide +kernel) rfl rfl (Nat.le_of_ble_eq_true rfl) dX9_ship_67 (fun H locs hP hD hS => ?_)
          have hP : va_P D vwCl [(h0, .inr (9, [.ref (n 0), .int 0, .ref (n 2), .ref (n 3), .ref (n 4), .ref (n 5), .ref (n 6), .int 0, .ref (n 8), .ref (n 9), .ref (n 10), .ref (n 11), .ref (n 12), .ref (n 13), .ref (n 14), .int 0, .int 0, .ref (n 17), .ref (n 18), .ref (n 19), .ref (n 20), .ref (n 21), .ref (n 22), .ref (n 23), .ref (n 24), .ref (n 25), .int x1, .int x2, .int x3, .int x4, .int 0, .int 0, .int 0, .int 1440, .ref (n 34), .ref (n 35), .int 0, .int 0, .int 0, .ref (n 39), .ref (n 40), .ref (n 41), .ref (n 42), .int 0, .int 0, .int 0]))] H := hP
          have hD : va_D A [(h0, .inr (9, [.ref (n 0), .int 0, .ref (n 2), .ref (n 3), .ref (n 4), .ref (n 5), .ref (n 6), .int 0, .ref (n 8), .ref (n 9), .ref (n 10), .ref (n 11), .ref (n 12), .ref (n 13), .ref (n 14), .int 0, .int 0, .ref (n 17), .ref (n 18), .ref (n 19), .ref (n 20), .ref (n 21), .ref (n 22), .ref (n 23), .ref (n 24), .ref (n 25), .int x1, .int x2, .int x3, .int x4, .int 0, .int 0, .int 0, .int 1440, .ref (n 34), .ref (n 35), .int 0, .int 0, .int 0, .ref (n 39), .ref (n 40), .ref (n 41), .ref (n 42), .int 0, .int 0, .int 0]))] := hD
          refine lv_iconst (v := 1) hx hb dX9_ship_70 (by decide) ?_
          exact W.zret (v := 1) hx hb hr rfl (fun t ht hW => ⟨⟨1, (), rfl, (Or.inl ⟨rfl, h_1, h_3, h_5, h_7⟩), trivial⟩, hS.F ht⟩) hS.2.2 dX9_ship_71
        refine lv_if_ne (tgt := 44) hx hb dX9_ship_39 (by decide) (fun c_9 => False.elim (by revert c_9; decide)) (fun _ => ?_)
        refine lv_iconst (v := 0) hx hb dX9_ship_42 (by decide) ?_
        exact W.zret (v := 0) hx hb hr rfl (fun t ht hW => ⟨⟨0, (), rfl, (Or.inr ⟨rfl, fun h9 => h_7 (h9.2.2.2)⟩), trivial⟩, hS.F ht⟩) hS.2.2 dX9_ship_43
      refine lv_if_eq (tgt := 42) hx hb dX9_ship_27 (by decide) (fun _ => ?_) (fun c_10 => False.elim (by revert c_10; decide))
      refine lv_iconst (v := 0) hx hb dX9_ship_42 (by decide) ?_
      exact W.zret (v := 0) hx hb hr rfl (fun t ht hW => ⟨⟨0, (), rfl, (Or.inr ⟨rfl, fun h9 => h_5 (h9.2.2.1)⟩), trivial⟩, hS.F ht⟩) hS.2.2 dX9_ship_43
    refine lv_if_eq (tgt := 42) hx hb dX9_ship_17 (by decide) (fun _ => ?_) (fun c_11 => False.elim (by revert c_11; decide))
    refine lv_iconst (v := 0) hx hb dX9_ship_42 (by decide) ?_
    exact W.zret (v := 0) hx hb hr rfl (fun t ht hW => ⟨⟨0, (), rfl, (Or.inr ⟨rfl, fun h9 => h_3 (h9.2.1)⟩), trivial⟩, hS.F ht⟩) hS.2.2 dX9_ship_43
  refine lv_if_eq (tgt := 42) hx hb dX9_ship_7 (by decide) (fun _ => ?_) (fun c_12 => False.elim (by revert c_12; decide))
  refine lv_iconst (v := 0) hx hb dX9_ship_42 (by decide) ?_
  exact W.zret (v := 0) hx hb hr rfl (fun t ht hW => ⟨⟨0, (), rfl, (Or.inr ⟨rfl, fun h9 => h_1 (h9.1)⟩), trivial⟩, hS.F ht⟩) hS.2.2 dX9_ship_43
set_option maxHeartbeats 4000000 in
set_option maxRecDepth 100000 in
/-- X9_at on a fresh object -/
theorem k_X9_at (l : Launch) (D : va_G) (cI cJ cZ cM : Nat) (h0 : Nat) (n : Nat → Nat) (x1 : Int32) (x2 : Int32) (x3 : Int32) (x4 : Int32) (sz : Nat) : Met l yX9_at wsX9_at ({ frames := 2, cells := 0, slots := 0, locals := 43 } : Room) (RW D cI cJ cZ cM [.ref h0, .int x1, .int x2, .int x3, .int x4] [(h0, .inr (9, [.ref (n 0), .int 0, .ref (n 2), .ref (n 3), .ref (n 4), .ref (n 5), .ref (n 6), .int 0, .ref (n 8), .ref (n 9), .ref (n 10), .ref (n 11), .ref (n 12), .ref (n 13), .ref (n 14), .int 0, .int 0, .ref (n 17), .ref (n 18), .ref (n 19), .ref (n 20), .ref (n 21), .ref (n 22), .ref (n 23), .ref (n 24), .ref (n 25), .int 1, .int 0, .int 12, .int 0, .int 0, .int 0, .int 0, .int 1440, .ref (n 34), .ref (n 35), .int 0, .int 0, .int 0, .ref (n 39), .ref (n 40), .ref (n 41), .ref (n 42), .int 0, .int 0, .int 0]))] sz) (va_Qi (S := Unit) (fun r u => okI 1 0 (placeP x1 x2 ∧ (0 ≤ x3 ∧ x3 ≤ 1440) ∧ (x3 ≤ x4 ∧ x4 ≤ 1440)) r) (fun _ _ => True) (va_A [(h0, .inr (9, [.ref (n 0), .int 0, .ref (n 2), .ref (n 3), .ref (n 4), .ref (n 5), .ref (n 6), .int 0, .ref (n 8), .ref (n 9), .ref (n 10), .ref (n 11), .ref (n 12), .ref (n 13), .ref (n 14), .int 0, .int 0, .ref (n 17), .ref (n 18), .ref (n 19), .ref (n 20), .ref (n 21), .ref (n 22), .ref (n 23), .ref (n 24), .ref (n 25), .int 1, .int 0, .int 12, .int 0, .int 0, .int 0, .int 0, .int 1440, .ref (n 34), .ref (n 35), .int 0, .int 0, .int 0, .ref (n 39), .ref (n 40), .ref (n 41), .ref (n 42), .int 0, .int 0, .int 0]))] sz)) 0 0 (va_A [(h0, .inr (9, [.ref (n 0), .int 0, .ref (n 2), .ref (n 3), .ref (n 4), .ref (n 5), .ref (n 6), .int 0, .ref (n 8), .ref (n 9), .ref (n 10), .ref (n 11), .ref (n 12), .ref (n 13), .ref (n 14), .int 0, .int 0, .ref (n 17), .ref (n 18), .ref (n 19), .ref (n 20), .ref (n 21), .ref (n 22), .ref (n 23), .ref (n 24), .ref (n 25), .int 1, .int 0, .int 12, .int 0, .int 0, .int 0, .int 0, .int 1440, .ref (n 34), .ref (n 35), .int 0, .int 0, .int 0, .ref (n 39), .ref (n 40), .ref (n 41), .ref (n 42), .int 0, .int 0, .int 0]))] sz) := by
  refine Met.ofW (cc := cX9_at) (maxL := 5) (ret := (some .boolean)) (by decide) rfl ?_
  intro p e s m args below meth c s₁ B hml hv
  obtain ⟨rfl, hsz, hG, hP, hD0⟩ := hv
  have hx := B.exec
  have hb := B.bytes
  have hr := B.returns
  have hts := atoms_spec (ws := wsX9_at) B.pre
  have hown : s.vm.findClass RX9 = some m.cls := findClass_of_methodNamed B.named
  have hlocks := B.notSynchronized
  have hK := hG.1
  have hN := hG.2
  subst hsz
  have hD := hD0.self (sz := s.heap.size)
  generalize hAe : va_A [(h0, .inr (9, [.ref (n 0), .int 0, .ref (n 2), .ref (n 3), .ref (n 4), .ref (n 5), .ref (n 6), .int 0, .ref (n 8), .ref (n 9), .ref (n 10), .ref (n 11), .ref (n 12), .ref (n 13), .ref (n 14), .int 0, .int 0, .ref (n 17), .ref (n 18), .ref (n 19), .ref (n 20), .ref (n 21), .ref (n 22), .ref (n 23), .ref (n 24), .ref (n 25), .int 1, .int 0, .int 12, .int 0, .int 0, .int 0, .int 0, .int 1440, .ref (n 34), .ref (n 35), .int 0, .int 0, .int 0, .ref (n 39), .ref (n 40), .ref (n 41), .ref (n 42), .int 0, .int 0, .int 0]))] s.heap.size = A at hD ⊢
  have hA : ∀ q : Nat, s.heap.size ≤ q → A q := fun q h => by rw [← hAe]; exact Or.inr h
  have hS : va_S A s.heap s.heap [] := va_S.rf
  have hP : va_P D vwCl [(h0, .inr (9, [.ref (n 0), .int 0, .ref (n 2), .ref (n 3), .ref (n 4), .ref (n 5), .ref (n 6), .int 0, .ref (n 8), .ref (n 9), .ref (n 10), .ref (n 11), .ref (n 12), .ref (n 13), .ref (n 14), .int 0, .int 0, .ref (n 17), .ref (n 18), .ref (n 19), .ref (n 20), .ref (n 21), .ref (n 22), .ref (n 23), .ref (n 24), .ref (n 25), .int 1, .int 0, .int 12, .int 0, .int 0, .int 0, .int 0, .int 1440, .ref (n 34), .ref (n 35), .int 0, .int 0, .int 0, .ref (n 39), .ref (n 40), .ref (n 41), .ref (n 42), .int 0, .int 0, .int 0]))] s.heap := hP
  have hl := lv_entry ([.ref h0, .int x1, .int x2, .int x3, .int x4]) (n := 5) (Nat.le_of_ble_eq_true rfl)
  rw [lg_entry_eq]
  generalize (lg_sl ([.ref h0, .int x1, .int x2, .int x3, .int x4]) ++ List.replicate (5 - (lg_sl ([.ref h0, .int x1, .int x2, .int x3, .int x4])).length) Slot.unset).toArray = ls at hl ⊢
  have hl : lv_has ls 5 [(0, .ref h0), (1, .int x1), (2, .int x2), (3, .int x3), (4, .int x4)] := hl
  refine lv_iload_n hx hb dX9_at_0 rfl (lv_at hl 1 rfl) ?_
  refine lv_iload_n hx hb dX9_at_1 rfl (lv_at hl 2 rfl) ?_
  refine vp_callSi (va_Run.run (va_runS (As := [.int x1, .int x2]) (rest := []) ⟨hx, hb, hml, hown, hts⟩ (k_X9_isPlace l x1 x2) (va_cwS 2 hts gX9_at_X9_isPlace rfl rfl rfl (by decide +kernel) ⟨Nat.le_of_ble_eq_true rfl, Nat.le_of_ble_eq_true rfl⟩) preEq rfl rfl hl.1 rfl (lv_room (Nat.le_of_ble_eq_true rfl)) dX9_at_2 ⟨Nat.le_of_ble_eq_true rfl, Nat.le_of_ble_eq_true rfl⟩)) (fun r_1 h_1 => ?_)
  rcases h_1 with ⟨rfl, h_1⟩ | ⟨rfl, h_1⟩
  · refine lv_if_eq (tgt := 31) hx hb dX9_at_5 (by decide) (fun c_2 => False.elim (by revert c_2; decide)) (fun _ => ?_)
    refine lv_iload_n hx hb dX9_at_8 rfl (lv_at hl 3 rfl) ?_
    refine lv_iconst (v := 0) hx hb dX9_at_9 (by decide) ?_
    refine lv_sipush (v := 1440) hx hb dX9_at_10 (by decide) ?_
    refine vp_callSi (va_Run.run (va_runS (As := [.int x3, .int 0, .int 1440]) (rest := []) ⟨hx, hb, hml, hown, hts⟩ (k_X9_in l x3 0 1440) (va_cwS 3 hts gX9_at_X9_in rfl rfl rfl (by decide +kernel) ⟨Nat.le_of_ble_eq_true rfl, Nat.le_of_ble_eq_true rfl⟩) preEq rfl rfl hl.1 rfl (lv_room (Nat.le_of_ble_eq_true rfl)) dX9_at_13 ⟨Nat.le_of_ble_eq_true rfl, Nat.le_of_ble_eq_true rfl⟩)) (fun r_3 h_3 => ?_)
    rcases h_3 with ⟨rfl, h_3⟩ | ⟨rfl, h_3⟩
    · refine lv_if_eq (tgt := 31) hx hb dX9_at_16 (by decide) (fun c_4 => False.elim (by revert c_4; decide)) (fun _ => ?_)
      refine lv_iload hx hb dX9_at_19 (lv_at hl 4 rfl) ?_
      refine lv_iload_n hx hb dX9_at_21 rfl (lv_at hl 3 rfl) ?_
      refine lv_sipush (v := 1440) hx hb dX9_at_22 (by decide) ?_
      refine vp_callSi (va_Run.run (va_runS (As := [.int x4, .int x3, .int 1440]) (rest := []) ⟨hx, hb, hml, hown, hts⟩ (k_X9_in l x4 x3 1440) (va_cwS 3 hts gX9_at_X9_in rfl rfl rfl (by decide +kernel) ⟨Nat.le_of_ble_eq_true rfl, Nat.le_of_ble_eq_true rfl⟩) preEq rfl rfl hl.1 rfl (lv_room (Nat.le_of_ble_eq_true rfl)) dX9_at_25 ⟨Nat.le_of_ble_eq_true rfl, Nat.le_of_ble_eq_true rfl⟩)) (fun r_5 h_5 => ?_)
      rcases h_5 with ⟨rfl, h_5⟩ | ⟨rfl, h_5⟩
      · refine lv_if_ne (tgt := 33) hx hb dX9_at_28 (by decide) (fun _ => ?_) (fun c_6 => False.elim (by revert c_6; decide))
        refine lv_aload_n hx hb dX9_at_33 rfl (lv_at hl 0 rfl) ?_
        refine lv_iload_n hx hb dX9_at_34 rfl (lv_at hl 1 rfl) ?_
        refine va_put (D := D) (ci := 9) (v := .int x1) (ty := (tyX9 30)) (C := RX9) (T := TX9) (N := 46) hx hb hts (fun _ h9 => List.mem_cons_of_mem _ (List.mem_append_right _ h9)) tyX9 tyX9_ok nmX9 hown hK hP hD hS 0 rfl rfl 30 (by decide) (hts (.fieldLink RX9 158 "BuoyTenderModel" "shipX" "I") (by decide +kernel)) (fun _ h9 => h9) rfl (by decide +kernel) rfl rfl (Nat.le_of_ble_eq_true rfl) dX9_at_35 (fun H locs hP hD hS => ?_)
        have hP : va_P D vwCl [(h0, .inr (9, [.ref (n 0), .int 0, .ref (n 2), .ref (n 3), .ref (n 4), .ref (n 5), .ref (n 6), .int 0, .ref (n 8), .ref (n 9), .ref (n 10), .ref (n 11), .ref (n 12), .ref (n 13), .ref (n 14), .int 0, .int 0, .ref (n 17), .ref (n 18), .ref (n 19), .ref (n 20), .ref (n 21), .ref (n 22), .ref (n 23), .ref (n 24), .ref (n 25), .int 1, .int 0, .int 12, .int 0, .int x1, .int 0, .int 0, .int 1440, .ref (n 34), .ref (n 35), .int 0, .int 0, .int 0, .ref (n 39), .ref (n 40), .ref (n 41), .ref (n 42), .int 0, .int 0, .int 0]))] H := hP
        have hD : va_D A [(h0, .inr (9, [.ref (n 0), .int 0, .ref (n 2), .ref (n 3), .ref (n 4), .ref (n 5), .ref (n 6), .int 0, .ref (n 8), .ref (n 9), .ref (n 10), .ref (n 11), .ref (n 12), .ref (n 13), .ref (n 14), .int 0, .int 0, .ref (n 17), .ref (n 18), .ref (n 19), .ref (n 20), .ref (n 21), .ref (n 22), .ref (n 23), .ref (n 24), .ref (n 25), .int 1, .int 0, .int 12, .int 0, .int x1, .int 0, .int 0, .int 1440, .ref (n 34), .ref (n 35), .int 0, .int 0, .int 0, .ref (n 39), .ref (n 40), .ref (n 41), .ref (n 42), .int 0, .int 0, .int 0]))] := hD
        refine lv_aload_n hx hb dX9_at_38 rfl (lv_at hl 0 rfl) ?_
        refine lv_iload_n hx hb dX9_at_39 rfl (lv_at hl 2 rfl) ?_
        refine va_put (D := D) (ci := 9) (v := .int x2) (ty := (tyX9 31)) (C := RX9) (T := TX9) (N := 46) hx hb hts (fun _ h9 => List.mem_cons_of_mem _ (List.mem_append_right _ h9)) tyX9 tyX9_ok nmX9 hown hK hP hD hS 0 rfl rfl 31 (by decide) (hts (.fieldLink RX9 161 "BuoyTenderModel" "shipY" "I") (by decide +kernel)) (fun _ h9 => h9) rfl (by decide +kernel) rfl rfl (Nat.le_of_ble_eq_true rfl) dX9_at_40 (fun H locs hP hD hS => ?_)
        have hP : va_P D vwCl [(h0, .inr (9, [.ref (n 0), .int 0, .ref (n 2), .ref (n 3), .ref (n 4), .ref (n 5), .ref (n 6), .int 0, .ref (n 8), .ref (n 9), .ref (n 10), .ref (n 11), .ref (n 12), .ref (n 13), .ref (n 14), .int 0, .int 0, .ref (n 17), .ref (n 18), .ref (n 19), .ref (n 20), .ref (n 21), .ref (n 22), .ref (n 23), .ref (n 24), .ref (n 25), .int 1, .int 0, .int 12, .int 0, .int x1, .int x2, .int 0, .int 1440, .ref (n 34), .ref (n 35), .int 0, .int 0, .int 0, .ref (n 39), .ref (n 40), .ref (n 41), .ref (n 42), .int 0, .int 0, .int 0]))] H := hP
        have hD : va_D A [(h0, .inr (9, [.ref (n 0), .int 0, .ref (n 2), .ref (n 3), .ref (n 4), .ref (n 5), .ref (n 6), .int 0, .ref (n 8), .ref (n 9), .ref (n 10), .ref (n 11), .ref (n 12), .ref (n 13), .ref (n 14), .int 0, .int 0, .ref (n 17), .ref (n 18), .ref (n 19), .ref (n 20), .ref (n 21), .ref (n 22), .ref (n 23), .ref (n 24), .ref (n 25), .int 1, .int 0, .int 12, .int 0, .int x1, .int x2, .int 0, .int 1440, .ref (n 34), .ref (n 35), .int 0, .int 0, .int 0, .ref (n 39), .ref (n 40), .ref (n 41), .ref (n 42), .int 0, .int 0, .int 0]))] := hD
        refine lv_aload_n hx hb dX9_at_43 rfl (lv_at hl 0 rfl) ?_
        refine lv_iload_n hx hb dX9_at_44 rfl (lv_at hl 3 rfl) ?_
        refine va_put (D := D) (ci := 9) (v := .int x3) (ty := (tyX9 32)) (C := RX9) (T := TX9) (N := 46) hx hb hts (fun _ h9 => List.mem_cons_of_mem _ (List.mem_append_right _ h9)) tyX9 tyX9_ok nmX9 hown hK hP hD hS 0 rfl rfl 32 (by decide) (hts (.fieldLink RX9 164 "BuoyTenderModel" "begin" "I") (by decide +kernel)) (fun _ h9 => h9) rfl (by decide +kernel) rfl rfl (Nat.le_of_ble_eq_true rfl) dX9_at_45 (fun H locs hP hD hS => ?_)
        have hP : va_P D vwCl [(h0, .inr (9, [.ref (n 0), .int 0, .ref (n 2), .ref (n 3), .ref (n 4), .ref (n 5), .ref (n 6), .int 0, .ref (n 8), .ref (n 9), .ref (n 10), .ref (n 11), .ref (n 12), .ref (n 13), .ref (n 14), .int 0, .int 0, .ref (n 17), .ref (n 18), .ref (n 19), .ref (n 20), .ref (n 21), .ref (n 22), .ref (n 23), .ref (n 24), .ref (n 25), .int 1, .int 0, .int 12, .int 0, .int x1, .int x2, .int x3, .int 1440, .ref (n 34), .ref (n 35), .int 0, .int 0, .int 0, .ref (n 39), .ref (n 40), .ref (n 41), .ref (n 42), .int 0, .int 0, .int 0]))] H := hP
        have hD : va_D A [(h0, .inr (9, [.ref (n 0), .int 0, .ref (n 2), .ref (n 3), .ref (n 4), .ref (n 5), .ref (n 6), .int 0, .ref (n 8), .ref (n 9), .ref (n 10), .ref (n 11), .ref (n 12), .ref (n 13), .ref (n 14), .int 0, .int 0, .ref (n 17), .ref (n 18), .ref (n 19), .ref (n 20), .ref (n 21), .ref (n 22), .ref (n 23), .ref (n 24), .ref (n 25), .int 1, .int 0, .int 12, .int 0, .int x1, .int x2, .int x3, .int 1440, .ref (n 34), .ref (n 35), .int 0, .int 0, .int 0, .ref (n 39), .ref (n 40), .ref (n 41), .ref (n 42), .int 0, .int 0, .int 0]))] := hD
        refine lv_aload_n hx hb dX9_at_48 rfl (lv_at hl 0 rfl) ?_
        refine lv_iload hx hb dX9_at_49 (lv_at hl 4 rfl) ?_
        refine va_put (D := D) (ci := 9) (v := .int x4) (ty := (tyX9 33)) (C := RX9) (T := TX9) (N := 46) hx hb hts (fun _ h9 => List.mem_cons_of_mem _ (List.mem_append_right _ h9)) tyX9 tyX9_ok nmX9 hown hK hP hD hS 0 rfl rfl 33 (by decide) (hts (.fieldLink RX9 84 "BuoyTenderModel" "last" "I") (by decide +kernel)) (fun _ h9 => h9) rfl (by decide +kernel) rfl rfl (Nat.le_of_ble_eq_true rfl) dX9_at_51 (fun H locs hP hD hS => ?_)
        have hP : va_P D vwCl [(h0, .inr (9, [.ref (n 0), .int 0, .ref (n 2), .ref (n 3), .ref (n 4), .ref (n 5), .ref (n 6), .int 0, .ref (n 8), .ref (n 9), .ref (n 10), .ref (n 11), .ref (n 12), .ref (n 13), .ref (n 14), .int 0, .int 0, .ref (n 17), .ref (n 18), .ref (n 19), .ref (n 20), .ref (n 21), .ref (n 22), .ref (n 23), .ref (n 24), .ref (n 25), .int 1, .int 0, .int 12, .int 0, .int x1, .int x2, .int x3, .int x4, .ref (n 34), .ref (n 35), .int 0, .int 0, .int 0, .ref (n 39), .ref (n 40), .ref (n 41), .ref (n 42), .int 0, .int 0, .int 0]))] H := hP
        have hD : va_D A [(h0, .inr (9, [.ref (n 0), .int 0, .ref (n 2), .ref (n 3), .ref (n 4), .ref (n 5), .ref (n 6), .int 0, .ref (n 8), .ref (n 9), .ref (n 10), .ref (n 11), .ref (n 12), .ref (n 13), .ref (n 14), .int 0, .int 0, .ref (n 17), .ref (n 18), .ref (n 19), .ref (n 20), .ref (n 21), .ref (n 22), .ref (n 23), .ref (n 24), .ref (n 25), .int 1, .int 0, .int 12, .int 0, .int x1, .int x2, .int x3, .int x4, .ref (n 34), .ref (n 35), .int 0, .int 0, .int 0, .ref (n 39), .ref (n 40), .ref (n 41), .ref (n 42), .int 0, .int 0, .int 0]))] := hD
        refine lv_aload_n hx hb dX9_at_54 rfl (lv_at hl 0 rfl) ?_
        refine lv_iconst (v := 0) hx hb dX9_at_55 (by decide) ?_
        refine va_put (D := D) (ci := 9) (v := .int 0) (ty := (tyX9 43)) (C := RX9) (T := TX9) (N := 46) hx hb hts (fun _ h9 => List.mem_cons_of_mem _ (List.mem_append_right _ h9)) tyX9 tyX9_ok nmX9 hown hK hP hD hS 0 rfl rfl 43 (by decide) (hts (.fieldLink RX9 116 "BuoyTenderModel" "isKnown" "Z") (by decide +kernel)) (fun _ h9 => h9) rfl (by decide +kernel) rfl rfl (Nat.le_of_ble_eq_true rfl) dX9_at_56 (fun H locs hP hD hS => ?_)
        have hP : va_P D vwCl [(h0, .inr (9, [.ref (n 0), .int 0, .ref (n 2), .ref (n 3), .ref (n 4), .ref (n 5), .ref (n 6), .int 0, .ref (n 8), .ref (n 9), .ref (n 10), .ref (n 11), .ref (n 12), .ref (n 13), .ref (n 14), .int 0, .int 0, .ref (n 17), .ref (n 18), .ref (n 19), .ref (n 20), .ref (n 21), .ref (n 22), .ref (n 23), .ref (n 24), .ref (n 25), .int 1, .int 0, .int 12, .int 0, .int x1, .int x2, .int x3, .int x4, .ref (n 34), .ref (n 35), .int 0, .int 0, .int 0, .ref (n 39), .ref (n 40), .ref (n 41), .ref (n 42), .int 0, .int 0, .int 0]))] H := hP
        have hD : va_D A [(h0, .inr (9, [.ref (n 0), .int 0, .ref (n 2), .ref (n 3), .ref (n 4), .ref (n 5), .ref (n 6), .int 0, .ref (n 8), .ref (n 9), .ref (n 10), .ref (n 11), .ref (n 12), .ref (n 13), .ref (n 14), .int 0, .int 0, .ref (n 17), .ref (n 18), .ref (n 19), .ref (n 20), .ref (n 21), .ref (n 22), .ref (n 23), .ref (n 24), .ref (n 25), .int 1, .int 0, .int 12, .int 0, .int x1, .int x2, .int x3, .int x4, .ref (n 34), .ref (n 35), .int 0, .int 0, .int 0, .ref (n 39), .ref (n 40), .ref (n 41), .ref (n 42), .int 0, .int 0, .int 0]))] := hD
        refine lv_iconst (v := 1) hx hb dX9_at_59 (by decide) ?_
        exact W.zret (v := 1) hx hb hr rfl (fun t ht hW => ⟨⟨1, (), rfl, (Or.inl ⟨rfl, h_1, h_3, h_5⟩), trivial⟩, hS.F ht⟩) hS.2.2 dX9_at_60
      refine lv_if_ne (tgt := 33) hx hb dX9_at_28 (by decide) (fun c_7 => False.elim (by revert c_7; decide)) (fun _ => ?_)
      refine lv_iconst (v := 0) hx hb dX9_at_31 (by decide) ?_
      exact W.zret (v := 0) hx hb hr rfl (fun t ht hW => ⟨⟨0, (), rfl, (Or.inr ⟨rfl, fun h9 => h_5 (h9.2.2)⟩), trivial⟩, hS.F ht⟩) hS.2.2 dX9_at_32
    refine lv_if_eq (tgt := 31) hx hb dX9_at_16 (by decide) (fun _ => ?_) (fun c_8 => False.elim (by revert c_8; decide))
    refine lv_iconst (v := 0) hx hb dX9_at_31 (by decide) ?_
    exact W.zret (v := 0) hx hb hr rfl (fun t ht hW => ⟨⟨0, (), rfl, (Or.inr ⟨rfl, fun h9 => h_3 (h9.2.1)⟩), trivial⟩, hS.F ht⟩) hS.2.2 dX9_at_32
  refine lv_if_eq (tgt := 31) hx hb dX9_at_5 (by decide) (fun _ => ?_) (fun c_9 => False.elim (by revert c_9; decide))
  refine lv_iconst (v := 0) hx hb dX9_at_31 (by decide) ?_
  exact W.zret (v := 0) hx hb hr rfl (fun t ht hW => ⟨⟨0, (), rfl, (Or.inr ⟨rfl, fun h9 => h_1 (h9.1)⟩), trivial⟩, hS.F ht⟩) hS.2.2 dX9_at_32
set_option maxHeartbeats 4000000 in
set_option maxRecDepth 100000 in
/-- mark of a fresh reference -/
theorem k_X9_mark (l : Launch) (D : va_G) (cI cJ cZ cM : Nat) (h0 : Nat) (n : Nat → Nat) (x1 : Int32) (x2 : Int32) (x3 : Int32) (sz : Nat) : Met l yX9_mark wsX9_mark ({ frames := 2, cells := 0, slots := 0, locals := 43 } : Room) (RW D cI cJ cZ cM [.ref h0, .int x1, .int x2, .int x3] [(h0, .inr (9, [.ref (n 0), .int 0, .ref (n 2), .ref (n 3), .ref (n 4), .ref (n 5), .ref (n 6), .int 0, .ref (n 8), .ref (n 9), .ref (n 10), .ref (n 11), .ref (n 12), .ref (n 13), .ref (n 14), .int 0, .int 0, .ref (n 17), .ref (n 18), .ref (n 19), .ref (n 20), .ref (n 21), .ref (n 22), .ref (n 23), .ref (n 24), .ref (n 25), .int 1, .int 0, .int 12, .int 0, .int 0, .int 0, .int 0, .int 1440, .ref (n 34), .ref (n 35), .int 0, .int 0, .int 0, .ref (n 39), .ref (n 40), .ref (n 41), .ref (n 42), .int 0, .int 0, .int 0])), (n 2, .inl (cI, 10, .inl (fun _ => 0))), (n 3, .inl (cI, 10, .inl (fun _ => 0))), (n 4, .inl (cI, 10, .inl (fun _ => 0)))] sz) (va_Qi (S := Unit) (fun r u => okI 0 (-1) (placeP x1 x2 ∧ (0 ≤ x3 ∧ x3 ≤ 20)) r) (fun _ _ => True) (va_A [(h0, .inr (9, [.ref (n 0), .int 0, .ref (n 2), .ref (n 3), .ref (n 4), .ref (n 5), .ref (n 6), .int 0, .ref (n 8), .ref (n 9), .ref (n 10), .ref (n 11), .ref (n 12), .ref (n 13), .ref (n 14), .int 0, .int 0, .ref (n 17), .ref (n 18), .ref (n 19), .ref (n 20), .ref (n 21), .ref (n 22), .ref (n 23), .ref (n 24), .ref (n 25), .int 1, .int 0, .int 12, .int 0, .int 0, .int 0, .int 0, .int 1440, .ref (n 34), .ref (n 35), .int 0, .int 0, .int 0, .ref (n 39), .ref (n 40), .ref (n 41), .ref (n 42), .int 0, .int 0, .int 0])), (n 2, .inl (cI, 10, .inl (fun _ => 0))), (n 3, .inl (cI, 10, .inl (fun _ => 0))), (n 4, .inl (cI, 10, .inl (fun _ => 0)))] sz)) 0 0 (va_A [(h0, .inr (9, [.ref (n 0), .int 0, .ref (n 2), .ref (n 3), .ref (n 4), .ref (n 5), .ref (n 6), .int 0, .ref (n 8), .ref (n 9), .ref (n 10), .ref (n 11), .ref (n 12), .ref (n 13), .ref (n 14), .int 0, .int 0, .ref (n 17), .ref (n 18), .ref (n 19), .ref (n 20), .ref (n 21), .ref (n 22), .ref (n 23), .ref (n 24), .ref (n 25), .int 1, .int 0, .int 12, .int 0, .int 0, .int 0, .int 0, .int 1440, .ref (n 34), .ref (n 35), .int 0, .int 0, .int 0, .ref (n 39), .ref (n 40), .ref (n 41), .ref (n 42), .int 0, .int 0, .int 0])), (n 2, .inl (cI, 10, .inl (fun _ => 0))), (n 3, .inl (cI, 10, .inl (fun _ => 0))), (n 4, .inl (cI, 10, .inl (fun _ => 0)))] sz) := by
  refine Met.ofW (cc := cX9_mark) (maxL := 4) (ret := (some .int)) (by decide) rfl ?_
  intro p e s m args below meth c s₁ B hml hv
  obtain ⟨rfl, hsz, hG, hP, hD0⟩ := hv
  have hx := B.exec
  have hb := B.bytes
  have hr := B.returns
  have hts := atoms_spec (ws := wsX9_mark) B.pre
  have hown : s.vm.findClass RX9 = some m.cls := findClass_of_methodNamed B.named
  have hlocks := B.notSynchronized
  have hK := hG.1
  have hN := hG.2
  subst hsz
  have hD := hD0.self (sz := s.heap.size)
  generalize hAe : va_A [(h0, .inr (9, [.ref (n 0), .int 0, .ref (n 2), .ref (n 3), .ref (n 4), .ref (n 5), .ref (n 6), .int 0, .ref (n 8), .ref (n 9), .ref (n 10), .ref (n 11), .ref (n 12), .ref (n 13), .ref (n 14), .int 0, .int 0, .ref (n 17), .ref (n 18), .ref (n 19), .ref (n 20), .ref (n 21), .ref (n 22), .ref (n 23), .ref (n 24), .ref (n 25), .int 1, .int 0, .int 12, .int 0, .int 0, .int 0, .int 0, .int 1440, .ref (n 34), .ref (n 35), .int 0, .int 0, .int 0, .ref (n 39), .ref (n 40), .ref (n 41), .ref (n 42), .int 0, .int 0, .int 0])), (n 2, .inl (cI, 10, .inl (fun _ => 0))), (n 3, .inl (cI, 10, .inl (fun _ => 0))), (n 4, .inl (cI, 10, .inl (fun _ => 0)))] s.heap.size = A at hD ⊢
  have hA : ∀ q : Nat, s.heap.size ≤ q → A q := fun q h => by rw [← hAe]; exact Or.inr h
  have hS : va_S A s.heap s.heap [] := va_S.rf
  have hP : va_P D vwCl [(h0, .inr (9, [.ref (n 0), .int 0, .ref (n 2), .ref (n 3), .ref (n 4), .ref (n 5), .ref (n 6), .int 0, .ref (n 8), .ref (n 9), .ref (n 10), .ref (n 11), .ref (n 12), .ref (n 13), .ref (n 14), .int 0, .int 0, .ref (n 17), .ref (n 18), .ref (n 19), .ref (n 20), .ref (n 21), .ref (n 22), .ref (n 23), .ref (n 24), .ref (n 25), .int 1, .int 0, .int 12, .int 0, .int 0, .int 0, .int 0, .int 1440, .ref (n 34), .ref (n 35), .int 0, .int 0, .int 0, .ref (n 39), .ref (n 40), .ref (n 41), .ref (n 42), .int 0, .int 0, .int 0])), (n 2, .inl (cI, 10, .inl (fun _ => 0))), (n 3, .inl (cI, 10, .inl (fun _ => 0))), (n 4, .inl (cI, 10, .inl (fun _ => 0)))] s.heap := hP
  have hl := lv_entry ([.ref h0, .int x1, .int x2, .int x3]) (n := 4) (Nat.le_of_ble_eq_true rfl)
  rw [lg_entry_eq]
  generalize (lg_sl ([.ref h0, .int x1, .int x2, .int x3]) ++ List.replicate (4 - (lg_sl ([.ref h0, .int x1, .int x2, .int x3])).length) Slot.unset).toArray = ls at hl ⊢
  have hl : lv_has ls 4 [(0, .ref h0), (1, .int x1), (2, .int x2), (3, .int x3)] := hl
  refine lv_iload_n hx hb dX9_mark_0 rfl (lv_at hl 1 rfl) ?_
  refine lv_iload_n hx hb dX9_mark_1 rfl (lv_at hl 2 rfl) ?_
  refine vp_callSi (va_Run.run (va_runS (As := [.int x1, .int x2]) (rest := []) ⟨hx, hb, hml, hown, hts⟩ (k_X9_isPlace l x1 x2) (va_cwS 2 hts gX9_mark_X9_isPlace rfl rfl rfl (by decide +kernel) ⟨Nat.le_of_ble_eq_true rfl, Nat.le_of_ble_eq_true rfl⟩) preEq rfl rfl hl.1 rfl (lv_room (Nat.le_of_ble_eq_true rfl)) dX9_mark_2 ⟨Nat.le_of_ble_eq_true rfl, Nat.le_of_ble_eq_true rfl⟩)) (fun r_1 h_1 => ?_)
  rcases h_1 with ⟨rfl, h_1⟩ | ⟨rfl, h_1⟩
  · refine lv_if_eq (tgt := 27) hx hb dX9_mark_5 (by decide) (fun c_2 => False.elim (by revert c_2; decide)) (fun _ => ?_)
    refine lv_iload_n hx hb dX9_mark_8 rfl (lv_at hl 3 rfl) ?_
    refine lv_iconst (v := 0) hx hb dX9_mark_9 (by decide) ?_
    refine lv_bipush (v := 20) hx hb dX9_mark_10 (by decide) ?_
    refine vp_callSi (va_Run.run (va_runS (As := [.int x3, .int 0, .int 20]) (rest := []) ⟨hx, hb, hml, hown, hts⟩ (k_X9_in l x3 0 20) (va_cwS 3 hts gX9_mark_X9_in rfl rfl rfl (by decide +kernel) ⟨Nat.le_of_ble_eq_true rfl, Nat.le_of_ble_eq_true rfl⟩) preEq rfl rfl hl.1 rfl (lv_room (Nat.le_of_ble_eq_true rfl)) dX9_mark_12 ⟨Nat.le_of_ble_eq_true rfl, Nat.le_of_ble_eq_true rfl⟩)) (fun r_3 h_3 => ?_)
    rcases h_3 with ⟨rfl, h_3⟩ | ⟨rfl, h_3⟩
    · refine lv_if_eq (tgt := 27) hx hb dX9_mark_15 (by decide) (fun c_4 => False.elim (by revert c_4; decide)) (fun _ => ?_)
      refine lv_aload_n hx hb dX9_mark_18 rfl (lv_at hl 0 rfl) ?_
      refine va_get (D := D) (ci := 9) (v := .int 0) (C := RX9) (T := TX9) (N := 46) hx hb hts (fun _ h9 => List.mem_cons_of_mem _ (List.mem_append_right _ h9)) hown hK hP 0 rfl rfl 1 (by decide) (hts (.fieldLink RX9 109 "BuoyTenderModel" "marks" "I") (by decide +kernel)) (fun _ h9 => h9) rfl dX9_mark_19 ?_
      refine lv_bipush (v := 10) hx hb dX9_mark_22 (by decide) ?_
      refine lv_icmp_ne (tgt := 29) hx hb dX9_mark_24 (by decide) (fun _ => ?_) (fun c_5 => False.elim (by revert c_5; decide))
      refine lv_aload_n hx hb dX9_mark_29 rfl (lv_at hl 0 rfl) ?_
      refine va_get (D := D) (ci := 9) (v := .ref (n 2)) (C := RX9) (T := TX9) (N := 46) hx hb hts (fun _ h9 => List.mem_cons_of_mem _ (List.mem_append_right _ h9)) hown hK hP 0 rfl rfl 2 (by decide) (hts (.fieldLink RX9 13 "BuoyTenderModel" "stationX" "[I") (by decide +kernel)) (fun _ h9 => h9) rfl dX9_mark_30 ?_
      refine lv_aload_n hx hb dX9_mark_33 rfl (lv_at hl 0 rfl) ?_
      refine va_get (D := D) (ci := 9) (v := .int 0) (C := RX9) (T := TX9) (N := 46) hx hb hts (fun _ h9 => List.mem_cons_of_mem _ (List.mem_append_right _ h9)) hown hK hP 0 rfl rfl 1 (by decide) (hts (.fieldLink RX9 109 "BuoyTenderModel" "marks" "I") (by decide +kernel)) (fun _ h9 => h9) rfl dX9_mark_34 ?_
      refine lv_iload_n hx hb dX9_mark_37 rfl (lv_at hl 1 rfl) ?_
      refine va_iast hx hb hK hP hD hS 1 0 rfl rfl (vp_in_nI (n := 0) (N := 10) (by decide) (by decide)) dX9_mark_38 (fun H locs hP hD hS => ?_)
      have hP : va_P D vwCl [(h0, .inr (9, [.ref (n 0), .int 0, .ref (n 2), .ref (n 3), .ref (n 4), .ref (n 5), .ref (n 6), .int 0, .ref (n 8), .ref (n 9), .ref (n 10), .ref (n 11), .ref (n 12), .ref (n 13), .ref (n 14), .int 0, .int 0, .ref (n 17), .ref (n 18), .ref (n 19), .ref (n 20), .ref (n 21), .ref (n 22), .ref (n 23), .ref (n 24), .ref (n 25), .int 1, .int 0, .int 12, .int 0, .int 0, .int 0, .int 0, .int 1440, .ref (n 34), .ref (n 35), .int 0, .int 0, .int 0, .ref (n 39), .ref (n 40), .ref (n 41), .ref (n 42), .int 0, .int 0, .int 0])), (n 2, .inl (cI, 10, .inl (upd (fun _ => 0) (0 : Int32).toNatClampNeg x1))), (n 3, .inl (cI, 10, .inl (fun _ => 0))), (n 4, .inl (cI, 10, .inl (fun _ => 0)))] H := hP
      have hD : va_D A [(h0, .inr (9, [.ref (n 0), .int 0, .ref (n 2), .ref (n 3), .ref (n 4), .ref (n 5), .ref (n 6), .int 0, .ref (n 8), .ref (n 9), .ref (n 10), .ref (n 11), .ref (n 12), .ref (n 13), .ref (n 14), .int 0, .int 0, .ref (n 17), .ref (n 18), .ref (n 19), .ref (n 20), .ref (n 21), .ref (n 22), .ref (n 23), .ref (n 24), .ref (n 25), .int 1, .int 0, .int 12, .int 0, .int 0, .int 0, .int 0, .int 1440, .ref (n 34), .ref (n 35), .int 0, .int 0, .int 0, .ref (n 39), .ref (n 40), .ref (n 41), .ref (n 42), .int 0, .int 0, .int 0])), (n 2, .inl (cI, 10, .inl (upd (fun _ => 0) (0 : Int32).toNatClampNeg x1))), (n 3, .inl (cI, 10, .inl (fun _ => 0))), (n 4, .inl (cI, 10, .inl (fun _ => 0)))] := hD
      refine lv_aload_n hx hb dX9_mark_39 rfl (lv_at hl 0 rfl) ?_
      refine va_get (D := D) (ci := 9) (v := .ref (n 3)) (C := RX9) (T := TX9) (N := 46) hx hb hts (fun _ h9 => List.mem_cons_of_mem _ (List.mem_append_right _ h9)) hown hK hP 0 rfl rfl 3 (by decide) (hts (.fieldLink RX9 16 "BuoyTenderModel" "stationY" "[I") (by decide +kernel)) (fun _ h9 => h9) rfl dX9_mark_40 ?_
      refine lv_aload_n hx hb dX9_mark_43 rfl (lv_at hl 0 rfl) ?_
      refine va_get (D := D) (ci := 9) (v := .int 0) (C := RX9) (T := TX9) (N := 46) hx hb hts (fun _ h9 => List.mem_cons_of_mem _ (List.mem_append_right _ h9)) hown hK hP 0 rfl rfl 1 (by decide) (hts (.fieldLink RX9 109 "BuoyTenderModel" "marks" "I") (by decide +kernel)) (fun _ h9 => h9) rfl dX9_mark_44 ?_
      refine lv_iload_n hx hb dX9_mark_47 rfl (lv_at hl 2 rfl) ?_
      refine va_iast hx hb hK hP hD hS 2 0 rfl rfl (vp_in_nI (n := 0) (N := 10) (by decide) (by decide)) dX9_mark_48 (fun H locs hP hD hS => ?_)
      have hP : va_P D vwCl [(h0, .inr (9, [.ref (n 0), .int 0, .ref (n 2), .ref (n 3), .ref (n 4), .ref (n 5), .ref (n 6), .int 0, .ref (n 8), .ref (n 9), .ref (n 10), .ref (n 11), .ref (n 12), .ref (n 13), .ref (n 14), .int 0, .int 0, .ref (n 17), .ref (n 18), .ref (n 19), .ref (n 20), .ref (n 21), .ref (n 22), .ref (n 23), .ref (n 24), .ref (n 25), .int 1, .int 0, .int 12, .int 0, .int 0, .int 0, .int 0, .int 1440, .ref (n 34), .ref (n 35), .int 0, .int 0, .int 0, .ref (n 39), .ref (n 40), .ref (n 41), .ref (n 42), .int 0, .int 0, .int 0])), (n 2, .inl (cI, 10, .inl (upd (fun _ => 0) (0 : Int32).toNatClampNeg x1))), (n 3, .inl (cI, 10, .inl (upd (fun _ => 0) (0 : Int32).toNatClampNeg x2))), (n 4, .inl (cI, 10, .inl (fun _ => 0)))] H := hP
      have hD : va_D A [(h0, .inr (9, [.ref (n 0), .int 0, .ref (n 2), .ref (n 3), .ref (n 4), .ref (n 5), .ref (n 6), .int 0, .ref (n 8), .ref (n 9), .ref (n 10), .ref (n 11), .ref (n 12), .ref (n 13), .ref (n 14), .int 0, .int 0, .ref (n 17), .ref (n 18), .ref (n 19), .ref (n 20), .ref (n 21), .ref (n 22), .ref (n 23), .ref (n 24), .ref (n 25), .int 1, .int 0, .int 12, .int 0, .int 0, .int 0, .int 0, .int 1440, .ref (n 34), .ref (n 35), .int 0, .int 0, .int 0, .ref (n 39), .ref (n 40), .ref (n 41), .ref (n 42), .int 0, .int 0, .int 0])), (n 2, .inl (cI, 10, .inl (upd (fun _ => 0) (0 : Int32).toNatClampNeg x1))), (n 3, .inl (cI, 10, .inl (upd (fun _ => 0) (0 : Int32).toNatClampNeg x2))), (n 4, .inl (cI, 10, .inl (fun _ => 0)))] := hD
      refine lv_aload_n hx hb dX9_mark_49 rfl (lv_at hl 0 rfl) ?_
      refine va_get (D := D) (ci := 9) (v := .ref (n 4)) (C := RX9) (T := TX9) (N := 46) hx hb hts (fun _ h9 => List.mem_cons_of_mem _ (List.mem_append_right _ h9)) hown hK hP 0 rfl rfl 4 (by decide) (hts (.fieldLink RX9 19 "BuoyTenderModel" "radius" "[I") (by decide +kernel)) (fun _ h9 => h9) rfl dX9_mark_50 ?_
      refine lv_aload_n hx hb dX9_mark_53 rfl (lv_at hl 0 rfl) ?_
      refine va_get (D := D) (ci := 9) (v := .int 0) (C := RX9) (T := TX9) (N := 46) hx hb hts (fun _ h9 => List.mem_cons_of_mem _ (List.mem_append_right _ h9)) hown hK hP 0 rfl rfl 1 (by decide) (hts (.fieldLink RX9 109 "BuoyTenderModel" "marks" "I") (by decide +kernel)) (fun _ h9 => h9) rfl dX9_mark_54 ?_
      refine lv_iload_n hx hb dX9_mark_57 rfl (lv_at hl 3 rfl) ?_
      refine va_iast hx hb hK hP hD hS 3 0 rfl rfl (vp_in_nI (n := 0) (N := 10) (by decide) (by decide)) dX9_mark_58 (fun H locs hP hD hS => ?_)
      have hP : va_P D vwCl [(h0, .inr (9, [.ref (n 0), .int 0, .ref (n 2), .ref (n 3), .ref (n 4), .ref (n 5), .ref (n 6), .int 0, .ref (n 8), .ref (n 9), .ref (n 10), .ref (n 11), .ref (n 12), .ref (n 13), .ref (n 14), .int 0, .int 0, .ref (n 17), .ref (n 18), .ref (n 19), .ref (n 20), .ref (n 21), .ref (n 22), .ref (n 23), .ref (n 24), .ref (n 25), .int 1, .int 0, .int 12, .int 0, .int 0, .int 0, .int 0, .int 1440, .ref (n 34), .ref (n 35), .int 0, .int 0, .int 0, .ref (n 39), .ref (n 40), .ref (n 41), .ref (n 42), .int 0, .int 0, .int 0])), (n 2, .inl (cI, 10, .inl (upd (fun _ => 0) (0 : Int32).toNatClampNeg x1))), (n 3, .inl (cI, 10, .inl (upd (fun _ => 0) (0 : Int32).toNatClampNeg x2))), (n 4, .inl (cI, 10, .inl (upd (fun _ => 0) (0 : Int32).toNatClampNeg x3)))] H := hP
      have hD : va_D A [(h0, .inr (9, [.ref (n 0), .int 0, .ref (n 2), .ref (n 3), .ref (n 4), .ref (n 5), .ref (n 6), .int 0, .ref (n 8), .ref (n 9), .ref (n 10), .ref (n 11), .ref (n 12), .ref (n 13), .ref (n 14), .int 0, .int 0, .ref (n 17), .ref (n 18), .ref (n 19), .ref (n 20), .ref (n 21), .ref (n 22), .ref (n 23), .ref (n 24), .ref (n 25), .int 1, .int 0, .int 12, .int 0, .int 0, .int 0, .int 0, .int 1440, .ref (n 34), .ref (n 35), .int 0, .int 0, .int 0, .ref (n 39), .ref (n 40), .ref (n 41), .ref (n 42), .int 0, .int 0, .int 0])), (n 2, .inl (cI, 10, .inl (upd (fun _ => 0) (0 : Int32).toNatClampNeg x1))), (n 3, .inl (cI, 10, .inl (upd (fun _ => 0) (0 : Int32).toNatClampNeg x2))), (n 4, .inl (cI, 10, .inl (upd (fun _ => 0) (0 : Int32).toNatClampNeg x3)))] := hD
      refine lv_aload_n hx hb dX9_mark_59 rfl (lv_at hl 0 rfl) ?_
      refine lv_dup hx hb dX9_mark_60 rfl ?_
      refine va_get (D := D) (ci := 9) (v := .int 0) (C := RX9) (T := TX9) (N := 46) hx hb hts (fun _ h9 => List.mem_cons_of_mem _ (List.mem_append_right _ h9)) hown hK hP 0 rfl rfl 1 (by decide) (hts (.fieldLink RX9 109 "BuoyTenderModel" "marks" "I") (by decide +kernel)) (fun _ h9 => h9) rfl dX9_mark_61 ?_
      refine lv_iconst (v := 1) hx hb dX9_mark_64 (by decide) ?_
      refine lv_iadd hx hb dX9_mark_65 ?_
      refine lv_topi (fun z_9 ez_9 => ?_)
      obtain rfl : z_9 = 1 := ez_9.trans (by decide)
      refine va_put (D := D) (ci := 9) (v := .int 1) (ty := (tyX9 1)) (C := RX9) (T := TX9) (N := 46) hx hb hts (fun _ h9 => List.mem_cons_of_mem _ (List.mem_append_right _ h9)) tyX9 tyX9_ok nmX9 hown hK hP hD hS 0 rfl rfl 1 (by decide) (hts (.fieldLink RX9 109 "BuoyTenderModel" "marks" "I") (by decide +kernel)) (fun _ h9 => h9) rfl (by decide +kernel) rfl rfl (Nat.le_of_ble_eq_true rfl) dX9_mark_66 (fun H locs hP hD hS => ?_)
      have hP : va_P D vwCl [(h0, .inr (9, [.ref (n 0), .int 1, .ref (n 2), .ref (n 3), .ref (n 4), .ref (n 5), .ref (n 6), .int 0, .ref (n 8), .ref (n 9), .ref (n 10), .ref (n 11), .ref (n 12), .ref (n 13), .ref (n 14), .int 0, .int 0, .ref (n 17), .ref (n 18), .ref (n 19), .ref (n 20), .ref (n 21), .ref (n 22), .ref (n 23), .ref (n 24), .ref (n 25), .int 1, .int 0, .int 12, .int 0, .int 0, .int 0, .int 0, .int 1440, .ref (n 34), .ref (n 35), .int 0, .int 0, .int 0, .ref (n 39), .ref (n 40), .ref (n 41), .ref (n 42), .int 0, .int 0, .int 0])), (n 2, .inl (cI, 10, .inl (upd (fun _ => 0) (0 : Int32).toNatClampNeg x1))), (n 3, .inl (cI, 10, .inl (upd (fun _ => 0) (0 : Int32).toNatClampNeg x2))), (n 4, .inl (cI, 10, .inl (upd (fun _ => 0) (0 : Int32).toNatClampNeg x3)))] H := hP
      have hD : va_D A [(h0, .inr (9, [.ref (n 0), .int 1, .ref (n 2), .ref (n 3), .ref (n 4), .ref (n 5), .ref (n 6), .int 0, .ref (n 8), .ref (n 9), .ref (n 10), .ref (n 11), .ref (n 12), .ref (n 13), .ref (n 14), .int 0, .int 0, .ref (n 17), .ref (n 18), .ref (n 19), .ref (n 20), .ref (n 21), .ref (n 22), .ref (n 23), .ref (n 24), .ref (n 25), .int 1, .int 0, .int 12, .int 0, .int 0, .int 0, .int 0, .int 1440, .ref (n 34), .ref (n 35), .int 0, .int 0, .int 0, .ref (n 39), .ref (n 40), .ref (n 41), .ref (n 42), .int 0, .int 0, .int 0])), (n 2, .inl (cI, 10, .inl (upd (fun _ => 0) (0 : Int32).toNatClampNeg x1))), (n 3, .inl (cI, 10, .inl (upd (fun _ => 0) (0 : Int32).toNatClampNeg x2))), (n 4, .inl (cI, 10, .inl (upd (fun _ => 0) (0 : Int32).toNatClampNeg x3)))] := hD
      refine lv_aload_n hx hb dX9_mark_69 rfl (lv_at hl 0 rfl) ?_
      refine lv_iconst (v := 0) hx hb dX9_mark_70 (by decide) ?_
      refine va_put (D := D) (ci := 9) (v := .int 0) (ty := (tyX9 43)) (C := RX9) (T := TX9) (N := 46) hx hb hts (fun _ h9 => List.mem_cons_of_mem _ (List.mem_append_right _ h9)) tyX9 tyX9_ok nmX9 hown hK hP hD hS 0 rfl rfl 43 (by decide) (hts (.fieldLink RX9 116 "BuoyTenderModel" "isKnown" "Z") (by decide +kernel)) (fun _ h9 => h9) rfl (by decide +kernel) rfl rfl (Nat.le_of_ble_eq_true rfl) dX9_mark_71 (fun H locs hP hD hS => ?_)
      have hP : va_P D vwCl [(h0, .inr (9, [.ref (n 0), .int 1, .ref (n 2), .ref (n 3), .ref (n 4), .ref (n 5), .ref (n 6), .int 0, .ref (n 8), .ref (n 9), .ref (n 10), .ref (n 11), .ref (n 12), .ref (n 13), .ref (n 14), .int 0, .int 0, .ref (n 17), .ref (n 18), .ref (n 19), .ref (n 20), .ref (n 21), .ref (n 22), .ref (n 23), .ref (n 24), .ref (n 25), .int 1, .int 0, .int 12, .int 0, .int 0, .int 0, .int 0, .int 1440, .ref (n 34), .ref (n 35), .int 0, .int 0, .int 0, .ref (n 39), .ref (n 40), .ref (n 41), .ref (n 42), .int 0, .int 0, .int 0])), (n 2, .inl (cI, 10, .inl (upd (fun _ => 0) (0 : Int32).toNatClampNeg x1))), (n 3, .inl (cI, 10, .inl (upd (fun _ => 0) (0 : Int32).toNatClampNeg x2))), (n 4, .inl (cI, 10, .inl (upd (fun _ => 0) (0 : Int32).toNatClampNeg x3)))] H := hP
      have hD : va_D A [(h0, .inr (9, [.ref (n 0), .int 1, .ref (n 2), .ref (n 3), .ref (n 4), .ref (n 5), .ref (n 6), .int 0, .ref (n 8), .ref (n 9), .ref (n 10), .ref (n 11), .ref (n 12), .ref (n 13), .ref (n 14), .int 0, .int 0, .ref (n 17), .ref (n 18), .ref (n 19), .ref (n 20), .ref (n 21), .ref (n 22), .ref (n 23), .ref (n 24), .ref (n 25), .int 1, .int 0, .int 12, .int 0, .int 0, .int 0, .int 0, .int 1440, .ref (n 34), .ref (n 35), .int 0, .int 0, .int 0, .ref (n 39), .ref (n 40), .ref (n 41), .ref (n 42), .int 0, .int 0, .int 0])), (n 2, .inl (cI, 10, .inl (upd (fun _ => 0) (0 : Int32).toNatClampNeg x1))), (n 3, .inl (cI, 10, .inl (upd (fun _ => 0) (0 : Int32).toNatClampNeg x2))), (n 4, .inl (cI, 10, .inl (upd (fun _ => 0) (0 : Int32).toNatClampNeg x3)))] := hD
      refine lv_aload_n hx hb dX9_mark_74 rfl (lv_at hl 0 rfl) ?_
      refine va_get (D := D) (ci := 9) (v := .int 1) (C := RX9) (T := TX9) (N := 46) hx hb hts (fun _ h9 => List.mem_cons_of_mem _ (List.mem_append_right _ h9)) hown hK hP 0 rfl rfl 1 (by decide) (hts (.fieldLink RX9 109 "BuoyTenderModel" "marks" "I") (by decide +kernel)) (fun _ h9 => h9) rfl dX9_mark_75 ?_
      refine lv_iconst (v := 1) hx hb dX9_mark_78 (by decide) ?_
      refine lv_isub hx hb dX9_mark_79 ?_
      refine lv_topi (fun z_10 ez_10 => ?_)
      obtain rfl : z_10 = 0 := ez_10.trans (by decide)
      exact W.iret (v := 0) hx hb hr (fun t ht hW => ⟨⟨0, (), rfl, (Or.inl ⟨rfl, h_1, h_3⟩), trivial⟩, hS.F ht⟩) hS.2.2 dX9_mark_80
    refine lv_if_eq (tgt := 27) hx hb dX9_mark_15 (by decide) (fun _ => ?_) (fun c_11 => False.elim (by revert c_11; decide))
    refine lv_iconst (v := (-1)) hx hb dX9_mark_27 (by decide) ?_
    exact W.iret (v := (-1)) hx hb hr (fun t ht hW => ⟨⟨(-1), (), rfl, (Or.inr ⟨rfl, fun h9 => h_3 (h9.2)⟩), trivial⟩, hS.F ht⟩) hS.2.2 dX9_mark_28
  refine lv_if_eq (tgt := 27) hx hb dX9_mark_5 (by decide) (fun _ => ?_) (fun c_12 => False.elim (by revert c_12; decide))
  refine lv_iconst (v := (-1)) hx hb dX9_mark_27 (by decide) ?_
  exact W.iret (v := (-1)) hx hb hr (fun t ht hW => ⟨⟨(-1), (), rfl, (Or.inr ⟨rfl, fun h9 => h_1 (h9.1)⟩), trivial⟩, hS.F ht⟩) hS.2.2 dX9_mark_28
set_option maxHeartbeats 4000000 in
set_option maxRecDepth 100000 in
/-- X9_depth: the inner loop writes its places and goes on; what the row holds then is left open -/
theorem lpi_X9_depth {p : Program} {l : Launch} {e : Env} {R : Room} {s : State} {m : MethodId} {args : Array Value} {below : List Frame} {meth : Method} {c : Code} {cells slots : Nat} {Q : State → Prop} {D : va_G} {cI cJ cZ cM : Nat} {A : Nat → Prop} {h0 : Nat} {n : Nat → Nat} (hx : p.tables.exec = Jvm.exec) (hb : c.code = cX9_depth) (hts : ∀ w ∈ wsX9_depth, w.before args s = true) (hown : s.vm.findClass RX9 = some m.cls) (hK : va_K D vwCl (TY cI cJ cZ cM) s) (hN : NL s) {O OM N NM : Nat} (hM : NM ≤ 39) {x5 : Int32} :
    ∀ (k9 col row : Nat), row ≤ 39 → col + k9 = NM + 1 → ∀ (f : Nat → Int32) (H : Heap) (locs : List Loc) (ls : Array Slot), va_P D vwCl [(h0, .inr (9, [.ref (n 0), .int 0, .ref (n 2), .ref (n 3), .ref (n 4), .ref (n 5), .ref (n 6), .int 0, .ref (n 8), .ref (n 9), .ref (n 10), .ref (n 11), .ref (n 12), .ref (n 13), .ref (n 14), .int 0, .int 0, .ref (n 17), .ref (n 18), .ref (n 19), .ref (n 20), .ref (n 21), .ref (n 22), .ref (n 23), .ref (n 24), .ref (n 25), .int 1, .int 0, .int 12, .int 0, .int 0, .int 0, .int 0, .int 1440, .ref (n 34), .ref (n 35), .int 0, .int 0, .int 0, .ref (n 39), .ref (n 40), .ref (n 41), .ref (n 42), .int 0, .int 0, .int 0])), (n 0, .inl (cI, 1600, .inl f))] H → va_D A [(h0, .inr (9, [.ref (n 0), .int 0, .ref (n 2), .ref (n 3), .ref (n 4), .ref (n 5), .ref (n 6), .int 0, .ref (n 8), .ref (n 9), .ref (n 10), .ref (n 11), .ref (n 12), .ref (n 13), .ref (n 14), .int 0, .int 0, .ref (n 17), .ref (n 18), .ref (n 19), .ref (n 20), .ref (n 21), .ref (n 22), .ref (n 23), .ref (n 24), .ref (n 25), .int 1, .int 0, .int 12, .int 0, .int 0, .int 0, .int 0, .int 1440, .ref (n 34), .ref (n 35), .int 0, .int 0, .int 0, .ref (n 39), .ref (n 40), .ref (n 41), .ref (n 42), .int 0, .int 0, .int 0])), (n 0, .inl (cI, 1600, .inl f))] → va_S A s.heap H locs → lv_has ls 8 [(7, .int (nI col)), (6, .int (nI row)), (0, .ref h0), (1, .int (nI O)), (2, .int (nI N)), (3, .int (nI OM)), (4, .int (nI NM)), (5, .int x5)] → (∀ (f : Nat → Int32) (H : Heap) (locs : List Loc) (ls : Array Slot), va_P D vwCl [(h0, .inr (9, [.ref (n 0), .int 0, .ref (n 2), .ref (n 3), .ref (n 4), .ref (n 5), .ref (n 6), .int 0, .ref (n 8), .ref (n 9), .ref (n 10), .ref (n 11), .ref (n 12), .ref (n 13), .ref (n 14), .int 0, .int 0, .ref (n 17), .ref (n 18), .ref (n 19), .ref (n 20), .ref (n 21), .ref (n 22), .ref (n 23), .ref (n 24), .ref (n 25), .int 1, .int 0, .int 12, .int 0, .int 0, .int 0, .int 0, .int 1440, .ref (n 34), .ref (n 35), .int 0, .int 0, .int 0, .ref (n 39), .ref (n 40), .ref (n 41), .ref (n 42), .int 0, .int 0, .int 0])), (n 0, .inl (cI, 1600, .inl f))] H → va_D A [(h0, .inr (9, [.ref (n 0), .int 0, .ref (n 2), .ref (n 3), .ref (n 4), .ref (n 5), .ref (n 6), .int 0, .ref (n 8), .ref (n 9), .ref (n 10), .ref (n 11), .ref (n 12), .ref (n 13), .ref (n 14), .int 0, .int 0, .ref (n 17), .ref (n 18), .ref (n 19), .ref (n 20), .ref (n 21), .ref (n 22), .ref (n 23), .ref (n 24), .ref (n 25), .int 1, .int 0, .int 12, .int 0, .int 0, .int 0, .int 0, .int 1440, .ref (n 34), .ref (n 35), .int 0, .int 0, .int 0, .ref (n 39), .ref (n 40), .ref (n 41), .ref (n 42), .int 0, .int 0, .int 0])), (n 0, .inl (cI, 1600, .inl f))] → va_S A s.heap H locs → lv_has ls 8 [(6, .int (nI row)), (0, .ref h0), (1, .int (nI O)), (2, .int (nI N)), (3, .int (nI OM)), (4, .int (nI NM)), (5, .int x5)] → W p l e R s m args below meth c H locs cells slots Q (F0 m 82 ls [])) → W p l e R s m args below meth c H locs cells slots Q (F0 m 54 ls []) := by
  intro k9
  induction k9 with
  | zero =>
    intro col row hrow hcol f H locs ls hP hD hS hl kk
    refine lv_iload hx hb dX9_depth_54 (lv_at hl 0 rfl) ?_
    refine lv_iload hx hb dX9_depth_56 (lv_at hl 6 rfl) ?_
    refine lv_icmp_gt (tgt := 82) hx hb dX9_depth_58 (by decide) (fun c_1 => ?_) (fun c_1 => absurd (nI_lt (by omega) (by omega)) c_1)
    exact kk _ _ _ _ hP hD hS (lv_sub hl [1, 2, 3, 4, 5, 6, 7] rfl)
  | succ k9 ih =>
    intro col row hrow hcol f H locs ls hP hD hS hl kk
    refine lv_iload hx hb dX9_depth_54 (lv_at hl 0 rfl) ?_
    refine lv_iload hx hb dX9_depth_56 (lv_at hl 6 rfl) ?_
    refine lv_icmp_gt (tgt := 82) hx hb dX9_depth_58 (by decide) (fun c_1 => absurd c_1 (nI_nlt (by omega) (by omega))) (fun c_1 => ?_)
    refine lv_aload_n hx hb dX9_depth_61 rfl (lv_at hl 2 rfl) ?_
    refine va_get (D := D) (ci := 9) (v := .ref (n 0)) (C := RX9) (T := TX9) (N := 46) hx hb hts (fun _ h9 => List.mem_cons_of_mem _ (List.mem_append_right _ h9)) hown hK hP 0 rfl rfl 0 (by decide) (hts (.fieldLink RX9 7 "BuoyTenderModel" "depth" "[I") (by decide +kernel)) (fun _ h9 => h9) rfl dX9_depth_62 ?_
    refine lv_bipush (v := 40) hx hb dX9_depth_65 (by decide) ?_
    refine lv_iload hx hb dX9_depth_67 (lv_at hl 1 rfl) ?_
    refine lv_imul hx hb dX9_depth_69 ?_
    refine lv_iload hx hb dX9_depth_70 (lv_at hl 0 rfl) ?_
    refine lv_iadd hx hb dX9_depth_72 ?_
    refine lv_iload hx hb dX9_depth_73 (lv_at hl 7 rfl) ?_
    refine va_iast hx hb hK hP hD hS 1 0 rfl rfl (ix_cr (by omega) (by omega)) dX9_depth_75 (fun H locs hP hD hS => ?_)
    have hP : va_P D vwCl [(h0, .inr (9, [.ref (n 0), .int 0, .ref (n 2), .ref (n 3), .ref (n 4), .ref (n 5), .ref (n 6), .int 0, .ref (n 8), .ref (n 9), .ref (n 10), .ref (n 11), .ref (n 12), .ref (n 13), .ref (n 14), .int 0, .int 0, .ref (n 17), .ref (n 18), .ref (n 19), .ref (n 20), .ref (n 21), .ref (n 22), .ref (n 23), .ref (n 24), .ref (n 25), .int 1, .int 0, .int 12, .int 0, .int 0, .int 0, .int 0, .int 1440, .ref (n 34), .ref (n 35), .int 0, .int 0, .int 0, .ref (n 39), .ref (n 40), .ref (n 41), .ref (n 42), .int 0, .int 0, .int 0])), (n 0, .inl (cI, 1600, .inl (upd f ((40 * (nI row)) + (nI col)).toNatClampNeg x5)))] H := hP
    have hD : va_D A [(h0, .inr (9, [.ref (n 0), .int 0, .ref (n 2), .ref (n 3), .ref (n 4), .ref (n 5), .ref (n 6), .int 0, .ref (n 8), .ref (n 9), .ref (n 10), .ref (n 11), .ref (n 12), .ref (n 13), .ref (n 14), .int 0, .int 0, .ref (n 17), .ref (n 18), .ref (n 19), .ref (n 20), .ref (n 21), .ref (n 22), .ref (n 23), .ref (n 24), .ref (n 25), .int 1, .int 0, .int 12, .int 0, .int 0, .int 0, .int 0, .int 1440, .ref (n 34), .ref (n 35), .int 0, .int 0, .int 0, .ref (n 39), .ref (n 40), .ref (n 41), .ref (n 42), .int 0, .int 0, .int 0])), (n 0, .inl (cI, 1600, .inl (upd f ((40 * (nI row)) + (nI col)).toNatClampNeg x5)))] := hD
    refine lv_iinc (v := (nI (col + 1))) (lv' := [(7, .int (nI (col + 1))), (6, .int (nI row)), (0, .ref h0), (1, .int (nI O)), (2, .int (nI N)), (3, .int (nI OM)), (4, .int (nI NM)), (5, .int x5)]) hx hb dX9_depth_76 hl (k := 0) rfl (nI_1 col) (by decide) rfl (fun ls hl => ?_)
    refine lv_goto (tgt := 54) hx hb dX9_depth_79 (by decide) ?_
    exact ih (col + 1) row hrow (by omega) _ _ _ _ hP hD hS (lv_sub hl [0, 1, 2, 3, 4, 5, 6, 7] rfl) kk
set_option maxHeartbeats 4000000 in
set_option maxRecDepth 100000 in
/-- X9_depth: the outer loop -/
theorem lpo_X9_depth {p : Program} {l : Launch} {e : Env} {R : Room} {s : State} {m : MethodId} {args : Array Value} {below : List Frame} {meth : Method} {c : Code} {cells slots : Nat} {Q : State → Prop} {D : va_G} {cI cJ cZ cM : Nat} {A : Nat → Prop} {h0 : Nat} {n : Nat → Nat} (hx : p.tables.exec = Jvm.exec) (hb : c.code = cX9_depth) (hts : ∀ w ∈ wsX9_depth, w.before args s = true) (hown : s.vm.findClass RX9 = some m.cls) (hK : va_K D vwCl (TY cI cJ cZ cM) s) (hN : NL s) {O OM N NM : Nat} (hM : NM ≤ 39) (hOM : OM ≤ 39) (hNN : N ≤ NM) {x5 : Int32} :
    ∀ (k9 row : Nat), row + k9 = OM + 1 → ∀ (f : Nat → Int32) (H : Heap) (locs : List Loc) (ls : Array Slot), va_P D vwCl [(h0, .inr (9, [.ref (n 0), .int 0, .ref (n 2), .ref (n 3), .ref (n 4), .ref (n 5), .ref (n 6), .int 0, .ref (n 8), .ref (n 9), .ref (n 10), .ref (n 11), .ref (n 12), .ref (n 13), .ref (n 14), .int 0, .int 0, .ref (n 17), .ref (n 18), .ref (n 19), .ref (n 20), .ref (n 21), .ref (n 22), .ref (n 23), .ref (n 24), .ref (n 25), .int 1, .int 0, .int 12, .int 0, .int 0, .int 0, .int 0, .int 1440, .ref (n 34), .ref (n 35), .int 0, .int 0, .int 0, .ref (n 39), .ref (n 40), .ref (n 41), .ref (n 42), .int 0, .int 0, .int 0])), (n 0, .inl (cI, 1600, .inl f))] H → va_D A [(h0, .inr (9, [.ref (n 0), .int 0, .ref (n 2), .ref (n 3), .ref (n 4), .ref (n 5), .ref (n 6), .int 0, .ref (n 8), .ref (n 9), .ref (n 10), .ref (n 11), .ref (n 12), .ref (n 13), .ref (n 14), .int 0, .int 0, .ref (n 17), .ref (n 18), .ref (n 19), .ref (n 20), .ref (n 21), .ref (n 22), .ref (n 23), .ref (n 24), .ref (n 25), .int 1, .int 0, .int 12, .int 0, .int 0, .int 0, .int 0, .int 1440, .ref (n 34), .ref (n 35), .int 0, .int 0, .int 0, .ref (n 39), .ref (n 40), .ref (n 41), .ref (n 42), .int 0, .int 0, .int 0])), (n 0, .inl (cI, 1600, .inl f))] → va_S A s.heap H locs → lv_has ls 8 [(6, .int (nI row)), (0, .ref h0), (1, .int (nI O)), (2, .int (nI N)), (3, .int (nI OM)), (4, .int (nI NM)), (5, .int x5)] → (∀ (f : Nat → Int32) (H : Heap) (locs : List Loc) (ls : Array Slot), va_P D vwCl [(h0, .inr (9, [.ref (n 0), .int 0, .ref (n 2), .ref (n 3), .ref (n 4), .ref (n 5), .ref (n 6), .int 0, .ref (n 8), .ref (n 9), .ref (n 10), .ref (n 11), .ref (n 12), .ref (n 13), .ref (n 14), .int 0, .int 0, .ref (n 17), .ref (n 18), .ref (n 19), .ref (n 20), .ref (n 21), .ref (n 22), .ref (n 23), .ref (n 24), .ref (n 25), .int 1, .int 0, .int 12, .int 0, .int 0, .int 0, .int 0, .int 1440, .ref (n 34), .ref (n 35), .int 0, .int 0, .int 0, .ref (n 39), .ref (n 40), .ref (n 41), .ref (n 42), .int 0, .int 0, .int 0])), (n 0, .inl (cI, 1600, .inl f))] H → va_D A [(h0, .inr (9, [.ref (n 0), .int 0, .ref (n 2), .ref (n 3), .ref (n 4), .ref (n 5), .ref (n 6), .int 0, .ref (n 8), .ref (n 9), .ref (n 10), .ref (n 11), .ref (n 12), .ref (n 13), .ref (n 14), .int 0, .int 0, .ref (n 17), .ref (n 18), .ref (n 19), .ref (n 20), .ref (n 21), .ref (n 22), .ref (n 23), .ref (n 24), .ref (n 25), .int 1, .int 0, .int 12, .int 0, .int 0, .int 0, .int 0, .int 1440, .ref (n 34), .ref (n 35), .int 0, .int 0, .int 0, .ref (n 39), .ref (n 40), .ref (n 41), .ref (n 42), .int 0, .int 0, .int 0])), (n 0, .inl (cI, 1600, .inl f))] → va_S A s.heap H locs → lv_has ls 8 [(0, .ref h0), (1, .int (nI O)), (2, .int (nI N)), (3, .int (nI OM)), (4, .int (nI NM)), (5, .int x5)] → W p l e R s m args below meth c H locs cells slots Q (F0 m 88 ls [])) → W p l e R s m args below meth c H locs cells slots Q (F0 m 45 ls []) := by
  intro k9
  induction k9 with
  | zero =>
    intro row hrow f H locs ls hP hD hS hl kk
    refine lv_iload hx hb dX9_depth_45 (lv_at hl 0 rfl) ?_
    refine lv_iload_n hx hb dX9_depth_47 rfl (lv_at hl 4 rfl) ?_
    refine lv_icmp_gt (tgt := 88) hx hb dX9_depth_48 (by decide) (fun c_1 => ?_) (fun c_1 => absurd (nI_lt (by omega) (by omega)) c_1)
    exact kk _ _ _ _ hP hD hS (lv_sub hl [1, 2, 3, 4, 5, 6] rfl)
  | succ k9 ih =>
    intro row hrow f H locs ls hP hD hS hl kk
    refine lv_iload hx hb dX9_depth_45 (lv_at hl 0 rfl) ?_
    refine lv_iload_n hx hb dX9_depth_47 rfl (lv_at hl 4 rfl) ?_
    refine lv_icmp_gt (tgt := 88) hx hb dX9_depth_48 (by decide) (fun c_1 => absurd c_1 (nI_nlt (by omega) (by omega))) (fun c_1 => ?_)
    refine lv_iload_n hx hb dX9_depth_51 rfl (lv_at hl 3 rfl) ?_
    refine lv_istore (lv' := [(7, .int (nI N)), (6, .int (nI row)), (0, .ref h0), (1, .int (nI O)), (2, .int (nI N)), (3, .int (nI OM)), (4, .int (nI NM)), (5, .int x5)]) hx hb dX9_depth_52 hl (by decide) rfl (fun ls hl => ?_)
    refine lpi_X9_depth hx hb hts hown hK hN hM (NM + 1 - N) N row (by omega) (by omega) _ _ _ _ hP hD hS (lv_sub hl [0, 1, 2, 3, 4, 5, 6, 7] rfl) (fun f H locs ls hP hD hS hl => ?_)
    refine lv_iinc (v := (nI (row + 1))) (lv' := [(6, .int (nI (row + 1))), (0, .ref h0), (1, .int (nI O)), (2, .int (nI N)), (3, .int (nI OM)), (4, .int (nI NM)), (5, .int x5)]) hx hb dX9_depth_82 hl (k := 0) rfl (nI_1 row) (by decide) rfl (fun ls hl => ?_)
    refine lv_goto (tgt := 45) hx hb dX9_depth_85 (by decide) ?_
    exact ih (row + 1) (by omega) _ _ _ _ hP hD hS (lv_sub hl [0, 1, 2, 3, 4, 5, 6] rfl) kk
set_option maxHeartbeats 4000000 in
set_option maxRecDepth 100000 in
/-- depth of a fresh reference -/
theorem k_X9_depth (l : Launch) (D : va_G) (cI cJ cZ cM : Nat) (h0 : Nat) (n : Nat → Nat) (x1 : Int32) (x2 : Int32) (x3 : Int32) (x4 : Int32) (x5 : Int32) (sz : Nat) : Met l yX9_depth wsX9_depth ({ frames := 2, cells := 0, slots := 0, locals := 43 } : Room) (RW D cI cJ cZ cM [.ref h0, .int x1, .int x2, .int x3, .int x4, .int x5] [(h0, .inr (9, [.ref (n 0), .int 0, .ref (n 2), .ref (n 3), .ref (n 4), .ref (n 5), .ref (n 6), .int 0, .ref (n 8), .ref (n 9), .ref (n 10), .ref (n 11), .ref (n 12), .ref (n 13), .ref (n 14), .int 0, .int 0, .ref (n 17), .ref (n 18), .ref (n 19), .ref (n 20), .ref (n 21), .ref (n 22), .ref (n 23), .ref (n 24), .ref (n 25), .int 1, .int 0, .int 12, .int 0, .int 0, .int 0, .int 0, .int 1440, .ref (n 34), .ref (n 35), .int 0, .int 0, .int 0, .ref (n 39), .ref (n 40), .ref (n 41), .ref (n 42), .int 0, .int 0, .int 0])), (n 0, .inl (cI, 1600, .inl (fun _ => 0)))] sz) (va_Qi (S := Unit) (fun r u => okI 1 0 (placeP x1 x2 ∧ placeP x3 x4 ∧ ¬ x3 < x1 ∧ ¬ x4 < x2 ∧ (0 ≤ x5 ∧ x5 ≤ 200)) r) (fun _ _ => True) (va_A [(h0, .inr (9, [.ref (n 0), .int 0, .ref (n 2), .ref (n 3), .ref (n 4), .ref (n 5), .ref (n 6), .int 0, .ref (n 8), .ref (n 9), .ref (n 10), .ref (n 11), .ref (n 12), .ref (n 13), .ref (n 14), .int 0, .int 0, .ref (n 17), .ref (n 18), .ref (n 19), .ref (n 20), .ref (n 21), .ref (n 22), .ref (n 23), .ref (n 24), .ref (n 25), .int 1, .int 0, .int 12, .int 0, .int 0, .int 0, .int 0, .int 1440, .ref (n 34), .ref (n 35), .int 0, .int 0, .int 0, .ref (n 39), .ref (n 40), .ref (n 41), .ref (n 42), .int 0, .int 0, .int 0])), (n 0, .inl (cI, 1600, .inl (fun _ => 0)))] sz)) 0 0 (va_A [(h0, .inr (9, [.ref (n 0), .int 0, .ref (n 2), .ref (n 3), .ref (n 4), .ref (n 5), .ref (n 6), .int 0, .ref (n 8), .ref (n 9), .ref (n 10), .ref (n 11), .ref (n 12), .ref (n 13), .ref (n 14), .int 0, .int 0, .ref (n 17), .ref (n 18), .ref (n 19), .ref (n 20), .ref (n 21), .ref (n 22), .ref (n 23), .ref (n 24), .ref (n 25), .int 1, .int 0, .int 12, .int 0, .int 0, .int 0, .int 0, .int 1440, .ref (n 34), .ref (n 35), .int 0, .int 0, .int 0, .ref (n 39), .ref (n 40), .ref (n 41), .ref (n 42), .int 0, .int 0, .int 0])), (n 0, .inl (cI, 1600, .inl (fun _ => 0)))] sz) := by
  refine Met.ofW (cc := cX9_depth) (maxL := 8) (ret := (some .boolean)) (by decide) rfl ?_
  intro p e s m args below meth c s₁ B hml hv
  obtain ⟨rfl, hsz, hG, hP, hD0⟩ := hv
  have hx := B.exec
  have hb := B.bytes
  have hr := B.returns
  have hts := atoms_spec (ws := wsX9_depth) B.pre
  have hown : s.vm.findClass RX9 = some m.cls := findClass_of_methodNamed B.named
  have hlocks := B.notSynchronized
  have hK := hG.1
  have hN := hG.2
  subst hsz
  have hD := hD0.self (sz := s.heap.size)
  generalize hAe : va_A [(h0, .inr (9, [.ref (n 0), .int 0, .ref (n 2), .ref (n 3), .ref (n 4), .ref (n 5), .ref (n 6), .int 0, .ref (n 8), .ref (n 9), .ref (n 10), .ref (n 11), .ref (n 12), .ref (n 13), .ref (n 14), .int 0, .int 0, .ref (n 17), .ref (n 18), .ref (n 19), .ref (n 20), .ref (n 21), .ref (n 22), .ref (n 23), .ref (n 24), .ref (n 25), .int 1, .int 0, .int 12, .int 0, .int 0, .int 0, .int 0, .int 1440, .ref (n 34), .ref (n 35), .int 0, .int 0, .int 0, .ref (n 39), .ref (n 40), .ref (n 41), .ref (n 42), .int 0, .int 0, .int 0])), (n 0, .inl (cI, 1600, .inl (fun _ => 0)))] s.heap.size = A at hD ⊢
  have hA : ∀ q : Nat, s.heap.size ≤ q → A q := fun q h => by rw [← hAe]; exact Or.inr h
  have hS : va_S A s.heap s.heap [] := va_S.rf
  have hP : va_P D vwCl [(h0, .inr (9, [.ref (n 0), .int 0, .ref (n 2), .ref (n 3), .ref (n 4), .ref (n 5), .ref (n 6), .int 0, .ref (n 8), .ref (n 9), .ref (n 10), .ref (n 11), .ref (n 12), .ref (n 13), .ref (n 14), .int 0, .int 0, .ref (n 17), .ref (n 18), .ref (n 19), .ref (n 20), .ref (n 21), .ref (n 22), .ref (n 23), .ref (n 24), .ref (n 25), .int 1, .int 0, .int 12, .int 0, .int 0, .int 0, .int 0, .int 1440, .ref (n 34), .ref (n 35), .int 0, .int 0, .int 0, .ref (n 39), .ref (n 40), .ref (n 41), .ref (n 42), .int 0, .int 0, .int 0])), (n 0, .inl (cI, 1600, .inl (fun _ => 0)))] s.heap := hP
  have hl := lv_entry ([.ref h0, .int x1, .int x2, .int x3, .int x4, .int x5]) (n := 8) (Nat.le_of_ble_eq_true rfl)
  rw [lg_entry_eq]
  generalize (lg_sl ([.ref h0, .int x1, .int x2, .int x3, .int x4, .int x5]) ++ List.replicate (8 - (lg_sl ([.ref h0, .int x1, .int x2, .int x3, .int x4, .int x5])).length) Slot.unset).toArray = ls at hl ⊢
  have hl : lv_has ls 8 [(0, .ref h0), (1, .int x1), (2, .int x2), (3, .int x3), (4, .int x4), (5, .int x5)] := hl
  refine lv_iload_n hx hb dX9_depth_0 rfl (lv_at hl 1 rfl) ?_
  refine lv_iload_n hx hb dX9_depth_1 rfl (lv_at hl 2 rfl) ?_
  refine vp_callSi (va_Run.run (va_runS (As := [.int x1, .int x2]) (rest := []) ⟨hx, hb, hml, hown, hts⟩ (k_X9_isPlace l x1 x2) (va_cwS 2 hts gX9_depth_X9_isPlace rfl rfl rfl (by decide +kernel) ⟨Nat.le_of_ble_eq_true rfl, Nat.le_of_ble_eq_true rfl⟩) preEq rfl rfl hl.1 rfl (lv_room (Nat.le_of_ble_eq_true rfl)) dX9_depth_2 ⟨Nat.le_of_ble_eq_true rfl, Nat.le_of_ble_eq_true rfl⟩)) (fun r_1 h_1 => ?_)
  rcases h_1 with ⟨rfl, h_1⟩ | ⟨rfl, h_1⟩
  · refine lv_if_eq (tgt := 40) hx hb dX9_depth_5 (by decide) (fun c_2 => False.elim (by revert c_2; decide)) (fun _ => ?_)
    refine lv_iload_n hx hb dX9_depth_8 rfl (lv_at hl 3 rfl) ?_
    refine lv_iload hx hb dX9_depth_9 (lv_at hl 4 rfl) ?_
    refine vp_callSi (va_Run.run (va_runS (As := [.int x3, .int x4]) (rest := []) ⟨hx, hb, hml, hown, hts⟩ (k_X9_isPlace l x3 x4) (va_cwS 2 hts gX9_depth_X9_isPlace rfl rfl rfl (by decide +kernel) ⟨Nat.le_of_ble_eq_true rfl, Nat.le_of_ble_eq_true rfl⟩) preEq rfl rfl hl.1 rfl (lv_room (Nat.le_of_ble_eq_true rfl)) dX9_depth_11 ⟨Nat.le_of_ble_eq_true rfl, Nat.le_of_ble_eq_true rfl⟩)) (fun r_3 h_3 => ?_)
    rcases h_3 with ⟨rfl, h_3⟩ | ⟨rfl, h_3⟩
    · refine lv_if_eq (tgt := 40) hx hb dX9_depth_14 (by decide) (fun c_4 => False.elim (by revert c_4; decide)) (fun _ => ?_)
      refine lv_iload_n hx hb dX9_depth_17 rfl (lv_at hl 1 rfl) ?_
      refine lv_iload_n hx hb dX9_depth_18 rfl (lv_at hl 3 rfl) ?_
      refine lv_icmp_gt (tgt := 40) hx hb dX9_depth_19 (by decide) (fun c_5 => ?_) (fun c_5 => ?_)
      · refine lv_iconst (v := 0) hx hb dX9_depth_40 (by decide) ?_
        exact W.zret (v := 0) hx hb hr rfl (fun t ht hW => ⟨⟨0, (), rfl, (Or.inr ⟨rfl, fun h9 => h9.2.2.1 c_5⟩), trivial⟩, hS.F ht⟩) hS.2.2 dX9_depth_41
      refine lv_iload_n hx hb dX9_depth_22 rfl (lv_at hl 2 rfl) ?_
      refine lv_iload hx hb dX9_depth_23 (lv_at hl 4 rfl) ?_
      refine lv_icmp_gt (tgt := 40) hx hb dX9_depth_25 (by decide) (fun c_6 => ?_) (fun c_6 => ?_)
      · refine lv_iconst (v := 0) hx hb dX9_depth_40 (by decide) ?_
        exact W.zret (v := 0) hx hb hr rfl (fun t ht hW => ⟨⟨0, (), rfl, (Or.inr ⟨rfl, fun h9 => h9.2.2.2.1 c_6⟩), trivial⟩, hS.F ht⟩) hS.2.2 dX9_depth_41
      refine lv_iload hx hb dX9_depth_28 (lv_at hl 5 rfl) ?_
      refine lv_iconst (v := 0) hx hb dX9_depth_30 (by decide) ?_
      refine lv_sipush (v := 200) hx hb dX9_depth_31 (by decide) ?_
      refine vp_callSi (va_Run.run (va_runS (As := [.int x5, .int 0, .int 200]) (rest := []) ⟨hx, hb, hml, hown, hts⟩ (k_X9_in l x5 0 200) (va_cwS 3 hts gX9_depth_X9_in rfl rfl rfl (by decide +kernel) ⟨Nat.le_of_ble_eq_true rfl, Nat.le_of_ble_eq_true rfl⟩) preEq rfl rfl hl.1 rfl (lv_room (Nat.le_of_ble_eq_true rfl)) dX9_depth_34 ⟨Nat.le_of_ble_eq_true rfl, Nat.le_of_ble_eq_true rfl⟩)) (fun r_7 h_7 => ?_)
      rcases h_7 with ⟨rfl, h_7⟩ | ⟨rfl, h_7⟩
      · refine lv_if_ne (tgt := 42) hx hb dX9_depth_37 (by decide) (fun _ => ?_) (fun c_8 => False.elim (by revert c_8; decide))
        refine lv_iload_n hx hb dX9_depth_42 rfl (lv_at hl 1 rfl) ?_
        refine lv_istore (lv' := [(6, .int x1), (0, .ref h0), (1, .int x1), (2, .int x2), (3, .int x3), (4, .int x4), (5, .int x5)]) hx hb dX9_depth_43 hl (by decide) rfl (fun ls hl => ?_)
        obtain ⟨O, hqO, rfl⟩ := nI_of2 (M := 39) (n := 39) (by decide) (Int32.not_lt.mpr h_1.1.1) h_1.1.2
        obtain ⟨N, hqN, rfl⟩ := nI_of2 (M := 39) (n := 39) (by decide) (Int32.not_lt.mpr h_1.2.1) h_1.2.2
        obtain ⟨OM, hqOM, rfl⟩ := nI_of2 (M := 39) (n := 39) (by decide) (Int32.not_lt.mpr h_3.1.1) h_3.1.2
        obtain ⟨NM, hqNM, rfl⟩ := nI_of2 (M := 39) (n := 39) (by decide) (Int32.not_lt.mpr h_3.2.1) h_3.2.2
        have hlo : O ≤ OM := Nat.le_of_not_lt (fun q => c_5 (nI_lt q (by omega)))
        have hln : N ≤ NM := Nat.le_of_not_lt (fun q => c_6 (nI_lt q (by omega)))
        refine lpo_X9_depth hx hb hts hown hK hN hqNM hqOM hln (OM + 1 - O) O (by omega) _ _ _ _ hP hD hS (lv_sub hl [0, 1, 2, 3, 4, 5, 6] rfl) (fun f H locs ls hP hD hS hl => ?_)
        refine lv_aload_n hx hb dX9_depth_88 rfl (lv_at hl 0 rfl) ?_
        refine lv_iconst (v := 0) hx hb dX9_depth_89 (by decide) ?_
        refine va_put (D := D) (ci := 9) (v := .int 0) (ty := (tyX9 43)) (C := RX9) (T := TX9) (N := 46) hx hb hts (fun _ h9 => List.mem_cons_of_mem _ (List.mem_append_right _ h9)) tyX9 tyX9_ok nmX9 hown hK hP hD hS 0 rfl rfl 43 (by decide) (hts (.fieldLink RX9 116 "BuoyTenderModel" "isKnown" "Z") (by decide +kernel)) (fun _ h9 => h9) rfl (by decide +kernel) rfl rfl (Nat.le_of_ble_eq_true rfl) dX9_depth_90 (fun H locs hP hD hS => ?_)
        have hP : va_P D vwCl [(h0, .inr (9, [.ref (n 0), .int 0, .ref (n 2), .ref (n 3), .ref (n 4), .ref (n 5), .ref (n 6), .int 0, .ref (n 8), .ref (n 9), .ref (n 10), .ref (n 11), .ref (n 12), .ref (n 13), .ref (n 14), .int 0, .int 0, .ref (n 17), .ref (n 18), .ref (n 19), .ref (n 20), .ref (n 21), .ref (n 22), .ref (n 23), .ref (n 24), .ref (n 25), .int 1, .int 0, .int 12, .int 0, .int 0, .int 0, .int 0, .int 1440, .ref (n 34), .ref (n 35), .int 0, .int 0, .int 0, .ref (n 39), .ref (n 40), .ref (n 41), .ref (n 42), .int 0, .int 0, .int 0])), (n 0, .inl (cI, 1600, .inl f))] H := hP
        have hD : va_D A [(h0, .inr (9, [.ref (n 0), .int 0, .ref (n 2), .ref (n 3), .ref (n 4), .ref (n 5), .ref (n 6), .int 0, .ref (n 8), .ref (n 9), .ref (n 10), .ref (n 11), .ref (n 12), .ref (n 13), .ref (n 14), .int 0, .int 0, .ref (n 17), .ref (n 18), .ref (n 19), .ref (n 20), .ref (n 21), .ref (n 22), .ref (n 23), .ref (n 24), .ref (n 25), .int 1, .int 0, .int 12, .int 0, .int 0, .int 0, .int 0, .int 1440, .ref (n 34), .ref (n 35), .int 0, .int 0, .int 0, .ref (n 39), .ref (n 40), .ref (n 41), .ref (n 42), .int 0, .int 0, .int 0])), (n 0, .inl (cI, 1600, .inl f))] := hD
        refine lv_iconst (v := 1) hx hb dX9_depth_93 (by decide) ?_
        exact W.zret (v := 1) hx hb hr rfl (fun t ht hW => ⟨⟨1, (), rfl, (Or.inl ⟨rfl, h_1, h_3, c_5, c_6, h_7⟩), trivial⟩, hS.F ht⟩) hS.2.2 dX9_depth_94
      refine lv_if_ne (tgt := 42) hx hb dX9_depth_37 (by decide) (fun c_9 => False.elim (by revert c_9; decide)) (fun _ => ?_)
      refine lv_iconst (v := 0) hx hb dX9_depth_40 (by decide) ?_
      exact W.zret (v := 0) hx hb hr rfl (fun t ht hW => ⟨⟨0, (), rfl, (Or.inr ⟨rfl, fun h9 => h_7 (h9.2.2.2.2)⟩), trivial⟩, hS.F ht⟩) hS.2.2 dX9_depth_41
    refine lv_if_eq (tgt := 40) hx hb dX9_depth_14 (by decide) (fun _ => ?_) (fun c_10 => False.elim (by revert c_10; decide))
    refine lv_iconst (v := 0) hx hb dX9_depth_40 (by decide) ?_
    exact W.zret (v := 0) hx hb hr rfl (fun t ht hW => ⟨⟨0, (), rfl, (Or.inr ⟨rfl, fun h9 => h_3 (h9.2.1)⟩), trivial⟩, hS.F ht⟩) hS.2.2 dX9_depth_41
  refine lv_if_eq (tgt := 40) hx hb dX9_depth_5 (by decide) (fun _ => ?_) (fun c_11 => False.elim (by revert c_11; decide))
  refine lv_iconst (v := 0) hx hb dX9_depth_40 (by decide) ?_
  exact W.zret (v := 0) hx hb hr rfl (fun t ht hW => ⟨⟨0, (), rfl, (Or.inr ⟨rfl, fun h9 => h_1 (h9.1)⟩), trivial⟩, hS.F ht⟩) hS.2.2 dX9_depth_41
