set_option maxHeartbeats 4000000 in
set_option maxRecDepth 100000 in
/-- X8_thisMonth -/
theorem k_X8_thisMonth (l : Launch) (D : va_G) (cI cJ cZ cM : Nat) (h0 : Nat) (a : Nat → Nat) (iv : Nat → Int32) (av : Nat → Nat → Int32) (T : Nat) (h_T : iv 1 = nI T) (hT : T ≤ 10000) : Met l yX8_thisMonth wsX8_thisMonth ({ frames := 0, cells := 0, slots := 0, locals := 0 } : Room) (RO D cI cJ cZ cM [.ref h0] [(h0, .inr (8, [.ref (a 1), .ref (a 2), .ref (a 3), .ref (a 4), .ref (a 5), .ref (a 6), .ref (a 7), .ref (a 8), .int (iv 0), .int (iv 1), .int (iv 2), .int (iv 3)]))]) (vp_Si (fun r => r = nI (T / 30))) 0 0 (fun _ => False) := by
  refine Met.ofW (cc := cX8_thisMonth) (maxL := 1) (ret := (some .int)) (by decide) rfl ?_
  intro p e s m args below meth c s₁ B hml hv
  obtain ⟨rfl, hG, hP⟩ := hv
  have hx := B.exec
  have hb := B.bytes
  have hr := B.returns
  have hts := atoms_spec (ws := wsX8_thisMonth) B.pre
  have hown : s.vm.findClass RX8 = some m.cls := findClass_of_methodNamed B.named
  have hlocks := B.notSynchronized
  have hK := hG.1
  have hN := hG.2
  have hl := lv_entry ([.ref h0]) (n := 1) (Nat.le_of_ble_eq_true rfl)
  rw [lg_entry_eq]
  generalize (lg_sl ([.ref h0]) ++ List.replicate (1 - (lg_sl ([.ref h0])).length) Slot.unset).toArray = ls at hl ⊢
  have hl : lv_has ls 1 [(0, .ref h0)] := hl
  refine lv_aload_n hx hb dX8_thisMonth_0 rfl (lv_at hl 0 rfl) ?_
  refine va_get (D := D) (ci := 8) (v := .int (iv 1)) (C := RX8) (T := TX8) (N := 12) hx hb hts (fun _ h9 => List.mem_cons_of_mem _ (List.mem_append_right _ h9)) hown hK hP 0 rfl rfl 9 (by decide) (hts (.fieldLink RX8 120 "BuoyTender" "today" "I") (by decide +kernel)) (fun _ h9 => h9) rfl dX8_thisMonth_1 ?_
  refine lv_topi (fun z_1 ez_1 => ?_)
  obtain rfl : z_1 = nI T := ez_1.trans h_T
  refine lv_bipush (v := 30) hx hb dX8_thisMonth_4 (by decide) ?_
  refine lv_idiv hx hb dX8_thisMonth_6 (by decide) ?_
  refine lv_topi (fun z_2 ez_2 => ?_)
  obtain rfl : z_2 = nI (T / 30) := ez_2.trans (pk_div (by omega) (by decide) (by decide))
  exact W.iret (v := (nI (T / 30))) hx hb hr (fun t ht hW => ⟨(nI (T / 30)), rfl, rfl, ht⟩) (fun _ h => by cases h) dX8_thisMonth_7
set_option maxHeartbeats 4000000 in
set_option maxRecDepth 100000 in
/-- a chain is set -/
theorem k_X0_lay (l : Launch) (D : va_G) (cI cJ cZ cM : Nat) (s0 : Nat) (y1 : Int32) (y2 : Int32) (y3 : Int32) (y4 : Int32) (y5 : Int32) (x1 : Int32) (x2 : Int32) (x3 : Int32) (x4 : Int32) (sz : Nat) : Met l yX0_lay wsX0_lay ({ frames := 0, cells := 0, slots := 0, locals := 0 } : Room) (RW D cI cJ cZ cM [.ref s0, .int x1, .int x2, .int x3, .int x4] [(s0, .inr (0, [.int y1, .int y2, .int y3, .int y4, .int y5]))] sz) (va_Qv (S := Unit) (fun u => True) (BB D (fun _ => [(s0, .inr (0, [.int 1, .int x1, .int x2, .int x3, .int x4]))]) (va_A [(s0, .inr (0, [.int y1, .int y2, .int y3, .int y4, .int y5]))] sz)) (va_A [(s0, .inr (0, [.int y1, .int y2, .int y3, .int y4, .int y5]))] sz)) 0 0 (va_A [(s0, .inr (0, [.int y1, .int y2, .int y3, .int y4, .int y5]))] sz) := by
  refine Met.ofW (cc := cX0_lay) (maxL := 5) (ret := none) (by decide) rfl ?_
  intro p e s m args below meth c s₁ B hml hv
  obtain ⟨rfl, hsz, hG, hP, hD0⟩ := hv
  have hx := B.exec
  have hb := B.bytes
  have hr := B.returns
  have hts := atoms_spec (ws := wsX0_lay) B.pre
  have hown : s.vm.findClass RX0 = some m.cls := findClass_of_methodNamed B.named
  have hlocks := B.notSynchronized
  have hK := hG.1
  have hN := hG.2
  subst hsz
  have hD := hD0.self (sz := s.heap.size)
  generalize hAe : va_A [(s0, .inr (0, [.int y1, .int y2, .int y3, .int y4, .int y5]))] s.heap.size = A at hD ⊢
  have hA : ∀ q : Nat, s.heap.size ≤ q → A q := fun q h => by rw [← hAe]; exact Or.inr h
  have hS : va_S A s.heap s.heap [] := va_S.rf
  have hP : va_P D vwCl [(s0, .inr (0, [.int y1, .int y2, .int y3, .int y4, .int y5]))] s.heap := hP
  have hl := lv_entry ([.ref s0, .int x1, .int x2, .int x3, .int x4]) (n := 5) (Nat.le_of_ble_eq_true rfl)
  rw [lg_entry_eq]
  generalize (lg_sl ([.ref s0, .int x1, .int x2, .int x3, .int x4]) ++ List.replicate (5 - (lg_sl ([.ref s0, .int x1, .int x2, .int x3, .int x4])).length) Slot.unset).toArray = ls at hl ⊢
  have hl : lv_has ls 5 [(0, .ref s0), (1, .int x1), (2, .int x2), (3, .int x3), (4, .int x4)] := hl
  refine lv_aload_n hx hb dX0_lay_0 rfl (lv_at hl 0 rfl) ?_
  refine lv_iconst (v := 1) hx hb dX0_lay_1 (by decide) ?_
  refine va_put (D := D) (ci := 0) (v := .int 1) (ty := (tyX0 0)) (C := RX0) (T := TX0) (N := 5) hx hb hts (fun _ h9 => List.mem_cons_of_mem _ (List.mem_append_right _ h9)) tyX0 tyX0_ok nmX0 hown hK hP hD hS 0 rfl rfl 0 (by decide) (hts (.fieldLink RX0 9 "BuoyTender$Chain" "laid" "Z") (by decide +kernel)) (fun _ h9 => h9) rfl (by decide +kernel) rfl rfl (Nat.le_of_ble_eq_true rfl) dX0_lay_2 (fun H locs hP hD hS => ?_)
  have hP : va_P D vwCl [(s0, .inr (0, [.int 1, .int y2, .int y3, .int y4, .int y5]))] H := hP
  have hD : va_D A [(s0, .inr (0, [.int 1, .int y2, .int y3, .int y4, .int y5]))] := hD
  refine lv_aload_n hx hb dX0_lay_5 rfl (lv_at hl 0 rfl) ?_
  refine lv_iload_n hx hb dX0_lay_6 rfl (lv_at hl 1 rfl) ?_
  refine va_put (D := D) (ci := 0) (v := .int x1) (ty := (tyX0 1)) (C := RX0) (T := TX0) (N := 5) hx hb hts (fun _ h9 => List.mem_cons_of_mem _ (List.mem_append_right _ h9)) tyX0 tyX0_ok nmX0 hown hK hP hD hS 0 rfl rfl 1 (by decide) (hts (.fieldLink RX0 15 "BuoyTender$Chain" "thickness" "I") (by decide +kernel)) (fun _ h9 => h9) rfl (by decide +kernel) rfl rfl (Nat.le_of_ble_eq_true rfl) dX0_lay_7 (fun H locs hP hD hS => ?_)
  have hP : va_P D vwCl [(s0, .inr (0, [.int 1, .int x1, .int y3, .int y4, .int y5]))] H := hP
  have hD : va_D A [(s0, .inr (0, [.int 1, .int x1, .int y3, .int y4, .int y5]))] := hD
  refine lv_aload_n hx hb dX0_lay_10 rfl (lv_at hl 0 rfl) ?_
  refine lv_iload_n hx hb dX0_lay_11 rfl (lv_at hl 2 rfl) ?_
  refine va_put (D := D) (ci := 0) (v := .int x2) (ty := (tyX0 2)) (C := RX0) (T := TX0) (N := 5) hx hb hts (fun _ h9 => List.mem_cons_of_mem _ (List.mem_append_right _ h9)) tyX0 tyX0_ok nmX0 hown hK hP hD hS 0 rfl rfl 2 (by decide) (hts (.fieldLink RX0 19 "BuoyTender$Chain" "least" "I") (by decide +kernel)) (fun _ h9 => h9) rfl (by decide +kernel) rfl rfl (Nat.le_of_ble_eq_true rfl) dX0_lay_12 (fun H locs hP hD hS => ?_)
  have hP : va_P D vwCl [(s0, .inr (0, [.int 1, .int x1, .int x2, .int y4, .int y5]))] H := hP
  have hD : va_D A [(s0, .inr (0, [.int 1, .int x1, .int x2, .int y4, .int y5]))] := hD
  refine lv_aload_n hx hb dX0_lay_15 rfl (lv_at hl 0 rfl) ?_
  refine lv_iload_n hx hb dX0_lay_16 rfl (lv_at hl 3 rfl) ?_
  refine va_put (D := D) (ci := 0) (v := .int x3) (ty := (tyX0 3)) (C := RX0) (T := TX0) (N := 5) hx hb hts (fun _ h9 => List.mem_cons_of_mem _ (List.mem_append_right _ h9)) tyX0 tyX0_ok nmX0 hown hK hP hD hS 0 rfl rfl 3 (by decide) (hts (.fieldLink RX0 22 "BuoyTender$Chain" "kind" "I") (by decide +kernel)) (fun _ h9 => h9) rfl (by decide +kernel) rfl rfl (Nat.le_of_ble_eq_true rfl) dX0_lay_17 (fun H locs hP hD hS => ?_)
  have hP : va_P D vwCl [(s0, .inr (0, [.int 1, .int x1, .int x2, .int x3, .int y5]))] H := hP
  have hD : va_D A [(s0, .inr (0, [.int 1, .int x1, .int x2, .int x3, .int y5]))] := hD
  refine lv_aload_n hx hb dX0_lay_20 rfl (lv_at hl 0 rfl) ?_
  refine lv_iload hx hb dX0_lay_21 (lv_at hl 4 rfl) ?_
  refine va_put (D := D) (ci := 0) (v := .int x4) (ty := (tyX0 4)) (C := RX0) (T := TX0) (N := 5) hx hb hts (fun _ h9 => List.mem_cons_of_mem _ (List.mem_append_right _ h9)) tyX0 tyX0_ok nmX0 hown hK hP hD hS 0 rfl rfl 4 (by decide) (hts (.fieldLink RX0 25 "BuoyTender$Chain" "since" "I") (by decide +kernel)) (fun _ h9 => h9) rfl (by decide +kernel) rfl rfl (Nat.le_of_ble_eq_true rfl) dX0_lay_23 (fun H locs hP hD hS => ?_)
  have hP : va_P D vwCl [(s0, .inr (0, [.int 1, .int x1, .int x2, .int x3, .int x4]))] H := hP
  have hD : va_D A [(s0, .inr (0, [.int 1, .int x1, .int x2, .int x3, .int x4]))] := hD
  have hP9 := hP.sub (ws' := [(s0, .inr (0, [.int 1, .int x1, .int x2, .int x3, .int x4]))]) [0] rfl
  have hD9 := hD.sub (ws' := [(s0, .inr (0, [.int 1, .int x1, .int x2, .int x3, .int x4]))]) [0] (by decide) rfl
  exact W.vret hx hb hr (fun t ht hW => ⟨⟨(), rfl, trivial, ⟨by rw [ht]; exact hP9, hD9⟩⟩, hS.F ht⟩) hS.2.2 dX0_lay_26
set_option maxHeartbeats 4000000 in
set_option maxRecDepth 100000 in
/-- X8_chain -/
theorem k_X8_chain (l : Launch) (D : va_G) (cI cJ cZ cM : Nat) (h0 : Nat) (a : Nat → Nat) (iv : Nat → Int32) (av : Nat → Nat → Int32) (ma : Nat → Nat → Nat) (mv : Nat → Nat → Int32) (mso : Nat → Nat → Int64) (mrs : Nat → Nat → Int32) (n0 : Nat) (fM : Nat → Option Nat) (hn0 : n0 ≤ 10) (hfM : ∀ i, i < 10 → (i < n0 → fM i = some (ma i 0)) ∧ (n0 ≤ i → fM i = none)) (h_n : iv 0 = nI n0) (T : Nat) (h_T : iv 1 = nI T) (hT : T ≤ 10000) (x1 : Int32) (x2 : Int32) (x3 : Int32) (x4 : Int32) (sz : Nat) : Met l yX8_chain wsX8_chain ({ frames := 1, cells := 0, slots := 0, locals := 24 } : Room) (RW D cI cJ cZ cM [.ref h0, .int x1, .int x2, .int x3, .int x4] ([(h0, .inr (8, [.ref (a 1), .ref (a 2), .ref (a 3), .ref (a 4), .ref (a 5), .ref (a 6), .ref (a 7), .ref (a 8), .int (iv 0), .int (iv 1), .int (iv 2), .int (iv 3)])), (a 2, .inl (cM, 10, .inr (.inr (.inr (.inr fM)))))] ++ MG cI cJ ma mv mso mrs n0) sz) (va_Qi (S := (Nat → Nat → Int32)) (fun r u => (r = 1 ∧ (isM n0 x1 ∧ (1 ≤ x2 ∧ x2 ≤ 1000) ∧ (0 ≤ x3 ∧ x3 ≤ x2) ∧ (0 ≤ x4 ∧ x4 ≤ 3)) ∧ ∃ i, i < n0 ∧ x1 = nI i ∧ u = mup (mup (mup (mup (mup mv i 9 1) i 10 x2) i 11 x3) i 12 x4) i 13 (nI (T / 30))) ∨ (r = 0 ∧ ¬ (isM n0 x1 ∧ (1 ≤ x2 ∧ x2 ≤ 1000) ∧ (0 ≤ x3 ∧ x3 ≤ x2) ∧ (0 ≤ x4 ∧ x4 ≤ 3)) ∧ u = mv)) (BB D (fun u => [(h0, .inr (8, [.ref (a 1), .ref (a 2), .ref (a 3), .ref (a 4), .ref (a 5), .ref (a 6), .ref (a 7), .ref (a 8), .int (iv 0), .int (iv 1), .int (iv 2), .int (iv 3)])), (a 2, .inl (cM, 10, .inr (.inr (.inr (.inr fM)))))] ++ MG cI cJ ma u mso mrs n0) (va_A ([(h0, .inr (8, [.ref (a 1), .ref (a 2), .ref (a 3), .ref (a 4), .ref (a 5), .ref (a 6), .ref (a 7), .ref (a 8), .int (iv 0), .int (iv 1), .int (iv 2), .int (iv 3)])), (a 2, .inl (cM, 10, .inr (.inr (.inr (.inr fM)))))] ++ MG cI cJ ma mv mso mrs n0) sz)) (va_A ([(h0, .inr (8, [.ref (a 1), .ref (a 2), .ref (a 3), .ref (a 4), .ref (a 5), .ref (a 6), .ref (a 7), .ref (a 8), .int (iv 0), .int (iv 1), .int (iv 2), .int (iv 3)])), (a 2, .inl (cM, 10, .inr (.inr (.inr (.inr fM)))))] ++ MG cI cJ ma mv mso mrs n0) sz)) 0 0 (va_A ([(h0, .inr (8, [.ref (a 1), .ref (a 2), .ref (a 3), .ref (a 4), .ref (a 5), .ref (a 6), .ref (a 7), .ref (a 8), .int (iv 0), .int (iv 1), .int (iv 2), .int (iv 3)])), (a 2, .inl (cM, 10, .inr (.inr (.inr (.inr fM)))))] ++ MG cI cJ ma mv mso mrs n0) sz) := by
  refine Met.ofW (cc := cX8_chain) (maxL := 6) (ret := (some .boolean)) (by decide) rfl ?_
  intro p e s m args below meth c s₁ B hml hv
  obtain ⟨rfl, hsz, hG, hP, hD0⟩ := hv
  have hx := B.exec
  have hb := B.bytes
  have hr := B.returns
  have hts := atoms_spec (ws := wsX8_chain) B.pre
  have hown : s.vm.findClass RX8 = some m.cls := findClass_of_methodNamed B.named
  have hlocks := B.notSynchronized
  have hK := hG.1
  have hN := hG.2
  subst hsz
  have hD := hD0.self (sz := s.heap.size)
  generalize hAe : va_A ([(h0, .inr (8, [.ref (a 1), .ref (a 2), .ref (a 3), .ref (a 4), .ref (a 5), .ref (a 6), .ref (a 7), .ref (a 8), .int (iv 0), .int (iv 1), .int (iv 2), .int (iv 3)])), (a 2, .inl (cM, 10, .inr (.inr (.inr (.inr fM)))))] ++ MG cI cJ ma mv mso mrs n0) s.heap.size = A at hD ⊢
  have hA : ∀ q : Nat, s.heap.size ≤ q → A q := fun q h => by rw [← hAe]; exact Or.inr h
  have hS : va_S A s.heap s.heap [] := va_S.rf
  have hP : va_P D vwCl ([(h0, .inr (8, [.ref (a 1), .ref (a 2), .ref (a 3), .ref (a 4), .ref (a 5), .ref (a 6), .ref (a 7), .ref (a 8), .int (iv 0), .int (iv 1), .int (iv 2), .int (iv 3)])), (a 2, .inl (cM, 10, .inr (.inr (.inr (.inr fM)))))] ++ MG cI cJ ma mv mso mrs n0) s.heap := hP
  have hl := lv_entry ([.ref h0, .int x1, .int x2, .int x3, .int x4]) (n := 6) (Nat.le_of_ble_eq_true rfl)
  rw [lg_entry_eq]
  generalize (lg_sl ([.ref h0, .int x1, .int x2, .int x3, .int x4]) ++ List.replicate (6 - (lg_sl ([.ref h0, .int x1, .int x2, .int x3, .int x4])).length) Slot.unset).toArray = ls at hl ⊢
  have hl : lv_has ls 6 [(0, .ref h0), (1, .int x1), (2, .int x2), (3, .int x3), (4, .int x4)] := hl
  refine lv_aload_n hx hb dX8_chain_0 rfl (lv_at hl 0 rfl) ?_
  refine lv_iload_n hx hb dX8_chain_1 rfl (lv_at hl 1 rfl) ?_
  rcases Classical.em (isM n0 x1) with ⟨m1_, hm1_, rfl⟩ | hno_1
  · have hl : lv_has ls 6 [(0, .ref h0), (1, .int (nI m1_)), (2, .int x2), (3, .int x3), (4, .int x4)] := hl
    have hPc := hP.sub (ws' := [(h0, .inr (8, [.ref (a 1), .ref (a 2), .ref (a 3), .ref (a 4), .ref (a 5), .ref (a 6), .ref (a 7), .ref (a 8), .int (iv 0), .int (iv 1), .int (iv 2), .int (iv 3)])), (a 2, .inl (cM, 10, .inr (.inr (.inr (.inr fM)))))]) [0, 1] rfl
    refine va_csq (va_Run.run (va_runV (As := [.int (nI m1_)]) (rest := []) ⟨hx, hb, hml, hown, hts⟩ (k_X8_known_y l D cI cJ cZ cM h0 a iv ma n0 fM hn0 hfM h_n m1_ hm1_) (cwV 1 hts gX8_chain_X8_known rfl rfl rfl (by decide +kernel) ⟨Nat.le_of_ble_eq_true rfl, Nat.le_of_ble_eq_true rfl⟩) (ro_V hG hPc (va_recv hK hPc (ci := 8) (q0 := 0) rfl rfl)) rfl rfl hl.1 rfl (lv_room (Nat.le_of_ble_eq_true rfl)) dX8_chain_2 ⟨Nat.le_of_ble_eq_true rfl, Nat.le_of_ble_eq_true rfl⟩)) (fun r_1 h_1 => ?_)
    obtain rfl : r_1 = some (ma m1_ 0) := h_1
    refine W.eq (g2 := F0 m 5 ls [.ref (ma m1_ 0)]) rfl ?_
    refine lv_astore (lv' := [(5, .ref (ma m1_ 0)), (0, .ref h0), (1, .int (nI m1_)), (2, .int x2), (3, .int x3), (4, .int x4)]) hx hb dX8_chain_5 hl (by decide) rfl (fun ls hl => ?_)
    refine lv_aload hx hb dX8_chain_7 (lv_at hl 0 rfl) ?_
    refine lv_ifnull hx hb dX8_chain_9 ?_
    refine lv_iload_n hx hb dX8_chain_12 rfl (lv_at hl 3 rfl) ?_
    refine lv_iconst (v := 1) hx hb dX8_chain_13 (by decide) ?_
    refine lv_sipush (v := 1000) hx hb dX8_chain_14 (by decide) ?_
    refine vp_callSi (va_Run.run (va_runS (As := [.int x2, .int 1, .int 1000]) (rest := []) ⟨hx, hb, hml, hown, hts⟩ (k_X8_within l x2 1 1000) (va_cwS 3 hts gX8_chain_X8_within rfl rfl rfl (by decide +kernel) ⟨Nat.le_of_ble_eq_true rfl, Nat.le_of_ble_eq_true rfl⟩) preEq rfl rfl hl.1 rfl (lv_room (Nat.le_of_ble_eq_true rfl)) dX8_chain_17 ⟨Nat.le_of_ble_eq_true rfl, Nat.le_of_ble_eq_true rfl⟩)) (fun r_2 h_2 => ?_)
    rcases h_2 with ⟨rfl, h_2⟩ | ⟨rfl, h_2⟩
    · refine lv_if_eq (tgt := 42) hx hb dX8_chain_20 (by decide) (fun c_3 => False.elim (by revert c_3; decide)) (fun _ => ?_)
      refine lv_iload_n hx hb dX8_chain_23 rfl (lv_at hl 4 rfl) ?_
      refine lv_iconst (v := 0) hx hb dX8_chain_24 (by decide) ?_
      refine lv_iload_n hx hb dX8_chain_25 rfl (lv_at hl 3 rfl) ?_
      refine vp_callSi (va_Run.run (va_runS (As := [.int x3, .int 0, .int x2]) (rest := []) ⟨hx, hb, hml, hown, hts⟩ (k_X8_within l x3 0 x2) (va_cwS 3 hts gX8_chain_X8_within rfl rfl rfl (by decide +kernel) ⟨Nat.le_of_ble_eq_true rfl, Nat.le_of_ble_eq_true rfl⟩) preEq rfl rfl hl.1 rfl (lv_room (Nat.le_of_ble_eq_true rfl)) dX8_chain_26 ⟨Nat.le_of_ble_eq_true rfl, Nat.le_of_ble_eq_true rfl⟩)) (fun r_4 h_4 => ?_)
      rcases h_4 with ⟨rfl, h_4⟩ | ⟨rfl, h_4⟩
      · refine lv_if_eq (tgt := 42) hx hb dX8_chain_29 (by decide) (fun c_5 => False.elim (by revert c_5; decide)) (fun _ => ?_)
        refine lv_iload hx hb dX8_chain_32 (lv_at hl 5 rfl) ?_
        refine lv_iconst (v := 0) hx hb dX8_chain_34 (by decide) ?_
        refine lv_iconst (v := 3) hx hb dX8_chain_35 (by decide) ?_
        refine vp_callSi (va_Run.run (va_runS (As := [.int x4, .int 0, .int 3]) (rest := []) ⟨hx, hb, hml, hown, hts⟩ (k_X8_within l x4 0 3) (va_cwS 3 hts gX8_chain_X8_within rfl rfl rfl (by decide +kernel) ⟨Nat.le_of_ble_eq_true rfl, Nat.le_of_ble_eq_true rfl⟩) preEq rfl rfl hl.1 rfl (lv_room (Nat.le_of_ble_eq_true rfl)) dX8_chain_36 ⟨Nat.le_of_ble_eq_true rfl, Nat.le_of_ble_eq_true rfl⟩)) (fun r_6 h_6 => ?_)
        rcases h_6 with ⟨rfl, h_6⟩ | ⟨rfl, h_6⟩
        · refine lv_if_ne (tgt := 44) hx hb dX8_chain_39 (by decide) (fun _ => ?_) (fun c_7 => False.elim (by revert c_7; decide))
          refine lv_aload hx hb dX8_chain_44 (lv_at hl 0 rfl) ?_
          refine va_getN (D := D) (ci := 1) (v := .ref (ma m1_ 3)) (C := RX1) (T := TX1) (N := 9) hx hb hts (fun _ h9 => List.mem_cons_of_mem _ (List.mem_append_left _ (List.mem_append_left _ (List.mem_append_right _ h9)))) hown hK hP (2 + (6 * m1_ + 0)) (mg_x0 rfl hm1_) rfl 4 (by decide) (va_Nw.use rfl (hN.1 (RX8, 123, "BuoyTender$Mark", "chain", "LBuoyTender$Chain;", "BuoyTender") (by decide +kernel))) (fun _ h9 => h9) rfl dX8_chain_46 ?_
          refine lv_iload_n hx hb dX8_chain_49 rfl (lv_at hl 3 rfl) ?_
          refine lv_iload_n hx hb dX8_chain_50 rfl (lv_at hl 4 rfl) ?_
          refine lv_iload hx hb dX8_chain_51 (lv_at hl 5 rfl) ?_
          refine lv_aload_n hx hb dX8_chain_53 rfl (lv_at hl 1 rfl) ?_
          have hPc := hP.sub (ws' := [(h0, .inr (8, [.ref (a 1), .ref (a 2), .ref (a 3), .ref (a 4), .ref (a 5), .ref (a 6), .ref (a 7), .ref (a 8), .int (iv 0), .int (iv 1), .int (iv 2), .int (iv 3)]))]) [0] rfl
          refine vp_callSi (va_Run.run (va_runV (As := []) (rest := [.int x4, .int x3, .int x2, .ref (ma m1_ 3)]) ⟨hx, hb, hml, hown, hts⟩ (k_X8_thisMonth l D cI cJ cZ cM h0 a iv av T h_T hT) (cwV 0 hts gX8_chain_X8_thisMonth rfl rfl rfl (by decide +kernel) ⟨Nat.le_of_ble_eq_true rfl, Nat.le_of_ble_eq_true rfl⟩) (ro_V hG hPc (va_recv hK hPc (ci := 8) (q0 := 0) rfl rfl)) rfl rfl hl.1 rfl (lv_room (Nat.le_of_ble_eq_true rfl)) dX8_chain_54 ⟨Nat.le_of_ble_eq_true rfl, Nat.le_of_ble_eq_true rfl⟩)) (fun r_8 h_8 => ?_)
          obtain rfl : r_8 = nI (T / 30) := h_8
          have hq0 : va_P D vwCl [(ma m1_ 3, .inr (0, [.int (mv m1_ 9), .int (mv m1_ 10), .int (mv m1_ 11), .int (mv m1_ 12), .int (mv m1_ 13)]))] _ := vaP_1 (k := (2 + (6 * m1_ + 3))) hP (mg_x3 rfl hm1_)
          have hPc := hq0
          have hPc : va_P D vwCl [(ma m1_ 3, .inr (0, [.int (mv m1_ 9), .int (mv m1_ 10), .int (mv m1_ 11), .int (mv m1_ 12), .int (mv m1_ 13)]))] _ := hPc
          have hmp9 : ([2 + (6 * m1_ + 3)] : List Nat).map (fun i => (([(h0, .inr (8, [.ref (a 1), .ref (a 2), .ref (a 3), .ref (a 4), .ref (a 5), .ref (a 6), .ref (a 7), .ref (a 8), .int (iv 0), .int (iv 1), .int (iv 2), .int (iv 3)])), (a 2, .inl (cM, 10, .inr (.inr (.inr (.inr fM)))))] : va_W) ++ MG cI cJ ma mv mso mrs n0)[i]?) = ([(ma m1_ 3, .inr (0, [.int (mv m1_ 9), .int (mv m1_ 10), .int (mv m1_ 11), .int (mv m1_ 12), .int (mv m1_ 13)]))] : va_W).map some := (by simp only [List.map_cons, List.map_nil]; rw [mg_x3 (X := [(h0, .inr (8, [.ref (a 1), .ref (a 2), .ref (a 3), .ref (a 4), .ref (a 5), .ref (a 6), .ref (a 7), .ref (a 8), .int (iv 0), .int (iv 1), .int (iv 2), .int (iv 3)])), (a 2, .inl (cM, 10, .inr (.inr (.inr (.inr fM)))))]) (N := 2) rfl hm1_] <;> rfl)
          have hDc := vaD_at hD [2 + (6 * m1_ + 3)] (by simp <;> omega) hmp9
          have hFc := va_free hD hS hA [2 + (6 * m1_ + 3)] hmp9
          refine va_callv (va_runVN (As := [.int x2, .int x3, .int x4, .int (nI (T / 30))]) (rest := []) ⟨hx, hb, hml, hown, hts⟩ (k_X0_lay l D cI cJ cZ cM (ma m1_ 3) (mv m1_ 9) (mv m1_ 10) (mv m1_ 11) (mv m1_ 12) (mv m1_ 13) x2 x3 x4 (nI (T / 30)) _) ⟨(va_cnB 4 hts gX8_chain_X0_lay_n131 rfl rfl rfl (hN.2.1 (RX8, 131, yX0_lay, "BuoyTender") (by decide +kernel)) (hts (.initialized RX0) (by decide +kernel)) (by decide +kernel) ⟨Nat.le_of_ble_eq_true rfl, Nat.le_of_ble_eq_true rfl⟩), hts (.instanceMethod yX0_lay) (by decide +kernel), hts (.selects RX0 yX0_lay yX0_lay) (by decide +kernel)⟩ (rw_V hG hPc hDc (va_recv hK hPc (ci := 0) (q0 := 0) rfl rfl)) rfl rfl hl.1 rfl (lv_room (Nat.le_of_ble_eq_true rfl)) dX8_chain_57 ⟨Nat.le_of_ble_eq_true rfl, Nat.le_of_ble_eq_true rfl⟩) hS (fun q _ h => hFc q h) hFc (fun u_9 t_9 H1 locs ht hvm hw hB hz1 hk1 hS => ?_)
          obtain ⟨hP1, hD1⟩ := hB
          rw [ht] at hP1
          have hMK : MKc cI cJ ma (mup (mup (mup (mup (mup mv m1_ 9 1) m1_ 10 x2) m1_ 11 x3) m1_ 12 x4) m1_ 13 (nI (T / 30))) mso mrs m1_ = [(ma m1_ 0, .inr (1, [.int (mv m1_ 0), .int (mv m1_ 1), .int (mv m1_ 2), .ref (ma m1_ 1), .ref (ma m1_ 3), .ref (ma m1_ 4), .int (mv m1_ 3), .int (mv m1_ 4), .int (mv m1_ 5)])), (ma m1_ 1, .inr (5, [.ref (ma m1_ 2), .int (mv m1_ 6), .int (mv m1_ 7), .int (mv m1_ 8)])), (ma m1_ 2, .inl (cJ, 40, .inr (.inl (mso m1_)))), (ma m1_ 3, .inr (0, [.int 1, .int x2, .int x3, .int x4, .int (nI (T / 30))])), (ma m1_ 4, .inr (3, [.ref (ma m1_ 5), .int (mv m1_ 14)])), (ma m1_ 5, .inl (cI, 8, .inl (mrs m1_)))] := by simp [MKc, mup, rup]
          obtain ⟨hP, hD⟩ := mg_rep (X := [(h0, .inr (8, [.ref (a 1), .ref (a 2), .ref (a 3), .ref (a 4), .ref (a 5), .ref (a 6), .ref (a 7), .ref (a 8), .int (iv 0), .int (iv 1), .int (iv 2), .int (iv 3)])), (a 2, .inl (cM, 10, .inr (.inr (.inr (.inr fM)))))]) (mv' := (mup (mup (mup (mup (mup mv m1_ 9 1) m1_ 10 x2) m1_ 11 x3) m1_ 12 x4) m1_ 13 (nI (T / 30)))) (mso' := mso) (mrs' := mrs) (wx := []) (wm := [(ma m1_ 3, .inr (0, [.int (mv m1_ 9), .int (mv m1_ 10), .int (mv m1_ 11), .int (mv m1_ 12), .int (mv m1_ 13)]))]) (w1 := [(ma m1_ 3, .inr (0, [.int 1, .int x2, .int x3, .int x4, .int (nI (T / 30))]))]) hP hD rfl hm1_ [] [3] rfl rfl (by rw [hMK]; rfl) (fun j hj => ⟨fun q => by simp [mup, hj], by simp [rup, hj], by simp [rup, hj]⟩) (fun r hr hn => by rw [hMK]; rcases (show r = 0 ∨ r = 1 ∨ r = 2 ∨ r = 3 ∨ r = 4 ∨ r = 5 by omega) with rfl | rfl | rfl | rfl | rfl | rfl <;> first | rfl | exact absurd (by decide) hn) hk1 hP1
          generalize H1 = H at hP hS ⊢
          have hP : va_P D vwCl ([(h0, .inr (8, [.ref (a 1), .ref (a 2), .ref (a 3), .ref (a 4), .ref (a 5), .ref (a 6), .ref (a 7), .ref (a 8), .int (iv 0), .int (iv 1), .int (iv 2), .int (iv 3)])), (a 2, .inl (cM, 10, .inr (.inr (.inr (.inr fM)))))] ++ MG cI cJ ma (mup (mup (mup (mup (mup mv m1_ 9 1) m1_ 10 x2) m1_ 11 x3) m1_ 12 x4) m1_ 13 (nI (T / 30))) mso mrs n0) H := hP
          have hD : va_D A ([(h0, .inr (8, [.ref (a 1), .ref (a 2), .ref (a 3), .ref (a 4), .ref (a 5), .ref (a 6), .ref (a 7), .ref (a 8), .int (iv 0), .int (iv 1), .int (iv 2), .int (iv 3)])), (a 2, .inl (cM, 10, .inr (.inr (.inr (.inr fM)))))] ++ MG cI cJ ma (mup (mup (mup (mup (mup mv m1_ 9 1) m1_ 10 x2) m1_ 11 x3) m1_ 12 x4) m1_ 13 (nI (T / 30))) mso mrs n0) := hD
          refine lv_iconst (v := 1) hx hb dX8_chain_60 (by decide) ?_
          have hP9 := hP.part (cx := [(h0, .inr (8, [.ref (a 1), .ref (a 2), .ref (a 3), .ref (a 4), .ref (a 5), .ref (a 6), .ref (a 7), .ref (a 8), .int (iv 0), .int (iv 1), .int (iv 2), .int (iv 3)])), (a 2, .inl (cM, 10, .inr (.inr (.inr (.inr fM)))))]) [0, 1] rfl
          have hD9 := hD.part (cx := [(h0, .inr (8, [.ref (a 1), .ref (a 2), .ref (a 3), .ref (a 4), .ref (a 5), .ref (a 6), .ref (a 7), .ref (a 8), .int (iv 0), .int (iv 1), .int (iv 2), .int (iv 3)])), (a 2, .inl (cM, 10, .inr (.inr (.inr (.inr fM)))))]) [0, 1] (by decide) rfl
          exact W.zret (v := 1) hx hb hr rfl (fun t ht hW => ⟨⟨1, (mup (mup (mup (mup (mup mv m1_ 9 1) m1_ 10 x2) m1_ 11 x3) m1_ 12 x4) m1_ 13 (nI (T / 30))), rfl, (Or.inl ⟨rfl, ⟨⟨m1_, hm1_, rfl⟩, h_2, h_4, h_6⟩, _, hm1_, rfl, rfl⟩), ⟨by rw [ht]; exact hP9, hD9⟩⟩, hS.F ht⟩) hS.2.2 dX8_chain_61
        refine lv_if_ne (tgt := 44) hx hb dX8_chain_39 (by decide) (fun c_10 => False.elim (by revert c_10; decide)) (fun _ => ?_)
        refine lv_iconst (v := 0) hx hb dX8_chain_42 (by decide) ?_
        have hP9 := hP.part (cx := [(h0, .inr (8, [.ref (a 1), .ref (a 2), .ref (a 3), .ref (a 4), .ref (a 5), .ref (a 6), .ref (a 7), .ref (a 8), .int (iv 0), .int (iv 1), .int (iv 2), .int (iv 3)])), (a 2, .inl (cM, 10, .inr (.inr (.inr (.inr fM)))))]) [0, 1] rfl
        have hD9 := hD.part (cx := [(h0, .inr (8, [.ref (a 1), .ref (a 2), .ref (a 3), .ref (a 4), .ref (a 5), .ref (a 6), .ref (a 7), .ref (a 8), .int (iv 0), .int (iv 1), .int (iv 2), .int (iv 3)])), (a 2, .inl (cM, 10, .inr (.inr (.inr (.inr fM)))))]) [0, 1] (by decide) rfl
        exact W.zret (v := 0) hx hb hr rfl (fun t ht hW => ⟨⟨0, mv, rfl, (Or.inr ⟨rfl, fun h9 => h_6 (h9.2.2.2), rfl⟩), ⟨by rw [ht]; exact hP9, hD9⟩⟩, hS.F ht⟩) hS.2.2 dX8_chain_43
      refine lv_if_eq (tgt := 42) hx hb dX8_chain_29 (by decide) (fun _ => ?_) (fun c_11 => False.elim (by revert c_11; decide))
      refine lv_iconst (v := 0) hx hb dX8_chain_42 (by decide) ?_
      have hP9 := hP.part (cx := [(h0, .inr (8, [.ref (a 1), .ref (a 2), .ref (a 3), .ref (a 4), .ref (a 5), .ref (a 6), .ref (a 7), .ref (a 8), .int (iv 0), .int (iv 1), .int (iv 2), .int (iv 3)])), (a 2, .inl (cM, 10, .inr (.inr (.inr (.inr fM)))))]) [0, 1] rfl
      have hD9 := hD.part (cx := [(h0, .inr (8, [.ref (a 1), .ref (a 2), .ref (a 3), .ref (a 4), .ref (a 5), .ref (a 6), .ref (a 7), .ref (a 8), .int (iv 0), .int (iv 1), .int (iv 2), .int (iv 3)])), (a 2, .inl (cM, 10, .inr (.inr (.inr (.inr fM)))))]) [0, 1] (by decide) rfl
      exact W.zret (v := 0) hx hb hr rfl (fun t ht hW => ⟨⟨0, mv, rfl, (Or.inr ⟨rfl, fun h9 => h_4 (h9.2.2.1), rfl⟩), ⟨by rw [ht]; exact hP9, hD9⟩⟩, hS.F ht⟩) hS.2.2 dX8_chain_43
    refine lv_if_eq (tgt := 42) hx hb dX8_chain_20 (by decide) (fun _ => ?_) (fun c_12 => False.elim (by revert c_12; decide))
    refine lv_iconst (v := 0) hx hb dX8_chain_42 (by decide) ?_
    have hP9 := hP.part (cx := [(h0, .inr (8, [.ref (a 1), .ref (a 2), .ref (a 3), .ref (a 4), .ref (a 5), .ref (a 6), .ref (a 7), .ref (a 8), .int (iv 0), .int (iv 1), .int (iv 2), .int (iv 3)])), (a 2, .inl (cM, 10, .inr (.inr (.inr (.inr fM)))))]) [0, 1] rfl
    have hD9 := hD.part (cx := [(h0, .inr (8, [.ref (a 1), .ref (a 2), .ref (a 3), .ref (a 4), .ref (a 5), .ref (a 6), .ref (a 7), .ref (a 8), .int (iv 0), .int (iv 1), .int (iv 2), .int (iv 3)])), (a 2, .inl (cM, 10, .inr (.inr (.inr (.inr fM)))))]) [0, 1] (by decide) rfl
    exact W.zret (v := 0) hx hb hr rfl (fun t ht hW => ⟨⟨0, mv, rfl, (Or.inr ⟨rfl, fun h9 => h_2 (h9.2.1), rfl⟩), ⟨by rw [ht]; exact hP9, hD9⟩⟩, hS.F ht⟩) hS.2.2 dX8_chain_43
  · have hPc := hP.sub (ws' := [(h0, .inr (8, [.ref (a 1), .ref (a 2), .ref (a 3), .ref (a 4), .ref (a 5), .ref (a 6), .ref (a 7), .ref (a 8), .int (iv 0), .int (iv 1), .int (iv 2), .int (iv 3)])), (a 2, .inl (cM, 10, .inr (.inr (.inr (.inr fM)))))]) [0, 1] rfl
    refine va_csq (va_Run.run (va_runV (As := [.int x1]) (rest := []) ⟨hx, hb, hml, hown, hts⟩ (k_X8_known_n l D cI cJ cZ cM h0 a iv ma n0 fM hn0 hfM h_n x1 hno_1) (cwV 1 hts gX8_chain_X8_known rfl rfl rfl (by decide +kernel) ⟨Nat.le_of_ble_eq_true rfl, Nat.le_of_ble_eq_true rfl⟩) (ro_V hG hPc (va_recv hK hPc (ci := 8) (q0 := 0) rfl rfl)) rfl rfl hl.1 rfl (lv_room (Nat.le_of_ble_eq_true rfl)) dX8_chain_2 ⟨Nat.le_of_ble_eq_true rfl, Nat.le_of_ble_eq_true rfl⟩)) (fun r_1 h_1 => ?_)
    obtain rfl : r_1 = none := h_1
    refine W.eq (g2 := F0 m 5 ls [.null]) rfl ?_
    refine lv_astoreN (lv' := [(5, .null), (0, .ref h0), (1, .int x1), (2, .int x2), (3, .int x3), (4, .int x4)]) hx hb dX8_chain_5 hl (by decide) rfl (fun ls hl => ?_)
    refine lv_aloadN hx hb dX8_chain_7 (lv_at hl 0 rfl) ?_
    refine lv_ifnullN (tgt := 42) hx hb dX8_chain_9 (by decide) ?_
    refine lv_iconst (v := 0) hx hb dX8_chain_42 (by decide) ?_
    have hP9 := hP.part (cx := [(h0, .inr (8, [.ref (a 1), .ref (a 2), .ref (a 3), .ref (a 4), .ref (a 5), .ref (a 6), .ref (a 7), .ref (a 8), .int (iv 0), .int (iv 1), .int (iv 2), .int (iv 3)])), (a 2, .inl (cM, 10, .inr (.inr (.inr (.inr fM)))))]) [0, 1] rfl
    have hD9 := hD.part (cx := [(h0, .inr (8, [.ref (a 1), .ref (a 2), .ref (a 3), .ref (a 4), .ref (a 5), .ref (a 6), .ref (a 7), .ref (a 8), .int (iv 0), .int (iv 1), .int (iv 2), .int (iv 3)])), (a 2, .inl (cM, 10, .inr (.inr (.inr (.inr fM)))))]) [0, 1] (by decide) rfl
    exact W.zret (v := 0) hx hb hr rfl (fun t ht hW => ⟨⟨0, mv, rfl, (Or.inr ⟨rfl, fun h9 => hno_1 (h9.1), rfl⟩), ⟨by rw [ht]; exact hP9, hD9⟩⟩, hS.F ht⟩) hS.2.2 dX8_chain_43
set_option maxHeartbeats 4000000 in
set_option maxRecDepth 100000 in
/-- what wears in a month -/
theorem k_X0_wornIn (l : Launch) (D : va_G) (cI cJ cZ cM : Nat) (s0 : Nat) (y1 : Int32) (y2 : Int32) (y3 : Int32) (y4 : Int32) (y5 : Int32) (q0 : Nat) (f : Nat → Int32) (x1 : Int32) : Met l yX0_wornIn wsX0_wornIn ({ frames := 0, cells := 0, slots := 0, locals := 0 } : Room) (RO D cI cJ cZ cM [.ref s0, .int x1, .ref q0] [(s0, .inr (0, [.int y1, .int y2, .int y3, .int y4, .int y5])), (q0, .inl (cI, 48, .inl f))]) (vp_Si (fun r => True)) 0 0 (fun _ => False) := by
  refine Met.ofW (cc := cX0_wornIn) (maxL := 4) (ret := (some .int)) (by decide) rfl ?_
  intro p e s m args below meth c s₁ B hml hv
  obtain ⟨rfl, hG, hP⟩ := hv
  have hx := B.exec
  have hb := B.bytes
  have hr := B.returns
  have hts := atoms_spec (ws := wsX0_wornIn) B.pre
  have hown : s.vm.findClass RX0 = some m.cls := findClass_of_methodNamed B.named
  have hlocks := B.notSynchronized
  have hK := hG.1
  have hN := hG.2
  have hl := lv_entry ([.ref s0, .int x1, .ref q0]) (n := 4) (Nat.le_of_ble_eq_true rfl)
  rw [lg_entry_eq]
  generalize (lg_sl ([.ref s0, .int x1, .ref q0]) ++ List.replicate (4 - (lg_sl ([.ref s0, .int x1, .ref q0])).length) Slot.unset).toArray = ls at hl ⊢
  have hl : lv_has ls 4 [(0, .ref s0), (1, .int x1), (2, .ref q0)] := hl
  refine lv_aload_n hx hb dX0_wornIn_0 rfl (lv_at hl 0 rfl) ?_
  refine va_get (D := D) (ci := 0) (v := .int y4) (C := RX0) (T := TX0) (N := 5) hx hb hts (fun _ h9 => List.mem_cons_of_mem _ (List.mem_append_right _ h9)) hown hK hP 0 rfl rfl 3 (by decide) (hts (.fieldLink RX0 22 "BuoyTender$Chain" "kind" "I") (by decide +kernel)) (fun _ h9 => h9) rfl dX0_wornIn_1 ?_
  refine lv_bipush (v := 12) hx hb dX0_wornIn_4 (by decide) ?_
  refine lv_imul hx hb dX0_wornIn_6 ?_
  refine lv_iload_n hx hb dX0_wornIn_7 rfl (lv_at hl 1 rfl) ?_
  refine lv_bipush (v := 12) hx hb dX0_wornIn_8 (by decide) ?_
  refine lv_irem hx hb dX0_wornIn_10 (by decide) ?_
  refine lv_iadd hx hb dX0_wornIn_11 ?_
  refine lv_istore_n (lv' := [(3, .int ((y4 * 12) + (x1 - x1 / 12 * 12))), (0, .ref s0), (1, .int x1), (2, .ref q0)]) hx hb dX0_wornIn_12 rfl hl (by decide) rfl (fun ls hl => ?_)
  refine lv_iload_n hx hb dX0_wornIn_13 rfl (lv_at hl 0 rfl) ?_
  refine lv_if_lt (tgt := 29) hx hb dX0_wornIn_14 (by decide) (fun c_1 => ?_) (fun c_1 => ?_)
  · refine lv_iconst (v := 0) hx hb dX0_wornIn_29 (by decide) ?_
    exact W.iret (v := 0) hx hb hr (fun t ht hW => ⟨0, rfl, trivial, ht⟩) (fun _ h => by cases h) dX0_wornIn_30
  refine lv_iload_n hx hb dX0_wornIn_17 rfl (lv_at hl 0 rfl) ?_
  refine lv_aload_n hx hb dX0_wornIn_18 rfl (lv_at hl 3 rfl) ?_
  refine va_alen (v := 48) hx hb hK hP 1 0 rfl rfl rfl dX0_wornIn_19 ?_
  refine lv_icmp_ge (tgt := 29) hx hb dX0_wornIn_20 (by decide) (fun c_2 => ?_) (fun c_2 => ?_)
  · refine lv_iconst (v := 0) hx hb dX0_wornIn_29 (by decide) ?_
    exact W.iret (v := 0) hx hb hr (fun t ht hW => ⟨0, rfl, trivial, ht⟩) (fun _ h => by cases h) dX0_wornIn_30
  refine lv_aload_n hx hb dX0_wornIn_23 rfl (lv_at hl 3 rfl) ?_
  refine lv_iload_n hx hb dX0_wornIn_24 rfl (lv_at hl 0 rfl) ?_
  refine va_iald hx hb hK hP 1 0 rfl rfl (ix_lt c_1 c_2 (by decide)) dX0_wornIn_25 ?_
  refine lv_goto (tgt := 30) hx hb dX0_wornIn_26 (by decide) ?_
  exact W.iret (v := (f ((y4 * 12) + (x1 - x1 / 12 * 12)).toNatClampNeg)) hx hb hr (fun t ht hW => ⟨(f ((y4 * 12) + (x1 - x1 / 12 * 12)).toNatClampNeg), rfl, trivial, ht⟩) (fun _ h => by cases h) dX0_wornIn_30
set_option maxHeartbeats 4000000 in
set_option maxRecDepth 100000 in
/-- X0_leftBehind: the loop at 11 -/
theorem lp_X0_leftBehind {p : Program} {l : Launch} {e : Env} {s : State} {m : MethodId} {args : Array Value} {below : List Frame} {meth : Method} {c : Code} {Q : State → Prop} {D : va_G} {cI cJ cZ cM : Nat} {s0 : Nat} {y1 : Int32} {y2 : Int32} {y3 : Int32} {y4 : Int32} {y5 : Int32} {q0 : Nat} {f : Nat → Int32} {t_ : Nat} {H : Heap} (hx : p.tables.exec = Jvm.exec) (hb : c.code = cX0_leftBehind) (hml : c.maxLocals = 5) (hts : ∀ w ∈ wsX0_leftBehind, w.before args s = true) (hown : s.vm.findClass RX0 = some m.cls) (hG : GK D cI cJ cZ cM s) (hP : va_P D vwCl [(s0, .inr (0, [.int y1, .int y2, .int y3, .int y4, .int y5])), (q0, .inl (cI, 48, .inl f))] H) (ht_ : t_ ≤ 333) :
    ∀ (k9 : Nat) (k_ : Nat) (z : Int32), (k_ ≤ 334) → (t_ + 1) - k_ < k9 → ∀ (ls : Array Slot), lv_has ls 5 [(4, .int (nI k_)), (3, .int z), (0, .ref s0), (1, .int (nI t_)), (2, .ref q0)] → (∀ (z : Int32) (ls : Array Slot), lv_has ls 5 [(3, .int z), (0, .ref s0), (1, .int (nI t_)), (2, .ref q0)] → W p l e (headSpec wsX0_leftBehind ({ frames := 1, cells := 0, slots := 0, locals := 23 } : Room)).room s m args below meth c H [] 0 0 Q (F0 m 33 ls [])) → W p l e (headSpec wsX0_leftBehind ({ frames := 1, cells := 0, slots := 0, locals := 23 } : Room)).room s m args below meth c H [] 0 0 Q (F0 m 11 ls []) := by
  have hK := hG.1
  have hN := hG.2
  intro k9
  induction k9 with
  | zero => intro k_ z hk hfu; exact absurd hfu (Nat.not_lt_zero _)
  | succ k9 ih =>
    intro k_ z hk hfu ls hl kk0
    rcases Nat.lt_or_ge k_ (t_ + 1) with hlt | hge
    · refine lv_iload hx hb dX0_leftBehind_11 (lv_at hl 0 rfl) ?_
      refine lv_iload_n hx hb dX0_leftBehind_13 rfl (lv_at hl 3 rfl) ?_
      refine lv_icmp_gt (tgt := 33) hx hb dX0_leftBehind_14 (by decide) (fun c_1 => absurd c_1 (gt_no hlt (by omega))) (fun c_1 => ?_)
      refine lv_iload_n hx hb dX0_leftBehind_17 rfl (lv_at hl 1 rfl) ?_
      refine lv_aload_n hx hb dX0_leftBehind_18 rfl (lv_at hl 2 rfl) ?_
      refine lv_iload hx hb dX0_leftBehind_19 (lv_at hl 0 rfl) ?_
      refine lv_aload_n hx hb dX0_leftBehind_21 rfl (lv_at hl 4 rfl) ?_
      have hPc := hP.sub (ws' := [(s0, .inr (0, [.int y1, .int y2, .int y3, .int y4, .int y5])), (q0, .inl (cI, 48, .inl f))]) [0, 1] rfl
      refine vp_callSi (va_Run.run (va_runV (As := [.int (nI k_), .ref q0]) (rest := [.int z]) ⟨hx, hb, hml, hown, hts⟩ (k_X0_wornIn l D cI cJ cZ cM s0 y1 y2 y3 y4 y5 q0 f (nI k_)) (cwV 2 hts gX0_leftBehind_X0_wornIn rfl rfl rfl (by decide +kernel) ⟨Nat.le_of_ble_eq_true rfl, Nat.le_of_ble_eq_true rfl⟩) (ro_V hG hPc (va_recv hK hPc (ci := 0) (q0 := 0) rfl rfl)) rfl rfl hl.1 rfl (lv_room (Nat.le_of_ble_eq_true rfl)) dX0_leftBehind_22 ⟨Nat.le_of_ble_eq_true rfl, Nat.le_of_ble_eq_true rfl⟩)) (fun r_2 h_2 => ?_)
      refine lv_isub hx hb dX0_leftBehind_25 ?_
      refine lv_istore_n (lv' := [(3, .int (z - r_2)), (4, .int (nI k_)), (0, .ref s0), (1, .int (nI t_)), (2, .ref q0)]) hx hb dX0_leftBehind_26 rfl hl (by decide) rfl (fun ls hl => ?_)
      refine lv_iinc (v := nI (k_ + 1)) (lv' := [(4, .int (nI (k_ + 1))), (3, .int (z - r_2)), (0, .ref s0), (1, .int (nI t_)), (2, .ref q0)]) hx hb dX0_leftBehind_27 hl (k := 1) rfl (nI_add k_ 1) (by decide) rfl (fun ls hl => ?_)
      refine lv_goto (tgt := 11) hx hb dX0_leftBehind_30 (by decide) ?_
      exact ih (k_ + 1) (z - r_2) (by omega) (by omega) _ (lv_sub hl [0, 1, 2, 3, 4] rfl) kk0
    · refine lv_iload hx hb dX0_leftBehind_11 (lv_at hl 0 rfl) ?_
      refine lv_iload_n hx hb dX0_leftBehind_13 rfl (lv_at hl 3 rfl) ?_
      refine lv_icmp_gt (tgt := 33) hx hb dX0_leftBehind_14 (by decide) (fun c_3 => ?_) (fun c_3 => absurd (gt_yes hge (by omega)) c_3)
      exact kk0 z _  (lv_sub hl [1, 2, 3, 4] rfl)
set_option maxHeartbeats 4000000 in
set_option maxRecDepth 100000 in
/-- what is left -/
theorem k_X0_leftBehind (l : Launch) (D : va_G) (cI cJ cZ cM : Nat) (s0 : Nat) (y1 : Int32) (y2 : Int32) (y3 : Int32) (y4 : Int32) (y5 : Int32) (q0 : Nat) (f : Nat → Int32) (c9 : Nat) (e9 : y5 = nI c9) (hc9 : c9 ≤ 333) (t_ : Nat) (ht_ : t_ ≤ 333) : Met l yX0_leftBehind wsX0_leftBehind ({ frames := 1, cells := 0, slots := 0, locals := 23 } : Room) (RO D cI cJ cZ cM [.ref s0, .int (nI t_), .ref q0] [(s0, .inr (0, [.int y1, .int y2, .int y3, .int y4, .int y5])), (q0, .inl (cI, 48, .inl f))]) (vp_Si (fun r => True)) 0 0 (fun _ => False) := by
  refine Met.ofW (cc := cX0_leftBehind) (maxL := 5) (ret := (some .int)) (by decide) rfl ?_
  intro p e s m args below meth c s₁ B hml hv
  obtain ⟨rfl, hG, hP⟩ := hv
  have hx := B.exec
  have hb := B.bytes
  have hr := B.returns
  have hts := atoms_spec (ws := wsX0_leftBehind) B.pre
  have hown : s.vm.findClass RX0 = some m.cls := findClass_of_methodNamed B.named
  have hlocks := B.notSynchronized
  have hK := hG.1
  have hN := hG.2
  have hl := lv_entry ([.ref s0, .int (nI t_), .ref q0]) (n := 5) (Nat.le_of_ble_eq_true rfl)
  rw [lg_entry_eq]
  generalize (lg_sl ([.ref s0, .int (nI t_), .ref q0]) ++ List.replicate (5 - (lg_sl ([.ref s0, .int (nI t_), .ref q0])).length) Slot.unset).toArray = ls at hl ⊢
  have hl : lv_has ls 5 [(0, .ref s0), (1, .int (nI t_)), (2, .ref q0)] := hl
  refine lv_aload_n hx hb dX0_leftBehind_0 rfl (lv_at hl 0 rfl) ?_
  refine va_get (D := D) (ci := 0) (v := .int y2) (C := RX0) (T := TX0) (N := 5) hx hb hts (fun _ h9 => List.mem_cons_of_mem _ (List.mem_append_right _ h9)) hown hK hP 0 rfl rfl 1 (by decide) (hts (.fieldLink RX0 15 "BuoyTender$Chain" "thickness" "I") (by decide +kernel)) (fun _ h9 => h9) rfl dX0_leftBehind_1 ?_
  refine lv_istore_n (lv' := [(3, .int y2), (0, .ref s0), (1, .int (nI t_)), (2, .ref q0)]) hx hb dX0_leftBehind_4 rfl hl (by decide) rfl (fun ls hl => ?_)
  refine lv_aload_n hx hb dX0_leftBehind_5 rfl (lv_at hl 1 rfl) ?_
  refine va_get (D := D) (ci := 0) (v := .int y5) (C := RX0) (T := TX0) (N := 5) hx hb hts (fun _ h9 => List.mem_cons_of_mem _ (List.mem_append_right _ h9)) hown hK hP 0 rfl rfl 4 (by decide) (hts (.fieldLink RX0 25 "BuoyTender$Chain" "since" "I") (by decide +kernel)) (fun _ h9 => h9) rfl dX0_leftBehind_6 ?_
  refine lv_topi (fun z_1 ez_1 => ?_)
  obtain rfl : z_1 = nI c9 := ez_1.trans e9
  refine lv_istore (lv' := [(4, .int (nI c9)), (3, .int y2), (0, .ref s0), (1, .int (nI t_)), (2, .ref q0)]) hx hb dX0_leftBehind_9 hl (by decide) rfl (fun ls hl => ?_)
  have hPl := hP.sub (ws' := [(s0, .inr (0, [.int y1, .int y2, .int y3, .int y4, .int y5])), (q0, .inl (cI, 48, .inl f))]) [0, 1] rfl
  refine lp_X0_leftBehind hx hb hml hts hown hG hPl ht_ ((t_ + 1) + 1) c9 y2 (by omega) (by omega) _ (lv_sub hl [0, 1, 2, 3, 4] rfl) (fun z_2 ls  hl => ?_)
  refine lv_iload_n hx hb dX0_leftBehind_33 rfl (lv_at hl 0 rfl) ?_
  exact W.iret (v := z_2) hx hb hr (fun t ht hW => ⟨z_2, rfl, trivial, ht⟩) (fun _ h => by cases h) dX0_leftBehind_34
set_option maxHeartbeats 4000000 in
set_option maxRecDepth 100000 in
/-- X0_lifeEnds: the loop at 7 -/
theorem lp_X0_lifeEnds {p : Program} {l : Launch} {e : Env} {s : State} {m : MethodId} {args : Array Value} {below : List Frame} {meth : Method} {c : Code} {Q : State → Prop} {D : va_G} {cI cJ cZ cM : Nat} {s0 : Nat} {y1 : Int32} {y2 : Int32} {y3 : Int32} {y4 : Int32} {y5 : Int32} {q0 : Nat} {f : Nat → Int32} {H : Heap} (hx : p.tables.exec = Jvm.exec) (hb : c.code = cX0_lifeEnds) (hml : c.maxLocals = 4) (hts : ∀ w ∈ wsX0_lifeEnds, w.before args s = true) (hown : s.vm.findClass RX0 = some m.cls) (hG : GK D cI cJ cZ cM s) (hP : va_P D vwCl [(s0, .inr (0, [.int y1, .int y2, .int y3, .int y4, .int y5])), (q0, .inl (cI, 48, .inl f))] H)  :
    ∀ (k9 : Nat) (k_ : Nat) (z : Int32), (k_ ≤ 400) → 400 - k_ < k9 → ∀ (ls : Array Slot), lv_has ls 4 [(3, .int (nI k_)), (2, .int z), (0, .ref s0), (1, .ref q0)] → (∀ (z : Int32) (ls : Array Slot), lv_has ls 4 [(2, .int z), (0, .ref s0), (1, .ref q0)] → W p l e (headSpec wsX0_lifeEnds ({ frames := 1, cells := 0, slots := 0, locals := 23 } : Room)).room s m args below meth c H [] 0 0 Q (F0 m 49 ls [])) → (∀ (k_ : Nat) (ls : Array Slot), lv_has ls 4 [(3, .int (nI k_)), (0, .ref s0), (1, .ref q0)] → W p l e (headSpec wsX0_lifeEnds ({ frames := 1, cells := 0, slots := 0, locals := 23 } : Room)).room s m args below meth c H [] 0 0 Q (F0 m 36 ls [])) → W p l e (headSpec wsX0_lifeEnds ({ frames := 1, cells := 0, slots := 0, locals := 23 } : Room)).room s m args below meth c H [] 0 0 Q (F0 m 7 ls []) := by
  have hK := hG.1
  have hN := hG.2
  intro k9
  induction k9 with
  | zero => intro k_ z hk hfu; exact absurd hfu (Nat.not_lt_zero _)
  | succ k9 ih =>
    intro k_ z hk hfu ls hl kk0 kk1
    rcases Nat.lt_or_ge k_ 400 with hlt | hge
    · refine lv_iload_n hx hb dX0_lifeEnds_7 rfl (lv_at hl 0 rfl) ?_
      refine lv_sipush (v := 400) hx hb dX0_lifeEnds_8 (by decide) ?_
      refine lv_icmp_ge (tgt := 49) hx hb dX0_lifeEnds_11 (by decide) (fun c_1 => absurd c_1 (nI_ge hlt (by decide))) (fun c_1 => ?_)
      refine lv_iload_n hx hb dX0_lifeEnds_14 rfl (lv_at hl 1 rfl) ?_
      refine lv_aload_n hx hb dX0_lifeEnds_15 rfl (lv_at hl 2 rfl) ?_
      refine lv_aload_n hx hb dX0_lifeEnds_16 rfl (lv_at hl 2 rfl) ?_
      refine va_get (D := D) (ci := 0) (v := .int y5) (C := RX0) (T := TX0) (N := 5) hx hb hts (fun _ h9 => List.mem_cons_of_mem _ (List.mem_append_right _ h9)) hown hK hP 0 rfl rfl 4 (by decide) (hts (.fieldLink RX0 25 "BuoyTender$Chain" "since" "I") (by decide +kernel)) (fun _ h9 => h9) rfl dX0_lifeEnds_17 ?_
      refine lv_iload_n hx hb dX0_lifeEnds_20 rfl (lv_at hl 0 rfl) ?_
      refine lv_iadd hx hb dX0_lifeEnds_21 ?_
      refine lv_aload_n hx hb dX0_lifeEnds_22 rfl (lv_at hl 3 rfl) ?_
      have hPc := hP.sub (ws' := [(s0, .inr (0, [.int y1, .int y2, .int y3, .int y4, .int y5])), (q0, .inl (cI, 48, .inl f))]) [0, 1] rfl
      refine vp_callSi (va_Run.run (va_runV (As := [.int (y5 + (nI k_)), .ref q0]) (rest := [.int z]) ⟨hx, hb, hml, hown, hts⟩ (k_X0_wornIn l D cI cJ cZ cM s0 y1 y2 y3 y4 y5 q0 f (y5 + (nI k_))) (cwV 2 hts gX0_lifeEnds_X0_wornIn rfl rfl rfl (by decide +kernel) ⟨Nat.le_of_ble_eq_true rfl, Nat.le_of_ble_eq_true rfl⟩) (ro_V hG hPc (va_recv hK hPc (ci := 0) (q0 := 0) rfl rfl)) rfl rfl hl.1 rfl (lv_room (Nat.le_of_ble_eq_true rfl)) dX0_lifeEnds_23 ⟨Nat.le_of_ble_eq_true rfl, Nat.le_of_ble_eq_true rfl⟩)) (fun r_2 h_2 => ?_)
      refine lv_isub hx hb dX0_lifeEnds_26 ?_
      refine lv_istore_n (lv' := [(2, .int (z - r_2)), (3, .int (nI k_)), (0, .ref s0), (1, .ref q0)]) hx hb dX0_lifeEnds_27 rfl hl (by decide) rfl (fun ls hl => ?_)
      refine lv_iload_n hx hb dX0_lifeEnds_28 rfl (lv_at hl 0 rfl) ?_
      refine lv_aload_n hx hb dX0_lifeEnds_29 rfl (lv_at hl 2 rfl) ?_
      refine va_get (D := D) (ci := 0) (v := .int y3) (C := RX0) (T := TX0) (N := 5) hx hb hts (fun _ h9 => List.mem_cons_of_mem _ (List.mem_append_right _ h9)) hown hK hP 0 rfl rfl 2 (by decide) (hts (.fieldLink RX0 19 "BuoyTender$Chain" "least" "I") (by decide +kernel)) (fun _ h9 => h9) rfl dX0_lifeEnds_30 ?_
      refine lv_icmp_ge (tgt := 43) hx hb dX0_lifeEnds_33 (by decide) (fun c_3 => ?_) (fun c_3 => ?_)
      · refine lv_iinc (v := nI (k_ + 1)) (lv' := [(3, .int (nI (k_ + 1))), (2, .int (z - r_2)), (0, .ref s0), (1, .ref q0)]) hx hb dX0_lifeEnds_43 hl (k := 1) rfl (nI_add k_ 1) (by decide) rfl (fun ls hl => ?_)
        refine lv_goto (tgt := 7) hx hb dX0_lifeEnds_46 (by decide) ?_
        exact ih (k_ + 1) (z - r_2) (by omega) (by omega) _ (lv_sub hl [0, 1, 2, 3] rfl) kk0 kk1
      exact kk1 k_ _  (lv_sub hl [1, 2, 3] rfl)
    · refine lv_iload_n hx hb dX0_lifeEnds_7 rfl (lv_at hl 0 rfl) ?_
      refine lv_sipush (v := 400) hx hb dX0_lifeEnds_8 (by decide) ?_
      refine lv_icmp_ge (tgt := 49) hx hb dX0_lifeEnds_11 (by decide) (fun c_4 => ?_) (fun c_4 => absurd (nI_le hge (by omega)) c_4)
      exact kk0 z _  (lv_sub hl [1, 2, 3] rfl)
set_option maxHeartbeats 4000000 in
set_option maxRecDepth 100000 in
/-- its life -/
theorem k_X0_lifeEnds (l : Launch) (D : va_G) (cI cJ cZ cM : Nat) (s0 : Nat) (y1 : Int32) (y2 : Int32) (y3 : Int32) (y4 : Int32) (y5 : Int32) (q0 : Nat) (f : Nat → Int32) : Met l yX0_lifeEnds wsX0_lifeEnds ({ frames := 1, cells := 0, slots := 0, locals := 23 } : Room) (RO D cI cJ cZ cM [.ref s0, .ref q0] [(s0, .inr (0, [.int y1, .int y2, .int y3, .int y4, .int y5])), (q0, .inl (cI, 48, .inl f))]) (vp_Si (fun r => True)) 0 0 (fun _ => False) := by
  refine Met.ofW (cc := cX0_lifeEnds) (maxL := 4) (ret := (some .int)) (by decide) rfl ?_
  intro p e s m args below meth c s₁ B hml hv
  obtain ⟨rfl, hG, hP⟩ := hv
  have hx := B.exec
  have hb := B.bytes
  have hr := B.returns
  have hts := atoms_spec (ws := wsX0_lifeEnds) B.pre
  have hown : s.vm.findClass RX0 = some m.cls := findClass_of_methodNamed B.named
  have hlocks := B.notSynchronized
  have hK := hG.1
  have hN := hG.2
  have hl := lv_entry ([.ref s0, .ref q0]) (n := 4) (Nat.le_of_ble_eq_true rfl)
  rw [lg_entry_eq]
  generalize (lg_sl ([.ref s0, .ref q0]) ++ List.replicate (4 - (lg_sl ([.ref s0, .ref q0])).length) Slot.unset).toArray = ls at hl ⊢
  have hl : lv_has ls 4 [(0, .ref s0), (1, .ref q0)] := hl
  refine lv_aload_n hx hb dX0_lifeEnds_0 rfl (lv_at hl 0 rfl) ?_
  refine va_get (D := D) (ci := 0) (v := .int y2) (C := RX0) (T := TX0) (N := 5) hx hb hts (fun _ h9 => List.mem_cons_of_mem _ (List.mem_append_right _ h9)) hown hK hP 0 rfl rfl 1 (by decide) (hts (.fieldLink RX0 15 "BuoyTender$Chain" "thickness" "I") (by decide +kernel)) (fun _ h9 => h9) rfl dX0_lifeEnds_1 ?_
  refine lv_istore_n (lv' := [(2, .int y2), (0, .ref s0), (1, .ref q0)]) hx hb dX0_lifeEnds_4 rfl hl (by decide) rfl (fun ls hl => ?_)
  refine lv_iconst (v := 0) hx hb dX0_lifeEnds_5 (by decide) ?_
  refine lv_istore_n (lv' := [(3, .int 0), (2, .int y2), (0, .ref s0), (1, .ref q0)]) hx hb dX0_lifeEnds_6 rfl hl (by decide) rfl (fun ls hl => ?_)
  have hPl := hP.sub (ws' := [(s0, .inr (0, [.int y1, .int y2, .int y3, .int y4, .int y5])), (q0, .inl (cI, 48, .inl f))]) [0, 1] rfl
  refine lp_X0_lifeEnds hx hb hml hts hown hG hPl  (400 + 1) 0 y2 (Nat.zero_le _) (by omega) _ (lv_sub hl [0, 1, 2, 3] rfl) (fun z_1 ls  hl => ?_) (fun k__2 ls  hl => ?_)
  · refine lv_iconst (v := (-1)) hx hb dX0_lifeEnds_49 (by decide) ?_
    exact W.iret (v := (-1)) hx hb hr (fun t ht hW => ⟨(-1), rfl, trivial, ht⟩) (fun _ h => by cases h) dX0_lifeEnds_50
  refine lv_aload_n hx hb dX0_lifeEnds_36 rfl (lv_at hl 1 rfl) ?_
  refine va_get (D := D) (ci := 0) (v := .int y5) (C := RX0) (T := TX0) (N := 5) hx hb hts (fun _ h9 => List.mem_cons_of_mem _ (List.mem_append_right _ h9)) hown hK hP 0 rfl rfl 4 (by decide) (hts (.fieldLink RX0 25 "BuoyTender$Chain" "since" "I") (by decide +kernel)) (fun _ h9 => h9) rfl dX0_lifeEnds_37 ?_
  refine lv_iload_n hx hb dX0_lifeEnds_40 rfl (lv_at hl 0 rfl) ?_
  refine lv_iadd hx hb dX0_lifeEnds_41 ?_
  exact W.iret (v := (y5 + (nI k__2))) hx hb hr (fun t ht hW => ⟨(y5 + (nI k__2)), rfl, trivial, ht⟩) (fun _ h => by cases h) dX0_lifeEnds_42
set_option maxHeartbeats 4000000 in
set_option maxRecDepth 100000 in
/-- X8_chainOf -/
theorem k_X8_chainOf (l : Launch) (D : va_G) (cI cJ cZ cM : Nat) (h0 : Nat) (a : Nat → Nat) (iv : Nat → Int32) (av : Nat → Nat → Int32) (ma : Nat → Nat → Nat) (mv : Nat → Nat → Int32) (mso : Nat → Nat → Int64) (mrs : Nat → Nat → Int32) (n0 : Nat) (fM : Nat → Option Nat) (hn0 : n0 ≤ 10) (hfM : ∀ i, i < 10 → (i < n0 → fM i = some (ma i 0)) ∧ (n0 ≤ i → fM i = none)) (h_n : iv 0 = nI n0) (T : Nat) (h_T : iv 1 = nI T) (hT : T ≤ 10000) (hsi : ∀ i, i < n0 → ∃ c, c ≤ 333 ∧ mv i 13 = nI c) (x1 : Int32) (x2 : Int32) (sz : Nat) : Met l yX8_chainOf wsX8_chainOf ({ frames := 2, cells := 0, slots := 0, locals := 47 } : Room) (RW D cI cJ cZ cM [.ref h0, .int x1, .int x2] ([(h0, .inr (8, [.ref (a 1), .ref (a 2), .ref (a 3), .ref (a 4), .ref (a 5), .ref (a 6), .ref (a 7), .ref (a 8), .int (iv 0), .int (iv 1), .int (iv 2), .int (iv 3)])), (a 2, .inl (cM, 10, .inr (.inr (.inr (.inr fM))))), (a 3, .inl (cI, 48, .inl (av 3)))] ++ MG cI cJ ma mv mso mrs n0) sz) (va_Qi (S := Unit) (fun r u => True) (BB D (fun _ => [(h0, .inr (8, [.ref (a 1), .ref (a 2), .ref (a 3), .ref (a 4), .ref (a 5), .ref (a 6), .ref (a 7), .ref (a 8), .int (iv 0), .int (iv 1), .int (iv 2), .int (iv 3)])), (a 2, .inl (cM, 10, .inr (.inr (.inr (.inr fM))))), (a 3, .inl (cI, 48, .inl (av 3)))] ++ MG cI cJ ma mv mso mrs n0) (va_A ([(h0, .inr (8, [.ref (a 1), .ref (a 2), .ref (a 3), .ref (a 4), .ref (a 5), .ref (a 6), .ref (a 7), .ref (a 8), .int (iv 0), .int (iv 1), .int (iv 2), .int (iv 3)])), (a 2, .inl (cM, 10, .inr (.inr (.inr (.inr fM))))), (a 3, .inl (cI, 48, .inl (av 3)))] ++ MG cI cJ ma mv mso mrs n0) sz)) (va_A ([(h0, .inr (8, [.ref (a 1), .ref (a 2), .ref (a 3), .ref (a 4), .ref (a 5), .ref (a 6), .ref (a 7), .ref (a 8), .int (iv 0), .int (iv 1), .int (iv 2), .int (iv 3)])), (a 2, .inl (cM, 10, .inr (.inr (.inr (.inr fM))))), (a 3, .inl (cI, 48, .inl (av 3)))] ++ MG cI cJ ma mv mso mrs n0) sz)) 0 0 (va_A ([(h0, .inr (8, [.ref (a 1), .ref (a 2), .ref (a 3), .ref (a 4), .ref (a 5), .ref (a 6), .ref (a 7), .ref (a 8), .int (iv 0), .int (iv 1), .int (iv 2), .int (iv 3)])), (a 2, .inl (cM, 10, .inr (.inr (.inr (.inr fM))))), (a 3, .inl (cI, 48, .inl (av 3)))] ++ MG cI cJ ma mv mso mrs n0) sz) := by
  refine Met.ofW (cc := cX8_chainOf) (maxL := 4) (ret := (some .int)) (by decide) rfl ?_
  intro p e s m args below meth c s₁ B hml hv
  obtain ⟨rfl, hsz, hG, hP, hD0⟩ := hv
  have hx := B.exec
  have hb := B.bytes
  have hr := B.returns
  have hts := atoms_spec (ws := wsX8_chainOf) B.pre
  have hown : s.vm.findClass RX8 = some m.cls := findClass_of_methodNamed B.named
  have hlocks := B.notSynchronized
  have hK := hG.1
  have hN := hG.2
  subst hsz
  have hD := hD0.self (sz := s.heap.size)
  generalize hAe : va_A ([(h0, .inr (8, [.ref (a 1), .ref (a 2), .ref (a 3), .ref (a 4), .ref (a 5), .ref (a 6), .ref (a 7), .ref (a 8), .int (iv 0), .int (iv 1), .int (iv 2), .int (iv 3)])), (a 2, .inl (cM, 10, .inr (.inr (.inr (.inr fM))))), (a 3, .inl (cI, 48, .inl (av 3)))] ++ MG cI cJ ma mv mso mrs n0) s.heap.size = A at hD ⊢
  have hA : ∀ q : Nat, s.heap.size ≤ q → A q := fun q h => by rw [← hAe]; exact Or.inr h
  have hS : va_S A s.heap s.heap [] := va_S.rf
  have hP : va_P D vwCl ([(h0, .inr (8, [.ref (a 1), .ref (a 2), .ref (a 3), .ref (a 4), .ref (a 5), .ref (a 6), .ref (a 7), .ref (a 8), .int (iv 0), .int (iv 1), .int (iv 2), .int (iv 3)])), (a 2, .inl (cM, 10, .inr (.inr (.inr (.inr fM))))), (a 3, .inl (cI, 48, .inl (av 3)))] ++ MG cI cJ ma mv mso mrs n0) s.heap := hP
  have hl := lv_entry ([.ref h0, .int x1, .int x2]) (n := 4) (Nat.le_of_ble_eq_true rfl)
  rw [lg_entry_eq]
  generalize (lg_sl ([.ref h0, .int x1, .int x2]) ++ List.replicate (4 - (lg_sl ([.ref h0, .int x1, .int x2])).length) Slot.unset).toArray = ls at hl ⊢
  have hl : lv_has ls 4 [(0, .ref h0), (1, .int x1), (2, .int x2)] := hl
  refine lv_aload_n hx hb dX8_chainOf_0 rfl (lv_at hl 0 rfl) ?_
  refine lv_iload_n hx hb dX8_chainOf_1 rfl (lv_at hl 1 rfl) ?_
  rcases Classical.em (isM n0 x1) with ⟨m1_, hm1_, rfl⟩ | hno_1
  · have hl : lv_has ls 4 [(0, .ref h0), (1, .int (nI m1_)), (2, .int x2)] := hl
    have hPc := hP.sub (ws' := [(h0, .inr (8, [.ref (a 1), .ref (a 2), .ref (a 3), .ref (a 4), .ref (a 5), .ref (a 6), .ref (a 7), .ref (a 8), .int (iv 0), .int (iv 1), .int (iv 2), .int (iv 3)])), (a 2, .inl (cM, 10, .inr (.inr (.inr (.inr fM)))))]) [0, 1] rfl
    refine va_csq (va_Run.run (va_runV (As := [.int (nI m1_)]) (rest := []) ⟨hx, hb, hml, hown, hts⟩ (k_X8_known_y l D cI cJ cZ cM h0 a iv ma n0 fM hn0 hfM h_n m1_ hm1_) (cwV 1 hts gX8_chainOf_X8_known rfl rfl rfl (by decide +kernel) ⟨Nat.le_of_ble_eq_true rfl, Nat.le_of_ble_eq_true rfl⟩) (ro_V hG hPc (va_recv hK hPc (ci := 8) (q0 := 0) rfl rfl)) rfl rfl hl.1 rfl (lv_room (Nat.le_of_ble_eq_true rfl)) dX8_chainOf_2 ⟨Nat.le_of_ble_eq_true rfl, Nat.le_of_ble_eq_true rfl⟩)) (fun r_1 h_1 => ?_)
    obtain rfl : r_1 = some (ma m1_ 0) := h_1
    refine W.eq (g2 := F0 m 5 ls [.ref (ma m1_ 0)]) rfl ?_
    refine lv_astore_n (lv' := [(3, .ref (ma m1_ 0)), (0, .ref h0), (1, .int (nI m1_)), (2, .int x2)]) hx hb dX8_chainOf_5 rfl hl (by decide) rfl (fun ls hl => ?_)
    refine lv_aload_n hx hb dX8_chainOf_6 rfl (lv_at hl 0 rfl) ?_
    refine lv_ifnull hx hb dX8_chainOf_7 ?_
    refine lv_aload_n hx hb dX8_chainOf_10 rfl (lv_at hl 0 rfl) ?_
    refine va_getN (D := D) (ci := 1) (v := .ref (ma m1_ 3)) (C := RX1) (T := TX1) (N := 9) hx hb hts (fun _ h9 => List.mem_cons_of_mem _ (List.mem_append_left _ (List.mem_append_left _ (List.mem_append_right _ h9)))) hown hK hP (3 + (6 * m1_ + 0)) (mg_x0 rfl hm1_) rfl 4 (by decide) (va_Nw.use rfl (hN.1 (RX8, 123, "BuoyTender$Mark", "chain", "LBuoyTender$Chain;", "BuoyTender") (by decide +kernel))) (fun _ h9 => h9) rfl dX8_chainOf_11 ?_
    refine va_getN (D := D) (ci := 0) (v := .int (mv m1_ 9)) (C := RX0) (T := TX0) (N := 5) hx hb hts (fun _ h9 => List.mem_cons_of_mem _ (List.mem_append_left _ (List.mem_append_right _ h9))) hown hK hP (3 + (6 * m1_ + 3)) (mg_x3 rfl hm1_) rfl 0 (by decide) (va_Nw.use rfl (hN.1 (RX8, 137, "BuoyTender$Chain", "laid", "Z", "BuoyTender") (by decide +kernel))) (fun _ h9 => h9) rfl dX8_chainOf_14 ?_
    refine lv_if_ne (tgt := 22) hx hb dX8_chainOf_17 (by decide) (fun c_2 => ?_) (fun c_2 => ?_)
    · refine lv_iload_n hx hb dX8_chainOf_22 rfl (lv_at hl 3 rfl) ?_
      by_cases s_3 : x2 = 0
      · refine lv_tableIn (off := 25) (tgt := 48) hx hb dX8_chainOf_23 (by rw [s_3]; decide) (by rw [s_3]; decide) (by rw [s_3]; decide) (by decide) ?_
        obtain ⟨c9, hc9, e9⟩ := hsi m1_ hm1_
        refine lv_iconst (v := 0) hx hb dX8_chainOf_48 (by decide) ?_
        refine lv_aload_n hx hb dX8_chainOf_49 rfl (lv_at hl 0 rfl) ?_
        refine va_getN (D := D) (ci := 1) (v := .ref (ma m1_ 3)) (C := RX1) (T := TX1) (N := 9) hx hb hts (fun _ h9 => List.mem_cons_of_mem _ (List.mem_append_left _ (List.mem_append_left _ (List.mem_append_right _ h9)))) hown hK hP (3 + (6 * m1_ + 0)) (mg_x0 rfl hm1_) rfl 4 (by decide) (va_Nw.use rfl (hN.1 (RX8, 123, "BuoyTender$Mark", "chain", "LBuoyTender$Chain;", "BuoyTender") (by decide +kernel))) (fun _ h9 => h9) rfl dX8_chainOf_50 ?_
        refine lv_aload_n hx hb dX8_chainOf_53 rfl (lv_at hl 1 rfl) ?_
        have hPc := hP.sub (ws' := [(h0, .inr (8, [.ref (a 1), .ref (a 2), .ref (a 3), .ref (a 4), .ref (a 5), .ref (a 6), .ref (a 7), .ref (a 8), .int (iv 0), .int (iv 1), .int (iv 2), .int (iv 3)]))]) [0] rfl
        refine vp_callSi (va_Run.run (va_runV (As := []) (rest := [.ref (ma m1_ 3), .int 0]) ⟨hx, hb, hml, hown, hts⟩ (k_X8_thisMonth l D cI cJ cZ cM h0 a iv av T h_T hT) (cwV 0 hts gX8_chainOf_X8_thisMonth rfl rfl rfl (by decide +kernel) ⟨Nat.le_of_ble_eq_true rfl, Nat.le_of_ble_eq_true rfl⟩) (ro_V hG hPc (va_recv hK hPc (ci := 8) (q0 := 0) rfl rfl)) rfl rfl hl.1 rfl (lv_room (Nat.le_of_ble_eq_true rfl)) dX8_chainOf_54 ⟨Nat.le_of_ble_eq_true rfl, Nat.le_of_ble_eq_true rfl⟩)) (fun r_4 h_4 => ?_)
        obtain rfl : r_4 = nI (T / 30) := h_4
        refine lv_aload_n hx hb dX8_chainOf_57 rfl (lv_at hl 1 rfl) ?_
        refine va_get (D := D) (ci := 8) (v := .ref (a 3)) (C := RX8) (T := TX8) (N := 12) hx hb hts (fun _ h9 => List.mem_cons_of_mem _ (List.mem_append_right _ h9)) hown hK hP 0 rfl rfl 2 (by decide) (hts (.fieldLink RX8 19 "BuoyTender" "wears" "[I") (by decide +kernel)) (fun _ h9 => h9) rfl dX8_chainOf_58 ?_
        have hq0 : va_P D vwCl [(ma m1_ 3, .inr (0, [.int (mv m1_ 9), .int (mv m1_ 10), .int (mv m1_ 11), .int (mv m1_ 12), .int (mv m1_ 13)]))] _ := vaP_1 (k := (3 + (6 * m1_ + 3))) hP (mg_x3 rfl hm1_)
        have hq1 : va_P D vwCl [(a 3, .inl (cI, 48, .inl (av 3)))] _ := vaP_1 (k := 2) hP rfl
        have hPc := (va_P.app hq0 hq1)
        have hPc : va_P D vwCl [(ma m1_ 3, .inr (0, [.int (mv m1_ 9), .int (mv m1_ 10), .int (mv m1_ 11), .int (mv m1_ 12), .int (mv m1_ 13)])), (a 3, .inl (cI, 48, .inl (av 3)))] _ := hPc
        refine vp_callSi (va_Run.run (va_runVN (As := [.int (nI (T / 30)), .ref (a 3)]) (rest := [.int 0]) ⟨hx, hb, hml, hown, hts⟩ (k_X0_leftBehind l D cI cJ cZ cM (ma m1_ 3) (mv m1_ 9) (mv m1_ 10) (mv m1_ 11) (mv m1_ 12) (mv m1_ 13) (a 3) (av 3) c9 e9 hc9 (T / 30) (by omega)) ⟨(va_cnB 2 hts gX8_chainOf_X0_leftBehind_n140 rfl rfl rfl (hN.2.1 (RX8, 140, yX0_leftBehind, "BuoyTender") (by decide +kernel)) (hts (.initialized RX0) (by decide +kernel)) (by decide +kernel) ⟨Nat.le_of_ble_eq_true rfl, Nat.le_of_ble_eq_true rfl⟩), hts (.instanceMethod yX0_leftBehind) (by decide +kernel), hts (.selects RX0 yX0_leftBehind yX0_leftBehind) (by decide +kernel)⟩ (ro_V hG hPc (va_recv hK hPc (ci := 0) (q0 := 0) rfl rfl)) rfl rfl hl.1 rfl (lv_room (Nat.le_of_ble_eq_true rfl)) dX8_chainOf_61 ⟨Nat.le_of_ble_eq_true rfl, Nat.le_of_ble_eq_true rfl⟩)) (fun r_5 h_5 => ?_)
        refine va_mmax hx hb (hml.trans hl.1.symm) hown (hts (.methodLink RX8 144 Lib.Math.max.name) (by decide +kernel)) (hts (.static Lib.Math.max.name) (by decide +kernel)) (hts (.initialized "java/lang/Math") (by decide +kernel)) (hts (.code Lib.Math.max.name Lib.Math.max.code 2 (some .int)) (by decide +kernel)) (Nat.le_of_ble_eq_true rfl) (Nat.le_of_ble_eq_true rfl) (Nat.le_of_ble_eq_true rfl) (Nat.le_of_ble_eq_true rfl) dX8_chainOf_64 ?_
        refine lv_topi (fun z_6 ez_6 => ?_)
        have hP9 := hP.part (cx := [(h0, .inr (8, [.ref (a 1), .ref (a 2), .ref (a 3), .ref (a 4), .ref (a 5), .ref (a 6), .ref (a 7), .ref (a 8), .int (iv 0), .int (iv 1), .int (iv 2), .int (iv 3)])), (a 2, .inl (cM, 10, .inr (.inr (.inr (.inr fM))))), (a 3, .inl (cI, 48, .inl (av 3)))]) [0, 1, 2] rfl
        have hD9 := hD.part (cx := [(h0, .inr (8, [.ref (a 1), .ref (a 2), .ref (a 3), .ref (a 4), .ref (a 5), .ref (a 6), .ref (a 7), .ref (a 8), .int (iv 0), .int (iv 1), .int (iv 2), .int (iv 3)])), (a 2, .inl (cM, 10, .inr (.inr (.inr (.inr fM))))), (a 3, .inl (cI, 48, .inl (av 3)))]) [0, 1, 2] (by decide) rfl
        exact W.iret (v := z_6) hx hb hr (fun t ht hW => ⟨⟨z_6, (), rfl, trivial, ⟨by rw [ht]; exact hP9, hD9⟩⟩, hS.F ht⟩) hS.2.2 dX8_chainOf_67
      by_cases s_7 : x2 = 1
      · refine lv_tableIn (off := 45) (tgt := 68) hx hb dX8_chainOf_23 (by rw [s_7]; decide) (by rw [s_7]; decide) (by rw [s_7]; decide) (by decide) ?_
        refine lv_aload_n hx hb dX8_chainOf_68 rfl (lv_at hl 0 rfl) ?_
        refine va_getN (D := D) (ci := 1) (v := .ref (ma m1_ 3)) (C := RX1) (T := TX1) (N := 9) hx hb hts (fun _ h9 => List.mem_cons_of_mem _ (List.mem_append_left _ (List.mem_append_left _ (List.mem_append_right _ h9)))) hown hK hP (3 + (6 * m1_ + 0)) (mg_x0 rfl hm1_) rfl 4 (by decide) (va_Nw.use rfl (hN.1 (RX8, 123, "BuoyTender$Mark", "chain", "LBuoyTender$Chain;", "BuoyTender") (by decide +kernel))) (fun _ h9 => h9) rfl dX8_chainOf_69 ?_
        refine lv_aload_n hx hb dX8_chainOf_72 rfl (lv_at hl 1 rfl) ?_
        refine va_get (D := D) (ci := 8) (v := .ref (a 3)) (C := RX8) (T := TX8) (N := 12) hx hb hts (fun _ h9 => List.mem_cons_of_mem _ (List.mem_append_right _ h9)) hown hK hP 0 rfl rfl 2 (by decide) (hts (.fieldLink RX8 19 "BuoyTender" "wears" "[I") (by decide +kernel)) (fun _ h9 => h9) rfl dX8_chainOf_73 ?_
        have hq0 : va_P D vwCl [(ma m1_ 3, .inr (0, [.int (mv m1_ 9), .int (mv m1_ 10), .int (mv m1_ 11), .int (mv m1_ 12), .int (mv m1_ 13)]))] _ := vaP_1 (k := (3 + (6 * m1_ + 3))) hP (mg_x3 rfl hm1_)
        have hq1 : va_P D vwCl [(a 3, .inl (cI, 48, .inl (av 3)))] _ := vaP_1 (k := 2) hP rfl
        have hPc := (va_P.app hq0 hq1)
        have hPc : va_P D vwCl [(ma m1_ 3, .inr (0, [.int (mv m1_ 9), .int (mv m1_ 10), .int (mv m1_ 11), .int (mv m1_ 12), .int (mv m1_ 13)])), (a 3, .inl (cI, 48, .inl (av 3)))] _ := hPc
        refine vp_callSi (va_Run.run (va_runVN (As := [.ref (a 3)]) (rest := []) ⟨hx, hb, hml, hown, hts⟩ (k_X0_lifeEnds l D cI cJ cZ cM (ma m1_ 3) (mv m1_ 9) (mv m1_ 10) (mv m1_ 11) (mv m1_ 12) (mv m1_ 13) (a 3) (av 3)) ⟨(va_cnB 1 hts gX8_chainOf_X0_lifeEnds_n150 rfl rfl rfl (hN.2.1 (RX8, 150, yX0_lifeEnds, "BuoyTender") (by decide +kernel)) (hts (.initialized RX0) (by decide +kernel)) (by decide +kernel) ⟨Nat.le_of_ble_eq_true rfl, Nat.le_of_ble_eq_true rfl⟩), hts (.instanceMethod yX0_lifeEnds) (by decide +kernel), hts (.selects RX0 yX0_lifeEnds yX0_lifeEnds) (by decide +kernel)⟩ (ro_V hG hPc (va_recv hK hPc (ci := 0) (q0 := 0) rfl rfl)) rfl rfl hl.1 rfl (lv_room (Nat.le_of_ble_eq_true rfl)) dX8_chainOf_76 ⟨Nat.le_of_ble_eq_true rfl, Nat.le_of_ble_eq_true rfl⟩)) (fun r_8 h_8 => ?_)
        have hP9 := hP.part (cx := [(h0, .inr (8, [.ref (a 1), .ref (a 2), .ref (a 3), .ref (a 4), .ref (a 5), .ref (a 6), .ref (a 7), .ref (a 8), .int (iv 0), .int (iv 1), .int (iv 2), .int (iv 3)])), (a 2, .inl (cM, 10, .inr (.inr (.inr (.inr fM))))), (a 3, .inl (cI, 48, .inl (av 3)))]) [0, 1, 2] rfl
        have hD9 := hD.part (cx := [(h0, .inr (8, [.ref (a 1), .ref (a 2), .ref (a 3), .ref (a 4), .ref (a 5), .ref (a 6), .ref (a 7), .ref (a 8), .int (iv 0), .int (iv 1), .int (iv 2), .int (iv 3)])), (a 2, .inl (cM, 10, .inr (.inr (.inr (.inr fM))))), (a 3, .inl (cI, 48, .inl (av 3)))]) [0, 1, 2] (by decide) rfl
        exact W.iret (v := r_8) hx hb hr (fun t ht hW => ⟨⟨r_8, (), rfl, trivial, ⟨by rw [ht]; exact hP9, hD9⟩⟩, hS.F ht⟩) hS.2.2 dX8_chainOf_79
      by_cases s_9 : x2 = 2
      · refine lv_tableIn (off := 57) (tgt := 80) hx hb dX8_chainOf_23 (by rw [s_9]; decide) (by rw [s_9]; decide) (by rw [s_9]; decide) (by decide) ?_
        refine lv_aload_n hx hb dX8_chainOf_80 rfl (lv_at hl 0 rfl) ?_
        refine va_getN (D := D) (ci := 1) (v := .ref (ma m1_ 3)) (C := RX1) (T := TX1) (N := 9) hx hb hts (fun _ h9 => List.mem_cons_of_mem _ (List.mem_append_left _ (List.mem_append_left _ (List.mem_append_right _ h9)))) hown hK hP (3 + (6 * m1_ + 0)) (mg_x0 rfl hm1_) rfl 4 (by decide) (va_Nw.use rfl (hN.1 (RX8, 123, "BuoyTender$Mark", "chain", "LBuoyTender$Chain;", "BuoyTender") (by decide +kernel))) (fun _ h9 => h9) rfl dX8_chainOf_81 ?_
        refine va_getN (D := D) (ci := 0) (v := .int (mv m1_ 13)) (C := RX0) (T := TX0) (N := 5) hx hb hts (fun _ h9 => List.mem_cons_of_mem _ (List.mem_append_left _ (List.mem_append_right _ h9))) hown hK hP (3 + (6 * m1_ + 3)) (mg_x3 rfl hm1_) rfl 4 (by decide) (va_Nw.use rfl (hN.1 (RX8, 154, "BuoyTender$Chain", "since", "I", "BuoyTender") (by decide +kernel))) (fun _ h9 => h9) rfl dX8_chainOf_84 ?_
        have hP9 := hP.part (cx := [(h0, .inr (8, [.ref (a 1), .ref (a 2), .ref (a 3), .ref (a 4), .ref (a 5), .ref (a 6), .ref (a 7), .ref (a 8), .int (iv 0), .int (iv 1), .int (iv 2), .int (iv 3)])), (a 2, .inl (cM, 10, .inr (.inr (.inr (.inr fM))))), (a 3, .inl (cI, 48, .inl (av 3)))]) [0, 1, 2] rfl
        have hD9 := hD.part (cx := [(h0, .inr (8, [.ref (a 1), .ref (a 2), .ref (a 3), .ref (a 4), .ref (a 5), .ref (a 6), .ref (a 7), .ref (a 8), .int (iv 0), .int (iv 1), .int (iv 2), .int (iv 3)])), (a 2, .inl (cM, 10, .inr (.inr (.inr (.inr fM))))), (a 3, .inl (cI, 48, .inl (av 3)))]) [0, 1, 2] (by decide) rfl
        exact W.iret (v := (mv m1_ 13)) hx hb hr (fun t ht hW => ⟨⟨(mv m1_ 13), (), rfl, trivial, ⟨by rw [ht]; exact hP9, hD9⟩⟩, hS.F ht⟩) hS.2.2 dX8_chainOf_87
      refine lv_tableOut (tgt := 88) hx hb dX8_chainOf_23 (my_out (hi := 2) (fun z hz => by rcases (show z = 0 ∨ z = 1 ∨ z = 2 by omega) with rfl | rfl | rfl <;> assumption) (by decide)) (by decide) ?_
      refine lv_iconst (v := (-1)) hx hb dX8_chainOf_88 (by decide) ?_
      have hP9 := hP.part (cx := [(h0, .inr (8, [.ref (a 1), .ref (a 2), .ref (a 3), .ref (a 4), .ref (a 5), .ref (a 6), .ref (a 7), .ref (a 8), .int (iv 0), .int (iv 1), .int (iv 2), .int (iv 3)])), (a 2, .inl (cM, 10, .inr (.inr (.inr (.inr fM))))), (a 3, .inl (cI, 48, .inl (av 3)))]) [0, 1, 2] rfl
      have hD9 := hD.part (cx := [(h0, .inr (8, [.ref (a 1), .ref (a 2), .ref (a 3), .ref (a 4), .ref (a 5), .ref (a 6), .ref (a 7), .ref (a 8), .int (iv 0), .int (iv 1), .int (iv 2), .int (iv 3)])), (a 2, .inl (cM, 10, .inr (.inr (.inr (.inr fM))))), (a 3, .inl (cI, 48, .inl (av 3)))]) [0, 1, 2] (by decide) rfl
      exact W.iret (v := (-1)) hx hb hr (fun t ht hW => ⟨⟨(-1), (), rfl, trivial, ⟨by rw [ht]; exact hP9, hD9⟩⟩, hS.F ht⟩) hS.2.2 dX8_chainOf_89
    refine lv_iconst (v := (-1)) hx hb dX8_chainOf_20 (by decide) ?_
    have hP9 := hP.part (cx := [(h0, .inr (8, [.ref (a 1), .ref (a 2), .ref (a 3), .ref (a 4), .ref (a 5), .ref (a 6), .ref (a 7), .ref (a 8), .int (iv 0), .int (iv 1), .int (iv 2), .int (iv 3)])), (a 2, .inl (cM, 10, .inr (.inr (.inr (.inr fM))))), (a 3, .inl (cI, 48, .inl (av 3)))]) [0, 1, 2] rfl
    have hD9 := hD.part (cx := [(h0, .inr (8, [.ref (a 1), .ref (a 2), .ref (a 3), .ref (a 4), .ref (a 5), .ref (a 6), .ref (a 7), .ref (a 8), .int (iv 0), .int (iv 1), .int (iv 2), .int (iv 3)])), (a 2, .inl (cM, 10, .inr (.inr (.inr (.inr fM))))), (a 3, .inl (cI, 48, .inl (av 3)))]) [0, 1, 2] (by decide) rfl
    exact W.iret (v := (-1)) hx hb hr (fun t ht hW => ⟨⟨(-1), (), rfl, trivial, ⟨by rw [ht]; exact hP9, hD9⟩⟩, hS.F ht⟩) hS.2.2 dX8_chainOf_21
  · have hPc := hP.sub (ws' := [(h0, .inr (8, [.ref (a 1), .ref (a 2), .ref (a 3), .ref (a 4), .ref (a 5), .ref (a 6), .ref (a 7), .ref (a 8), .int (iv 0), .int (iv 1), .int (iv 2), .int (iv 3)])), (a 2, .inl (cM, 10, .inr (.inr (.inr (.inr fM)))))]) [0, 1] rfl
    refine va_csq (va_Run.run (va_runV (As := [.int x1]) (rest := []) ⟨hx, hb, hml, hown, hts⟩ (k_X8_known_n l D cI cJ cZ cM h0 a iv ma n0 fM hn0 hfM h_n x1 hno_1) (cwV 1 hts gX8_chainOf_X8_known rfl rfl rfl (by decide +kernel) ⟨Nat.le_of_ble_eq_true rfl, Nat.le_of_ble_eq_true rfl⟩) (ro_V hG hPc (va_recv hK hPc (ci := 8) (q0 := 0) rfl rfl)) rfl rfl hl.1 rfl (lv_room (Nat.le_of_ble_eq_true rfl)) dX8_chainOf_2 ⟨Nat.le_of_ble_eq_true rfl, Nat.le_of_ble_eq_true rfl⟩)) (fun r_1 h_1 => ?_)
    obtain rfl : r_1 = none := h_1
    refine W.eq (g2 := F0 m 5 ls [.null]) rfl ?_
    refine lv_astore_nN (lv' := [(3, .null), (0, .ref h0), (1, .int x1), (2, .int x2)]) hx hb dX8_chainOf_5 rfl hl (by decide) rfl (fun ls hl => ?_)
    refine lv_aload_nN hx hb dX8_chainOf_6 rfl (lv_at hl 0 rfl) ?_
    refine lv_ifnullN (tgt := 20) hx hb dX8_chainOf_7 (by decide) ?_
    refine lv_iconst (v := (-1)) hx hb dX8_chainOf_20 (by decide) ?_
    have hP9 := hP.part (cx := [(h0, .inr (8, [.ref (a 1), .ref (a 2), .ref (a 3), .ref (a 4), .ref (a 5), .ref (a 6), .ref (a 7), .ref (a 8), .int (iv 0), .int (iv 1), .int (iv 2), .int (iv 3)])), (a 2, .inl (cM, 10, .inr (.inr (.inr (.inr fM))))), (a 3, .inl (cI, 48, .inl (av 3)))]) [0, 1, 2] rfl
    have hD9 := hD.part (cx := [(h0, .inr (8, [.ref (a 1), .ref (a 2), .ref (a 3), .ref (a 4), .ref (a 5), .ref (a 6), .ref (a 7), .ref (a 8), .int (iv 0), .int (iv 1), .int (iv 2), .int (iv 3)])), (a 2, .inl (cM, 10, .inr (.inr (.inr (.inr fM))))), (a 3, .inl (cI, 48, .inl (av 3)))]) [0, 1, 2] (by decide) rfl
    exact W.iret (v := (-1)) hx hb hr (fun t ht hW => ⟨⟨(-1), (), rfl, trivial, ⟨by rw [ht]; exact hP9, hD9⟩⟩, hS.F ht⟩) hS.2.2 dX8_chainOf_21
