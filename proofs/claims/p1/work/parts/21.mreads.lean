set_option maxHeartbeats 4000000 in
set_option maxRecDepth 100000 in
/-- no mark -/
theorem k_X9_isMark (l : Launch) (D : va_G) (cI cJ cZ cM : Nat) (h0 : Nat) (n : Nat → Nat) (x1 : Int32) : Met l yX9_isMark wsX9_isMark ({ frames := 1, cells := 0, slots := 0, locals := 22 } : Room) (RO D cI cJ cZ cM [.ref h0, .int x1] [(h0, .inr (9, [.ref (n 0), .int 0, .ref (n 2), .ref (n 3), .ref (n 4), .ref (n 5), .ref (n 6), .int 0, .ref (n 8), .ref (n 9), .ref (n 10), .ref (n 11), .ref (n 12), .ref (n 13), .ref (n 14), .int 0, .int 0, .ref (n 17), .ref (n 18), .ref (n 19), .ref (n 20), .ref (n 21), .ref (n 22), .ref (n 23), .ref (n 24), .ref (n 25), .int 1, .int 0, .int 12, .int 0, .int 0, .int 0, .int 0, .int 1440, .ref (n 34), .ref (n 35), .int 0, .int 0, .int 0, .ref (n 39), .ref (n 40), .ref (n 41), .ref (n 42), .int 0, .int 0, .int 0]))]) (vp_Si (fun r => r = 0)) 0 0 (fun _ => False) := by
  refine Met.ofW (cc := cX9_isMark) (maxL := 2) (ret := (some .boolean)) (by decide) rfl ?_
  intro p e s m args below meth c s₁ B hml hv
  obtain ⟨rfl, hG, hP⟩ := hv
  have hx := B.exec
  have hb := B.bytes
  have hr := B.returns
  have hts := atoms_spec (ws := wsX9_isMark) B.pre
  have hown : s.vm.findClass RX9 = some m.cls := findClass_of_methodNamed B.named
  have hlocks := B.notSynchronized
  have hK := hG.1
  have hN := hG.2
  have hl := lv_entry ([.ref h0, .int x1]) (n := 2) (Nat.le_of_ble_eq_true rfl)
  rw [lg_entry_eq]
  generalize (lg_sl ([.ref h0, .int x1]) ++ List.replicate (2 - (lg_sl ([.ref h0, .int x1])).length) Slot.unset).toArray = ls at hl ⊢
  have hl : lv_has ls 2 [(0, .ref h0), (1, .int x1)] := hl
  refine lv_iload_n hx hb dX9_isMark_0 rfl (lv_at hl 1 rfl) ?_
  refine lv_iconst (v := 0) hx hb dX9_isMark_1 (by decide) ?_
  refine lv_aload_n hx hb dX9_isMark_2 rfl (lv_at hl 0 rfl) ?_
  refine va_get (D := D) (ci := 9) (v := .int 0) (C := RX9) (T := TX9) (N := 46) hx hb hts (fun _ h9 => List.mem_cons_of_mem _ (List.mem_append_right _ h9)) hown hK hP 0 rfl rfl 1 (by decide) (hts (.fieldLink RX9 109 "BuoyTenderModel" "marks" "I") (by decide +kernel)) (fun _ h9 => h9) rfl dX9_isMark_3 ?_
  refine lv_iconst (v := 1) hx hb dX9_isMark_6 (by decide) ?_
  refine lv_isub hx hb dX9_isMark_7 ?_
  refine lv_topi (fun z_1 ez_1 => ?_)
  obtain rfl : z_1 = (-1) := ez_1.trans (by decide)
  refine vp_callSi (va_Run.run (va_runS (As := [.int x1, .int 0, .int (-1)]) (rest := []) ⟨hx, hb, hml, hown, hts⟩ (k_X9_in l x1 0 (-1)) (va_cwS 3 hts gX9_isMark_X9_in rfl rfl rfl (by decide +kernel) ⟨Nat.le_of_ble_eq_true rfl, Nat.le_of_ble_eq_true rfl⟩) preEq rfl rfl hl.1 rfl (lv_room (Nat.le_of_ble_eq_true rfl)) dX9_isMark_8 ⟨Nat.le_of_ble_eq_true rfl, Nat.le_of_ble_eq_true rfl⟩)) (fun r_2 h_2 => ?_)
  rcases h_2 with ⟨rfl, h_2⟩ | ⟨rfl, h_2⟩
  · exact (my_gap h_2 (by decide)).elim
  exact W.zret (v := 0) hx hb hr rfl (fun t ht hW => ⟨0, rfl, rfl, ht⟩) (fun _ h => by cases h) dX9_isMark_11
set_option maxHeartbeats 4000000 in
set_option maxRecDepth 100000 in
/-- sight of a fresh reference -/
theorem k_X9_sight (l : Launch) (D : va_G) (cI cJ cZ cM : Nat) (h0 : Nat) (n : Nat → Nat) (x1 : Int32) : Met l yX9_sight wsX9_sight ({ frames := 2, cells := 0, slots := 0, locals := 43 } : Room) (RO D cI cJ cZ cM [.ref h0, .int x1] [(h0, .inr (9, [.ref (n 0), .int 0, .ref (n 2), .ref (n 3), .ref (n 4), .ref (n 5), .ref (n 6), .int 0, .ref (n 8), .ref (n 9), .ref (n 10), .ref (n 11), .ref (n 12), .ref (n 13), .ref (n 14), .int 0, .int 0, .ref (n 17), .ref (n 18), .ref (n 19), .ref (n 20), .ref (n 21), .ref (n 22), .ref (n 23), .ref (n 24), .ref (n 25), .int 1, .int 0, .int 12, .int 0, .int 0, .int 0, .int 0, .int 1440, .ref (n 34), .ref (n 35), .int 0, .int 0, .int 0, .ref (n 39), .ref (n 40), .ref (n 41), .ref (n 42), .int 0, .int 0, .int 0]))]) (vp_Si (fun r => r = 0)) 0 0 (fun _ => False) := by
  refine Met.ofW (cc := cX9_sight) (maxL := 3) (ret := (some .boolean)) (by decide) rfl ?_
  intro p e s m args below meth c s₁ B hml hv
  obtain ⟨rfl, hG, hP⟩ := hv
  have hx := B.exec
  have hb := B.bytes
  have hr := B.returns
  have hts := atoms_spec (ws := wsX9_sight) B.pre
  have hown : s.vm.findClass RX9 = some m.cls := findClass_of_methodNamed B.named
  have hlocks := B.notSynchronized
  have hK := hG.1
  have hN := hG.2
  have hl := lv_entry ([.ref h0, .int x1]) (n := 3) (Nat.le_of_ble_eq_true rfl)
  rw [lg_entry_eq]
  generalize (lg_sl ([.ref h0, .int x1]) ++ List.replicate (3 - (lg_sl ([.ref h0, .int x1])).length) Slot.unset).toArray = ls at hl ⊢
  have hl : lv_has ls 3 [(0, .ref h0), (1, .int x1)] := hl
  refine lv_aload_n hx hb dX9_sight_0 rfl (lv_at hl 0 rfl) ?_
  refine lv_iload_n hx hb dX9_sight_1 rfl (lv_at hl 1 rfl) ?_
  have hPc := hP.sub (ws' := [(h0, .inr (9, [.ref (n 0), .int 0, .ref (n 2), .ref (n 3), .ref (n 4), .ref (n 5), .ref (n 6), .int 0, .ref (n 8), .ref (n 9), .ref (n 10), .ref (n 11), .ref (n 12), .ref (n 13), .ref (n 14), .int 0, .int 0, .ref (n 17), .ref (n 18), .ref (n 19), .ref (n 20), .ref (n 21), .ref (n 22), .ref (n 23), .ref (n 24), .ref (n 25), .int 1, .int 0, .int 12, .int 0, .int 0, .int 0, .int 0, .int 1440, .ref (n 34), .ref (n 35), .int 0, .int 0, .int 0, .ref (n 39), .ref (n 40), .ref (n 41), .ref (n 42), .int 0, .int 0, .int 0]))]) [0] rfl
  refine vp_callSi (va_Run.run (va_runV (As := [.int x1]) (rest := []) ⟨hx, hb, hml, hown, hts⟩ (k_X9_isMark l D cI cJ cZ cM h0 n x1) (cwV 1 hts gX9_sight_X9_isMark rfl rfl rfl (by decide +kernel) ⟨Nat.le_of_ble_eq_true rfl, Nat.le_of_ble_eq_true rfl⟩) (ro_V hG hPc (va_recv hK hPc (ci := 9) (q0 := 0) rfl rfl)) rfl rfl hl.1 rfl (lv_room (Nat.le_of_ble_eq_true rfl)) dX9_sight_2 ⟨Nat.le_of_ble_eq_true rfl, Nat.le_of_ble_eq_true rfl⟩)) (fun r_1 h_1 => ?_)
  obtain rfl : r_1 = 0 := h_1
  refine lv_if_ne (tgt := 10) hx hb dX9_sight_5 (by decide) (fun c_2 => False.elim (by revert c_2; decide)) (fun _ => ?_)
  refine lv_iconst (v := 0) hx hb dX9_sight_8 (by decide) ?_
  exact W.zret (v := 0) hx hb hr rfl (fun t ht hW => ⟨0, rfl, rfl, ht⟩) (fun _ h => by cases h) dX9_sight_9
set_option maxHeartbeats 4000000 in
set_option maxRecDepth 100000 in
/-- bearing of a fresh reference -/
theorem k_X9_bearing (l : Launch) (D : va_G) (cI cJ cZ cM : Nat) (h0 : Nat) (n : Nat → Nat) (x1 : Int32) (x2 : Int32) (x3 : Int32) (x4 : Int32) (x5 : Int32) (x6 : Int32) : Met l yX9_bearing wsX9_bearing ({ frames := 2, cells := 0, slots := 0, locals := 43 } : Room) (RO D cI cJ cZ cM [.ref h0, .int x1, .int x2, .int x3, .int x4, .int x5, .int x6] [(h0, .inr (9, [.ref (n 0), .int 0, .ref (n 2), .ref (n 3), .ref (n 4), .ref (n 5), .ref (n 6), .int 0, .ref (n 8), .ref (n 9), .ref (n 10), .ref (n 11), .ref (n 12), .ref (n 13), .ref (n 14), .int 0, .int 0, .ref (n 17), .ref (n 18), .ref (n 19), .ref (n 20), .ref (n 21), .ref (n 22), .ref (n 23), .ref (n 24), .ref (n 25), .int 1, .int 0, .int 12, .int 0, .int 0, .int 0, .int 0, .int 1440, .ref (n 34), .ref (n 35), .int 0, .int 0, .int 0, .ref (n 39), .ref (n 40), .ref (n 41), .ref (n 42), .int 0, .int 0, .int 0]))]) (vp_Si (fun r => r = 0)) 0 0 (fun _ => False) := by
  refine Met.ofW (cc := cX9_bearing) (maxL := 10) (ret := (some .boolean)) (by decide) rfl ?_
  intro p e s m args below meth c s₁ B hml hv
  obtain ⟨rfl, hG, hP⟩ := hv
  have hx := B.exec
  have hb := B.bytes
  have hr := B.returns
  have hts := atoms_spec (ws := wsX9_bearing) B.pre
  have hown : s.vm.findClass RX9 = some m.cls := findClass_of_methodNamed B.named
  have hlocks := B.notSynchronized
  have hK := hG.1
  have hN := hG.2
  have hl := lv_entry ([.ref h0, .int x1, .int x2, .int x3, .int x4, .int x5, .int x6]) (n := 10) (Nat.le_of_ble_eq_true rfl)
  rw [lg_entry_eq]
  generalize (lg_sl ([.ref h0, .int x1, .int x2, .int x3, .int x4, .int x5, .int x6]) ++ List.replicate (10 - (lg_sl ([.ref h0, .int x1, .int x2, .int x3, .int x4, .int x5, .int x6])).length) Slot.unset).toArray = ls at hl ⊢
  have hl : lv_has ls 10 [(0, .ref h0), (1, .int x1), (2, .int x2), (3, .int x3), (4, .int x4), (5, .int x5), (6, .int x6)] := hl
  refine lv_aload_n hx hb dX9_bearing_0 rfl (lv_at hl 0 rfl) ?_
  refine lv_iload_n hx hb dX9_bearing_1 rfl (lv_at hl 1 rfl) ?_
  have hPc := hP.sub (ws' := [(h0, .inr (9, [.ref (n 0), .int 0, .ref (n 2), .ref (n 3), .ref (n 4), .ref (n 5), .ref (n 6), .int 0, .ref (n 8), .ref (n 9), .ref (n 10), .ref (n 11), .ref (n 12), .ref (n 13), .ref (n 14), .int 0, .int 0, .ref (n 17), .ref (n 18), .ref (n 19), .ref (n 20), .ref (n 21), .ref (n 22), .ref (n 23), .ref (n 24), .ref (n 25), .int 1, .int 0, .int 12, .int 0, .int 0, .int 0, .int 0, .int 1440, .ref (n 34), .ref (n 35), .int 0, .int 0, .int 0, .ref (n 39), .ref (n 40), .ref (n 41), .ref (n 42), .int 0, .int 0, .int 0]))]) [0] rfl
  refine vp_callSi (va_Run.run (va_runV (As := [.int x1]) (rest := []) ⟨hx, hb, hml, hown, hts⟩ (k_X9_isMark l D cI cJ cZ cM h0 n x1) (cwV 1 hts gX9_bearing_X9_isMark rfl rfl rfl (by decide +kernel) ⟨Nat.le_of_ble_eq_true rfl, Nat.le_of_ble_eq_true rfl⟩) (ro_V hG hPc (va_recv hK hPc (ci := 9) (q0 := 0) rfl rfl)) rfl rfl hl.1 rfl (lv_room (Nat.le_of_ble_eq_true rfl)) dX9_bearing_2 ⟨Nat.le_of_ble_eq_true rfl, Nat.le_of_ble_eq_true rfl⟩)) (fun r_1 h_1 => ?_)
  obtain rfl : r_1 = 0 := h_1
  refine lv_if_eq (tgt := 40) hx hb dX9_bearing_5 (by decide) (fun _ => ?_) (fun c_2 => False.elim (by revert c_2; decide))
  refine lv_iconst (v := 0) hx hb dX9_bearing_40 (by decide) ?_
  exact W.zret (v := 0) hx hb hr rfl (fun t ht hW => ⟨0, rfl, rfl, ht⟩) (fun _ h => by cases h) dX9_bearing_41
set_option maxHeartbeats 4000000 in
set_option maxRecDepth 100000 in
/-- sounding of a fresh reference -/
theorem k_X9_sounding (l : Launch) (D : va_G) (cI cJ cZ cM : Nat) (h0 : Nat) (n : Nat → Nat) (x1 : Int32) (x2 : Int32) (x3 : Int32) : Met l yX9_sounding wsX9_sounding ({ frames := 2, cells := 0, slots := 0, locals := 43 } : Room) (RO D cI cJ cZ cM [.ref h0, .int x1, .int x2, .int x3] [(h0, .inr (9, [.ref (n 0), .int 0, .ref (n 2), .ref (n 3), .ref (n 4), .ref (n 5), .ref (n 6), .int 0, .ref (n 8), .ref (n 9), .ref (n 10), .ref (n 11), .ref (n 12), .ref (n 13), .ref (n 14), .int 0, .int 0, .ref (n 17), .ref (n 18), .ref (n 19), .ref (n 20), .ref (n 21), .ref (n 22), .ref (n 23), .ref (n 24), .ref (n 25), .int 1, .int 0, .int 12, .int 0, .int 0, .int 0, .int 0, .int 1440, .ref (n 34), .ref (n 35), .int 0, .int 0, .int 0, .ref (n 39), .ref (n 40), .ref (n 41), .ref (n 42), .int 0, .int 0, .int 0]))]) (vp_Si (fun r => r = 0)) 0 0 (fun _ => False) := by
  refine Met.ofW (cc := cX9_sounding) (maxL := 5) (ret := (some .boolean)) (by decide) rfl ?_
  intro p e s m args below meth c s₁ B hml hv
  obtain ⟨rfl, hG, hP⟩ := hv
  have hx := B.exec
  have hb := B.bytes
  have hr := B.returns
  have hts := atoms_spec (ws := wsX9_sounding) B.pre
  have hown : s.vm.findClass RX9 = some m.cls := findClass_of_methodNamed B.named
  have hlocks := B.notSynchronized
  have hK := hG.1
  have hN := hG.2
  have hl := lv_entry ([.ref h0, .int x1, .int x2, .int x3]) (n := 5) (Nat.le_of_ble_eq_true rfl)
  rw [lg_entry_eq]
  generalize (lg_sl ([.ref h0, .int x1, .int x2, .int x3]) ++ List.replicate (5 - (lg_sl ([.ref h0, .int x1, .int x2, .int x3])).length) Slot.unset).toArray = ls at hl ⊢
  have hl : lv_has ls 5 [(0, .ref h0), (1, .int x1), (2, .int x2), (3, .int x3)] := hl
  refine lv_aload_n hx hb dX9_sounding_0 rfl (lv_at hl 0 rfl) ?_
  refine lv_iload_n hx hb dX9_sounding_1 rfl (lv_at hl 1 rfl) ?_
  have hPc := hP.sub (ws' := [(h0, .inr (9, [.ref (n 0), .int 0, .ref (n 2), .ref (n 3), .ref (n 4), .ref (n 5), .ref (n 6), .int 0, .ref (n 8), .ref (n 9), .ref (n 10), .ref (n 11), .ref (n 12), .ref (n 13), .ref (n 14), .int 0, .int 0, .ref (n 17), .ref (n 18), .ref (n 19), .ref (n 20), .ref (n 21), .ref (n 22), .ref (n 23), .ref (n 24), .ref (n 25), .int 1, .int 0, .int 12, .int 0, .int 0, .int 0, .int 0, .int 1440, .ref (n 34), .ref (n 35), .int 0, .int 0, .int 0, .ref (n 39), .ref (n 40), .ref (n 41), .ref (n 42), .int 0, .int 0, .int 0]))]) [0] rfl
  refine vp_callSi (va_Run.run (va_runV (As := [.int x1]) (rest := []) ⟨hx, hb, hml, hown, hts⟩ (k_X9_isMark l D cI cJ cZ cM h0 n x1) (cwV 1 hts gX9_sounding_X9_isMark rfl rfl rfl (by decide +kernel) ⟨Nat.le_of_ble_eq_true rfl, Nat.le_of_ble_eq_true rfl⟩) (ro_V hG hPc (va_recv hK hPc (ci := 9) (q0 := 0) rfl rfl)) rfl rfl hl.1 rfl (lv_room (Nat.le_of_ble_eq_true rfl)) dX9_sounding_2 ⟨Nat.le_of_ble_eq_true rfl, Nat.le_of_ble_eq_true rfl⟩)) (fun r_1 h_1 => ?_)
  obtain rfl : r_1 = 0 := h_1
  refine lv_if_eq (tgt := 30) hx hb dX9_sounding_5 (by decide) (fun _ => ?_) (fun c_2 => False.elim (by revert c_2; decide))
  refine lv_iconst (v := 0) hx hb dX9_sounding_30 (by decide) ?_
  exact W.zret (v := 0) hx hb hr rfl (fun t ht hW => ⟨0, rfl, rfl, ht⟩) (fun _ h => by cases h) dX9_sounding_31
set_option maxHeartbeats 4000000 in
set_option maxRecDepth 100000 in
/-- lies of a fresh reference -/
theorem k_X9_lies (l : Launch) (D : va_G) (cI cJ cZ cM : Nat) (h0 : Nat) (n : Nat → Nat) (x1 : Int32) (x2 : Int32) : Met l yX9_lies wsX9_lies ({ frames := 2, cells := 0, slots := 0, locals := 43 } : Room) (RO D cI cJ cZ cM [.ref h0, .int x1, .int x2] [(h0, .inr (9, [.ref (n 0), .int 0, .ref (n 2), .ref (n 3), .ref (n 4), .ref (n 5), .ref (n 6), .int 0, .ref (n 8), .ref (n 9), .ref (n 10), .ref (n 11), .ref (n 12), .ref (n 13), .ref (n 14), .int 0, .int 0, .ref (n 17), .ref (n 18), .ref (n 19), .ref (n 20), .ref (n 21), .ref (n 22), .ref (n 23), .ref (n 24), .ref (n 25), .int 1, .int 0, .int 12, .int 0, .int 0, .int 0, .int 0, .int 1440, .ref (n 34), .ref (n 35), .int 0, .int 0, .int 0, .ref (n 39), .ref (n 40), .ref (n 41), .ref (n 42), .int 0, .int 0, .int 0]))]) (vp_Si (fun r => r = -1)) 0 0 (fun _ => False) := by
  refine Met.ofW (cc := cX9_lies) (maxL := 12) (ret := (some .int)) (by decide) rfl ?_
  intro p e s m args below meth c s₁ B hml hv
  obtain ⟨rfl, hG, hP⟩ := hv
  have hx := B.exec
  have hb := B.bytes
  have hr := B.returns
  have hts := atoms_spec (ws := wsX9_lies) B.pre
  have hown : s.vm.findClass RX9 = some m.cls := findClass_of_methodNamed B.named
  have hlocks := B.notSynchronized
  have hK := hG.1
  have hN := hG.2
  have hl := lv_entry ([.ref h0, .int x1, .int x2]) (n := 12) (Nat.le_of_ble_eq_true rfl)
  rw [lg_entry_eq]
  generalize (lg_sl ([.ref h0, .int x1, .int x2]) ++ List.replicate (12 - (lg_sl ([.ref h0, .int x1, .int x2])).length) Slot.unset).toArray = ls at hl ⊢
  have hl : lv_has ls 12 [(0, .ref h0), (1, .int x1), (2, .int x2)] := hl
  refine lv_aload_n hx hb dX9_lies_0 rfl (lv_at hl 0 rfl) ?_
  refine lv_iload_n hx hb dX9_lies_1 rfl (lv_at hl 1 rfl) ?_
  have hPc := hP.sub (ws' := [(h0, .inr (9, [.ref (n 0), .int 0, .ref (n 2), .ref (n 3), .ref (n 4), .ref (n 5), .ref (n 6), .int 0, .ref (n 8), .ref (n 9), .ref (n 10), .ref (n 11), .ref (n 12), .ref (n 13), .ref (n 14), .int 0, .int 0, .ref (n 17), .ref (n 18), .ref (n 19), .ref (n 20), .ref (n 21), .ref (n 22), .ref (n 23), .ref (n 24), .ref (n 25), .int 1, .int 0, .int 12, .int 0, .int 0, .int 0, .int 0, .int 1440, .ref (n 34), .ref (n 35), .int 0, .int 0, .int 0, .ref (n 39), .ref (n 40), .ref (n 41), .ref (n 42), .int 0, .int 0, .int 0]))]) [0] rfl
  refine vp_callSi (va_Run.run (va_runV (As := [.int x1]) (rest := []) ⟨hx, hb, hml, hown, hts⟩ (k_X9_isMark l D cI cJ cZ cM h0 n x1) (cwV 1 hts gX9_lies_X9_isMark rfl rfl rfl (by decide +kernel) ⟨Nat.le_of_ble_eq_true rfl, Nat.le_of_ble_eq_true rfl⟩) (ro_V hG hPc (va_recv hK hPc (ci := 9) (q0 := 0) rfl rfl)) rfl rfl hl.1 rfl (lv_room (Nat.le_of_ble_eq_true rfl)) dX9_lies_2 ⟨Nat.le_of_ble_eq_true rfl, Nat.le_of_ble_eq_true rfl⟩)) (fun r_1 h_1 => ?_)
  obtain rfl : r_1 = 0 := h_1
  refine lv_if_ne (tgt := 10) hx hb dX9_lies_5 (by decide) (fun c_2 => False.elim (by revert c_2; decide)) (fun _ => ?_)
  refine lv_iconst (v := (-1)) hx hb dX9_lies_8 (by decide) ?_
  exact W.iret (v := (-1)) hx hb hr (fun t ht hW => ⟨(-1), rfl, rfl, ht⟩) (fun _ h => by cases h) dX9_lies_9
set_option maxHeartbeats 4000000 in
set_option maxRecDepth 100000 in
/-- chain of a fresh reference -/
theorem k_X9_chain (l : Launch) (D : va_G) (cI cJ cZ cM : Nat) (h0 : Nat) (n : Nat → Nat) (x1 : Int32) (x2 : Int32) (x3 : Int32) (x4 : Int32) : Met l yX9_chain wsX9_chain ({ frames := 2, cells := 0, slots := 0, locals := 43 } : Room) (RO D cI cJ cZ cM [.ref h0, .int x1, .int x2, .int x3, .int x4] [(h0, .inr (9, [.ref (n 0), .int 0, .ref (n 2), .ref (n 3), .ref (n 4), .ref (n 5), .ref (n 6), .int 0, .ref (n 8), .ref (n 9), .ref (n 10), .ref (n 11), .ref (n 12), .ref (n 13), .ref (n 14), .int 0, .int 0, .ref (n 17), .ref (n 18), .ref (n 19), .ref (n 20), .ref (n 21), .ref (n 22), .ref (n 23), .ref (n 24), .ref (n 25), .int 1, .int 0, .int 12, .int 0, .int 0, .int 0, .int 0, .int 1440, .ref (n 34), .ref (n 35), .int 0, .int 0, .int 0, .ref (n 39), .ref (n 40), .ref (n 41), .ref (n 42), .int 0, .int 0, .int 0]))]) (vp_Si (fun r => r = 0)) 0 0 (fun _ => False) := by
  refine Met.ofW (cc := cX9_chain) (maxL := 5) (ret := (some .boolean)) (by decide) rfl ?_
  intro p e s m args below meth c s₁ B hml hv
  obtain ⟨rfl, hG, hP⟩ := hv
  have hx := B.exec
  have hb := B.bytes
  have hr := B.returns
  have hts := atoms_spec (ws := wsX9_chain) B.pre
  have hown : s.vm.findClass RX9 = some m.cls := findClass_of_methodNamed B.named
  have hlocks := B.notSynchronized
  have hK := hG.1
  have hN := hG.2
  have hl := lv_entry ([.ref h0, .int x1, .int x2, .int x3, .int x4]) (n := 5) (Nat.le_of_ble_eq_true rfl)
  rw [lg_entry_eq]
  generalize (lg_sl ([.ref h0, .int x1, .int x2, .int x3, .int x4]) ++ List.replicate (5 - (lg_sl ([.ref h0, .int x1, .int x2, .int x3, .int x4])).length) Slot.unset).toArray = ls at hl ⊢
  have hl : lv_has ls 5 [(0, .ref h0), (1, .int x1), (2, .int x2), (3, .int x3), (4, .int x4)] := hl
  refine lv_aload_n hx hb dX9_chain_0 rfl (lv_at hl 0 rfl) ?_
  refine lv_iload_n hx hb dX9_chain_1 rfl (lv_at hl 1 rfl) ?_
  have hPc := hP.sub (ws' := [(h0, .inr (9, [.ref (n 0), .int 0, .ref (n 2), .ref (n 3), .ref (n 4), .ref (n 5), .ref (n 6), .int 0, .ref (n 8), .ref (n 9), .ref (n 10), .ref (n 11), .ref (n 12), .ref (n 13), .ref (n 14), .int 0, .int 0, .ref (n 17), .ref (n 18), .ref (n 19), .ref (n 20), .ref (n 21), .ref (n 22), .ref (n 23), .ref (n 24), .ref (n 25), .int 1, .int 0, .int 12, .int 0, .int 0, .int 0, .int 0, .int 1440, .ref (n 34), .ref (n 35), .int 0, .int 0, .int 0, .ref (n 39), .ref (n 40), .ref (n 41), .ref (n 42), .int 0, .int 0, .int 0]))]) [0] rfl
  refine vp_callSi (va_Run.run (va_runV (As := [.int x1]) (rest := []) ⟨hx, hb, hml, hown, hts⟩ (k_X9_isMark l D cI cJ cZ cM h0 n x1) (cwV 1 hts gX9_chain_X9_isMark rfl rfl rfl (by decide +kernel) ⟨Nat.le_of_ble_eq_true rfl, Nat.le_of_ble_eq_true rfl⟩) (ro_V hG hPc (va_recv hK hPc (ci := 9) (q0 := 0) rfl rfl)) rfl rfl hl.1 rfl (lv_room (Nat.le_of_ble_eq_true rfl)) dX9_chain_2 ⟨Nat.le_of_ble_eq_true rfl, Nat.le_of_ble_eq_true rfl⟩)) (fun r_1 h_1 => ?_)
  obtain rfl : r_1 = 0 := h_1
  refine lv_if_eq (tgt := 38) hx hb dX9_chain_5 (by decide) (fun _ => ?_) (fun c_2 => False.elim (by revert c_2; decide))
  refine lv_iconst (v := 0) hx hb dX9_chain_38 (by decide) ?_
  exact W.zret (v := 0) hx hb hr rfl (fun t ht hW => ⟨0, rfl, rfl, ht⟩) (fun _ h => by cases h) dX9_chain_39
set_option maxHeartbeats 4000000 in
set_option maxRecDepth 100000 in
/-- chainOf of a fresh reference -/
theorem k_X9_chainOf (l : Launch) (D : va_G) (cI cJ cZ cM : Nat) (h0 : Nat) (n : Nat → Nat) (x1 : Int32) (x2 : Int32) : Met l yX9_chainOf wsX9_chainOf ({ frames := 2, cells := 0, slots := 0, locals := 43 } : Room) (RO D cI cJ cZ cM [.ref h0, .int x1, .int x2] [(h0, .inr (9, [.ref (n 0), .int 0, .ref (n 2), .ref (n 3), .ref (n 4), .ref (n 5), .ref (n 6), .int 0, .ref (n 8), .ref (n 9), .ref (n 10), .ref (n 11), .ref (n 12), .ref (n 13), .ref (n 14), .int 0, .int 0, .ref (n 17), .ref (n 18), .ref (n 19), .ref (n 20), .ref (n 21), .ref (n 22), .ref (n 23), .ref (n 24), .ref (n 25), .int 1, .int 0, .int 12, .int 0, .int 0, .int 0, .int 0, .int 1440, .ref (n 34), .ref (n 35), .int 0, .int 0, .int 0, .ref (n 39), .ref (n 40), .ref (n 41), .ref (n 42), .int 0, .int 0, .int 0]))]) (vp_Si (fun r => r = -1)) 0 0 (fun _ => False) := by
  refine Met.ofW (cc := cX9_chainOf) (maxL := 7) (ret := (some .int)) (by decide) rfl ?_
  intro p e s m args below meth c s₁ B hml hv
  obtain ⟨rfl, hG, hP⟩ := hv
  have hx := B.exec
  have hb := B.bytes
  have hr := B.returns
  have hts := atoms_spec (ws := wsX9_chainOf) B.pre
  have hown : s.vm.findClass RX9 = some m.cls := findClass_of_methodNamed B.named
  have hlocks := B.notSynchronized
  have hK := hG.1
  have hN := hG.2
  have hl := lv_entry ([.ref h0, .int x1, .int x2]) (n := 7) (Nat.le_of_ble_eq_true rfl)
  rw [lg_entry_eq]
  generalize (lg_sl ([.ref h0, .int x1, .int x2]) ++ List.replicate (7 - (lg_sl ([.ref h0, .int x1, .int x2])).length) Slot.unset).toArray = ls at hl ⊢
  have hl : lv_has ls 7 [(0, .ref h0), (1, .int x1), (2, .int x2)] := hl
  refine lv_aload_n hx hb dX9_chainOf_0 rfl (lv_at hl 0 rfl) ?_
  refine lv_iload_n hx hb dX9_chainOf_1 rfl (lv_at hl 1 rfl) ?_
  have hPc := hP.sub (ws' := [(h0, .inr (9, [.ref (n 0), .int 0, .ref (n 2), .ref (n 3), .ref (n 4), .ref (n 5), .ref (n 6), .int 0, .ref (n 8), .ref (n 9), .ref (n 10), .ref (n 11), .ref (n 12), .ref (n 13), .ref (n 14), .int 0, .int 0, .ref (n 17), .ref (n 18), .ref (n 19), .ref (n 20), .ref (n 21), .ref (n 22), .ref (n 23), .ref (n 24), .ref (n 25), .int 1, .int 0, .int 12, .int 0, .int 0, .int 0, .int 0, .int 1440, .ref (n 34), .ref (n 35), .int 0, .int 0, .int 0, .ref (n 39), .ref (n 40), .ref (n 41), .ref (n 42), .int 0, .int 0, .int 0]))]) [0] rfl
  refine vp_callSi (va_Run.run (va_runV (As := [.int x1]) (rest := []) ⟨hx, hb, hml, hown, hts⟩ (k_X9_isMark l D cI cJ cZ cM h0 n x1) (cwV 1 hts gX9_chainOf_X9_isMark rfl rfl rfl (by decide +kernel) ⟨Nat.le_of_ble_eq_true rfl, Nat.le_of_ble_eq_true rfl⟩) (ro_V hG hPc (va_recv hK hPc (ci := 9) (q0 := 0) rfl rfl)) rfl rfl hl.1 rfl (lv_room (Nat.le_of_ble_eq_true rfl)) dX9_chainOf_2 ⟨Nat.le_of_ble_eq_true rfl, Nat.le_of_ble_eq_true rfl⟩)) (fun r_1 h_1 => ?_)
  obtain rfl : r_1 = 0 := h_1
  refine lv_if_eq (tgt := 17) hx hb dX9_chainOf_5 (by decide) (fun _ => ?_) (fun c_2 => False.elim (by revert c_2; decide))
  refine lv_iconst (v := (-1)) hx hb dX9_chainOf_17 (by decide) ?_
  exact W.iret (v := (-1)) hx hb hr (fun t ht hW => ⟨(-1), rfl, rfl, ht⟩) (fun _ h => by cases h) dX9_chainOf_18
set_option maxHeartbeats 4000000 in
set_option maxRecDepth 100000 in
/-- light of a fresh reference -/
theorem k_X9_light (l : Launch) (D : va_G) (cI cJ cZ cM : Nat) (h0 : Nat) (n : Nat → Nat) (x1 : Int32) (x2 : Int32) (x3 : Int32) : Met l yX9_light wsX9_light ({ frames := 2, cells := 0, slots := 0, locals := 43 } : Room) (RO D cI cJ cZ cM [.ref h0, .int x1, .int x2, .int x3] [(h0, .inr (9, [.ref (n 0), .int 0, .ref (n 2), .ref (n 3), .ref (n 4), .ref (n 5), .ref (n 6), .int 0, .ref (n 8), .ref (n 9), .ref (n 10), .ref (n 11), .ref (n 12), .ref (n 13), .ref (n 14), .int 0, .int 0, .ref (n 17), .ref (n 18), .ref (n 19), .ref (n 20), .ref (n 21), .ref (n 22), .ref (n 23), .ref (n 24), .ref (n 25), .int 1, .int 0, .int 12, .int 0, .int 0, .int 0, .int 0, .int 1440, .ref (n 34), .ref (n 35), .int 0, .int 0, .int 0, .ref (n 39), .ref (n 40), .ref (n 41), .ref (n 42), .int 0, .int 0, .int 0]))]) (vp_Si (fun r => r = 0)) 0 0 (fun _ => False) := by
  refine Met.ofW (cc := cX9_light) (maxL := 8) (ret := (some .boolean)) (by decide) rfl ?_
  intro p e s m args below meth c s₁ B hml hv
  obtain ⟨rfl, hG, hP⟩ := hv
  have hx := B.exec
  have hb := B.bytes
  have hr := B.returns
  have hts := atoms_spec (ws := wsX9_light) B.pre
  have hown : s.vm.findClass RX9 = some m.cls := findClass_of_methodNamed B.named
  have hlocks := B.notSynchronized
  have hK := hG.1
  have hN := hG.2
  have hl := lv_entry ([.ref h0, .int x1, .int x2, .int x3]) (n := 8) (Nat.le_of_ble_eq_true rfl)
  rw [lg_entry_eq]
  generalize (lg_sl ([.ref h0, .int x1, .int x2, .int x3]) ++ List.replicate (8 - (lg_sl ([.ref h0, .int x1, .int x2, .int x3])).length) Slot.unset).toArray = ls at hl ⊢
  have hl : lv_has ls 8 [(0, .ref h0), (1, .int x1), (2, .int x2), (3, .int x3)] := hl
  refine lv_aload_n hx hb dX9_light_0 rfl (lv_at hl 0 rfl) ?_
  refine lv_iload_n hx hb dX9_light_1 rfl (lv_at hl 1 rfl) ?_
  have hPc := hP.sub (ws' := [(h0, .inr (9, [.ref (n 0), .int 0, .ref (n 2), .ref (n 3), .ref (n 4), .ref (n 5), .ref (n 6), .int 0, .ref (n 8), .ref (n 9), .ref (n 10), .ref (n 11), .ref (n 12), .ref (n 13), .ref (n 14), .int 0, .int 0, .ref (n 17), .ref (n 18), .ref (n 19), .ref (n 20), .ref (n 21), .ref (n 22), .ref (n 23), .ref (n 24), .ref (n 25), .int 1, .int 0, .int 12, .int 0, .int 0, .int 0, .int 0, .int 1440, .ref (n 34), .ref (n 35), .int 0, .int 0, .int 0, .ref (n 39), .ref (n 40), .ref (n 41), .ref (n 42), .int 0, .int 0, .int 0]))]) [0] rfl
  refine vp_callSi (va_Run.run (va_runV (As := [.int x1]) (rest := []) ⟨hx, hb, hml, hown, hts⟩ (k_X9_isMark l D cI cJ cZ cM h0 n x1) (cwV 1 hts gX9_light_X9_isMark rfl rfl rfl (by decide +kernel) ⟨Nat.le_of_ble_eq_true rfl, Nat.le_of_ble_eq_true rfl⟩) (ro_V hG hPc (va_recv hK hPc (ci := 9) (q0 := 0) rfl rfl)) rfl rfl hl.1 rfl (lv_room (Nat.le_of_ble_eq_true rfl)) dX9_light_2 ⟨Nat.le_of_ble_eq_true rfl, Nat.le_of_ble_eq_true rfl⟩)) (fun r_1 h_1 => ?_)
  obtain rfl : r_1 = 0 := h_1
  refine lv_if_eq (tgt := 25) hx hb dX9_light_5 (by decide) (fun _ => ?_) (fun c_2 => False.elim (by revert c_2; decide))
  refine lv_iconst (v := 0) hx hb dX9_light_25 (by decide) ?_
  exact W.zret (v := 0) hx hb hr rfl (fun t ht hW => ⟨0, rfl, rfl, ht⟩) (fun _ h => by cases h) dX9_light_26
set_option maxHeartbeats 4000000 in
set_option maxRecDepth 100000 in
/-- alike of a fresh reference -/
theorem k_X9_alike (l : Launch) (D : va_G) (cI cJ cZ cM : Nat) (h0 : Nat) (n : Nat → Nat) (x1 : Int32) (x2 : Int32) : Met l yX9_alike wsX9_alike ({ frames := 2, cells := 0, slots := 0, locals := 43 } : Room) (RO D cI cJ cZ cM [.ref h0, .int x1, .int x2] [(h0, .inr (9, [.ref (n 0), .int 0, .ref (n 2), .ref (n 3), .ref (n 4), .ref (n 5), .ref (n 6), .int 0, .ref (n 8), .ref (n 9), .ref (n 10), .ref (n 11), .ref (n 12), .ref (n 13), .ref (n 14), .int 0, .int 0, .ref (n 17), .ref (n 18), .ref (n 19), .ref (n 20), .ref (n 21), .ref (n 22), .ref (n 23), .ref (n 24), .ref (n 25), .int 1, .int 0, .int 12, .int 0, .int 0, .int 0, .int 0, .int 1440, .ref (n 34), .ref (n 35), .int 0, .int 0, .int 0, .ref (n 39), .ref (n 40), .ref (n 41), .ref (n 42), .int 0, .int 0, .int 0]))]) (vp_Si (fun r => r = -1)) 0 0 (fun _ => False) := by
  refine Met.ofW (cc := cX9_alike) (maxL := 3) (ret := (some .int)) (by decide) rfl ?_
  intro p e s m args below meth c s₁ B hml hv
  obtain ⟨rfl, hG, hP⟩ := hv
  have hx := B.exec
  have hb := B.bytes
  have hr := B.returns
  have hts := atoms_spec (ws := wsX9_alike) B.pre
  have hown : s.vm.findClass RX9 = some m.cls := findClass_of_methodNamed B.named
  have hlocks := B.notSynchronized
  have hK := hG.1
  have hN := hG.2
  have hl := lv_entry ([.ref h0, .int x1, .int x2]) (n := 3) (Nat.le_of_ble_eq_true rfl)
  rw [lg_entry_eq]
  generalize (lg_sl ([.ref h0, .int x1, .int x2]) ++ List.replicate (3 - (lg_sl ([.ref h0, .int x1, .int x2])).length) Slot.unset).toArray = ls at hl ⊢
  have hl : lv_has ls 3 [(0, .ref h0), (1, .int x1), (2, .int x2)] := hl
  refine lv_aload_n hx hb dX9_alike_0 rfl (lv_at hl 0 rfl) ?_
  refine lv_iload_n hx hb dX9_alike_1 rfl (lv_at hl 1 rfl) ?_
  have hPc := hP.sub (ws' := [(h0, .inr (9, [.ref (n 0), .int 0, .ref (n 2), .ref (n 3), .ref (n 4), .ref (n 5), .ref (n 6), .int 0, .ref (n 8), .ref (n 9), .ref (n 10), .ref (n 11), .ref (n 12), .ref (n 13), .ref (n 14), .int 0, .int 0, .ref (n 17), .ref (n 18), .ref (n 19), .ref (n 20), .ref (n 21), .ref (n 22), .ref (n 23), .ref (n 24), .ref (n 25), .int 1, .int 0, .int 12, .int 0, .int 0, .int 0, .int 0, .int 1440, .ref (n 34), .ref (n 35), .int 0, .int 0, .int 0, .ref (n 39), .ref (n 40), .ref (n 41), .ref (n 42), .int 0, .int 0, .int 0]))]) [0] rfl
  refine vp_callSi (va_Run.run (va_runV (As := [.int x1]) (rest := []) ⟨hx, hb, hml, hown, hts⟩ (k_X9_isMark l D cI cJ cZ cM h0 n x1) (cwV 1 hts gX9_alike_X9_isMark rfl rfl rfl (by decide +kernel) ⟨Nat.le_of_ble_eq_true rfl, Nat.le_of_ble_eq_true rfl⟩) (ro_V hG hPc (va_recv hK hPc (ci := 9) (q0 := 0) rfl rfl)) rfl rfl hl.1 rfl (lv_room (Nat.le_of_ble_eq_true rfl)) dX9_alike_2 ⟨Nat.le_of_ble_eq_true rfl, Nat.le_of_ble_eq_true rfl⟩)) (fun r_1 h_1 => ?_)
  obtain rfl : r_1 = 0 := h_1
  refine lv_if_eq (tgt := 39) hx hb dX9_alike_5 (by decide) (fun _ => ?_) (fun c_2 => False.elim (by revert c_2; decide))
  refine lv_iconst (v := (-1)) hx hb dX9_alike_39 (by decide) ?_
  exact W.iret (v := (-1)) hx hb hr (fun t ht hW => ⟨(-1), rfl, rfl, ht⟩) (fun _ h => by cases h) dX9_alike_40
set_option maxHeartbeats 4000000 in
set_option maxRecDepth 100000 in
/-- warn of a fresh reference -/
theorem k_X9_warn (l : Launch) (D : va_G) (cI cJ cZ cM : Nat) (h0 : Nat) (n : Nat → Nat) (x1 : Int32) (x2 : Int32) : Met l yX9_warn wsX9_warn ({ frames := 2, cells := 0, slots := 0, locals := 43 } : Room) (RO D cI cJ cZ cM [.ref h0, .int x1, .int x2] [(h0, .inr (9, [.ref (n 0), .int 0, .ref (n 2), .ref (n 3), .ref (n 4), .ref (n 5), .ref (n 6), .int 0, .ref (n 8), .ref (n 9), .ref (n 10), .ref (n 11), .ref (n 12), .ref (n 13), .ref (n 14), .int 0, .int 0, .ref (n 17), .ref (n 18), .ref (n 19), .ref (n 20), .ref (n 21), .ref (n 22), .ref (n 23), .ref (n 24), .ref (n 25), .int 1, .int 0, .int 12, .int 0, .int 0, .int 0, .int 0, .int 1440, .ref (n 34), .ref (n 35), .int 0, .int 0, .int 0, .ref (n 39), .ref (n 40), .ref (n 41), .ref (n 42), .int 0, .int 0, .int 0]))]) (vp_Si (fun r => r = -1)) 0 0 (fun _ => False) := by
  refine Met.ofW (cc := cX9_warn) (maxL := 4) (ret := (some .int)) (by decide) rfl ?_
  intro p e s m args below meth c s₁ B hml hv
  obtain ⟨rfl, hG, hP⟩ := hv
  have hx := B.exec
  have hb := B.bytes
  have hr := B.returns
  have hts := atoms_spec (ws := wsX9_warn) B.pre
  have hown : s.vm.findClass RX9 = some m.cls := findClass_of_methodNamed B.named
  have hlocks := B.notSynchronized
  have hK := hG.1
  have hN := hG.2
  have hl := lv_entry ([.ref h0, .int x1, .int x2]) (n := 4) (Nat.le_of_ble_eq_true rfl)
  rw [lg_entry_eq]
  generalize (lg_sl ([.ref h0, .int x1, .int x2]) ++ List.replicate (4 - (lg_sl ([.ref h0, .int x1, .int x2])).length) Slot.unset).toArray = ls at hl ⊢
  have hl : lv_has ls 4 [(0, .ref h0), (1, .int x1), (2, .int x2)] := hl
  refine lv_aload_n hx hb dX9_warn_0 rfl (lv_at hl 0 rfl) ?_
  refine lv_iload_n hx hb dX9_warn_1 rfl (lv_at hl 1 rfl) ?_
  have hPc := hP.sub (ws' := [(h0, .inr (9, [.ref (n 0), .int 0, .ref (n 2), .ref (n 3), .ref (n 4), .ref (n 5), .ref (n 6), .int 0, .ref (n 8), .ref (n 9), .ref (n 10), .ref (n 11), .ref (n 12), .ref (n 13), .ref (n 14), .int 0, .int 0, .ref (n 17), .ref (n 18), .ref (n 19), .ref (n 20), .ref (n 21), .ref (n 22), .ref (n 23), .ref (n 24), .ref (n 25), .int 1, .int 0, .int 12, .int 0, .int 0, .int 0, .int 0, .int 1440, .ref (n 34), .ref (n 35), .int 0, .int 0, .int 0, .ref (n 39), .ref (n 40), .ref (n 41), .ref (n 42), .int 0, .int 0, .int 0]))]) [0] rfl
  refine vp_callSi (va_Run.run (va_runV (As := [.int x1]) (rest := []) ⟨hx, hb, hml, hown, hts⟩ (k_X9_isMark l D cI cJ cZ cM h0 n x1) (cwV 1 hts gX9_warn_X9_isMark rfl rfl rfl (by decide +kernel) ⟨Nat.le_of_ble_eq_true rfl, Nat.le_of_ble_eq_true rfl⟩) (ro_V hG hPc (va_recv hK hPc (ci := 9) (q0 := 0) rfl rfl)) rfl rfl hl.1 rfl (lv_room (Nat.le_of_ble_eq_true rfl)) dX9_warn_2 ⟨Nat.le_of_ble_eq_true rfl, Nat.le_of_ble_eq_true rfl⟩)) (fun r_1 h_1 => ?_)
  obtain rfl : r_1 = 0 := h_1
  refine lv_if_eq (tgt := 27) hx hb dX9_warn_5 (by decide) (fun _ => ?_) (fun c_2 => False.elim (by revert c_2; decide))
  refine lv_iconst (v := (-1)) hx hb dX9_warn_27 (by decide) ?_
  exact W.iret (v := (-1)) hx hb hr (fun t ht hW => ⟨(-1), rfl, rfl, ht⟩) (fun _ h => by cases h) dX9_warn_28
set_option maxHeartbeats 4000000 in
set_option maxRecDepth 100000 in
/-- job of a fresh reference -/
theorem k_X9_job (l : Launch) (D : va_G) (cI cJ cZ cM : Nat) (h0 : Nat) (n : Nat → Nat) (x1 : Int32) (x2 : Int32) (x3 : Int32) (x4 : Int32) : Met l yX9_job wsX9_job ({ frames := 2, cells := 0, slots := 0, locals := 43 } : Room) (RO D cI cJ cZ cM [.ref h0, .int x1, .int x2, .int x3, .int x4] [(h0, .inr (9, [.ref (n 0), .int 0, .ref (n 2), .ref (n 3), .ref (n 4), .ref (n 5), .ref (n 6), .int 0, .ref (n 8), .ref (n 9), .ref (n 10), .ref (n 11), .ref (n 12), .ref (n 13), .ref (n 14), .int 0, .int 0, .ref (n 17), .ref (n 18), .ref (n 19), .ref (n 20), .ref (n 21), .ref (n 22), .ref (n 23), .ref (n 24), .ref (n 25), .int 1, .int 0, .int 12, .int 0, .int 0, .int 0, .int 0, .int 1440, .ref (n 34), .ref (n 35), .int 0, .int 0, .int 0, .ref (n 39), .ref (n 40), .ref (n 41), .ref (n 42), .int 0, .int 0, .int 0]))]) (vp_Si (fun r => r = 0)) 0 0 (fun _ => False) := by
  refine Met.ofW (cc := cX9_job) (maxL := 5) (ret := (some .boolean)) (by decide) rfl ?_
  intro p e s m args below meth c s₁ B hml hv
  obtain ⟨rfl, hG, hP⟩ := hv
  have hx := B.exec
  have hb := B.bytes
  have hr := B.returns
  have hts := atoms_spec (ws := wsX9_job) B.pre
  have hown : s.vm.findClass RX9 = some m.cls := findClass_of_methodNamed B.named
  have hlocks := B.notSynchronized
  have hK := hG.1
  have hN := hG.2
  have hl := lv_entry ([.ref h0, .int x1, .int x2, .int x3, .int x4]) (n := 5) (Nat.le_of_ble_eq_true rfl)
  rw [lg_entry_eq]
  generalize (lg_sl ([.ref h0, .int x1, .int x2, .int x3, .int x4]) ++ List.replicate (5 - (lg_sl ([.ref h0, .int x1, .int x2, .int x3, .int x4])).length) Slot.unset).toArray = ls at hl ⊢
  have hl : lv_has ls 5 [(0, .ref h0), (1, .int x1), (2, .int x2), (3, .int x3), (4, .int x4)] := hl
  refine lv_aload_n hx hb dX9_job_0 rfl (lv_at hl 0 rfl) ?_
  refine lv_iload_n hx hb dX9_job_1 rfl (lv_at hl 1 rfl) ?_
  have hPc := hP.sub (ws' := [(h0, .inr (9, [.ref (n 0), .int 0, .ref (n 2), .ref (n 3), .ref (n 4), .ref (n 5), .ref (n 6), .int 0, .ref (n 8), .ref (n 9), .ref (n 10), .ref (n 11), .ref (n 12), .ref (n 13), .ref (n 14), .int 0, .int 0, .ref (n 17), .ref (n 18), .ref (n 19), .ref (n 20), .ref (n 21), .ref (n 22), .ref (n 23), .ref (n 24), .ref (n 25), .int 1, .int 0, .int 12, .int 0, .int 0, .int 0, .int 0, .int 1440, .ref (n 34), .ref (n 35), .int 0, .int 0, .int 0, .ref (n 39), .ref (n 40), .ref (n 41), .ref (n 42), .int 0, .int 0, .int 0]))]) [0] rfl
  refine vp_callSi (va_Run.run (va_runV (As := [.int x1]) (rest := []) ⟨hx, hb, hml, hown, hts⟩ (k_X9_isMark l D cI cJ cZ cM h0 n x1) (cwV 1 hts gX9_job_X9_isMark rfl rfl rfl (by decide +kernel) ⟨Nat.le_of_ble_eq_true rfl, Nat.le_of_ble_eq_true rfl⟩) (ro_V hG hPc (va_recv hK hPc (ci := 9) (q0 := 0) rfl rfl)) rfl rfl hl.1 rfl (lv_room (Nat.le_of_ble_eq_true rfl)) dX9_job_2 ⟨Nat.le_of_ble_eq_true rfl, Nat.le_of_ble_eq_true rfl⟩)) (fun r_1 h_1 => ?_)
  obtain rfl : r_1 = 0 := h_1
  refine lv_if_eq (tgt := 42) hx hb dX9_job_5 (by decide) (fun _ => ?_) (fun c_2 => False.elim (by revert c_2; decide))
  refine lv_iconst (v := 0) hx hb dX9_job_42 (by decide) ?_
  exact W.zret (v := 0) hx hb hr rfl (fun t ht hW => ⟨0, rfl, rfl, ht⟩) (fun _ h => by cases h) dX9_job_43
set_option maxHeartbeats 4000000 in
set_option maxRecDepth 100000 in
/-- cancel of a fresh reference -/
theorem k_X9_cancel (l : Launch) (D : va_G) (cI cJ cZ cM : Nat) (h0 : Nat) (n : Nat → Nat) (x1 : Int32) : Met l yX9_cancel wsX9_cancel ({ frames := 1, cells := 0, slots := 0, locals := 22 } : Room) (RO D cI cJ cZ cM [.ref h0, .int x1] [(h0, .inr (9, [.ref (n 0), .int 0, .ref (n 2), .ref (n 3), .ref (n 4), .ref (n 5), .ref (n 6), .int 0, .ref (n 8), .ref (n 9), .ref (n 10), .ref (n 11), .ref (n 12), .ref (n 13), .ref (n 14), .int 0, .int 0, .ref (n 17), .ref (n 18), .ref (n 19), .ref (n 20), .ref (n 21), .ref (n 22), .ref (n 23), .ref (n 24), .ref (n 25), .int 1, .int 0, .int 12, .int 0, .int 0, .int 0, .int 0, .int 1440, .ref (n 34), .ref (n 35), .int 0, .int 0, .int 0, .ref (n 39), .ref (n 40), .ref (n 41), .ref (n 42), .int 0, .int 0, .int 0]))]) (vp_Si (fun r => r = 0)) 0 0 (fun _ => False) := by
  refine Met.ofW (cc := cX9_cancel) (maxL := 2) (ret := (some .boolean)) (by decide) rfl ?_
  intro p e s m args below meth c s₁ B hml hv
  obtain ⟨rfl, hG, hP⟩ := hv
  have hx := B.exec
  have hb := B.bytes
  have hr := B.returns
  have hts := atoms_spec (ws := wsX9_cancel) B.pre
  have hown : s.vm.findClass RX9 = some m.cls := findClass_of_methodNamed B.named
  have hlocks := B.notSynchronized
  have hK := hG.1
  have hN := hG.2
  have hl := lv_entry ([.ref h0, .int x1]) (n := 2) (Nat.le_of_ble_eq_true rfl)
  rw [lg_entry_eq]
  generalize (lg_sl ([.ref h0, .int x1]) ++ List.replicate (2 - (lg_sl ([.ref h0, .int x1])).length) Slot.unset).toArray = ls at hl ⊢
  have hl : lv_has ls 2 [(0, .ref h0), (1, .int x1)] := hl
  refine lv_iload_n hx hb dX9_cancel_0 rfl (lv_at hl 1 rfl) ?_
  refine lv_iconst (v := 0) hx hb dX9_cancel_1 (by decide) ?_
  refine lv_aload_n hx hb dX9_cancel_2 rfl (lv_at hl 0 rfl) ?_
  refine va_get (D := D) (ci := 9) (v := .int 0) (C := RX9) (T := TX9) (N := 46) hx hb hts (fun _ h9 => List.mem_cons_of_mem _ (List.mem_append_right _ h9)) hown hK hP 0 rfl rfl 16 (by decide) (hts (.fieldLink RX9 146 "BuoyTenderModel" "warnings" "I") (by decide +kernel)) (fun _ h9 => h9) rfl dX9_cancel_3 ?_
  refine lv_iconst (v := 1) hx hb dX9_cancel_6 (by decide) ?_
  refine lv_isub hx hb dX9_cancel_7 ?_
  refine lv_topi (fun z_1 ez_1 => ?_)
  obtain rfl : z_1 = (-1) := ez_1.trans (by decide)
  refine vp_callSi (va_Run.run (va_runS (As := [.int x1, .int 0, .int (-1)]) (rest := []) ⟨hx, hb, hml, hown, hts⟩ (k_X9_in l x1 0 (-1)) (va_cwS 3 hts gX9_cancel_X9_in rfl rfl rfl (by decide +kernel) ⟨Nat.le_of_ble_eq_true rfl, Nat.le_of_ble_eq_true rfl⟩) preEq rfl rfl hl.1 rfl (lv_room (Nat.le_of_ble_eq_true rfl)) dX9_cancel_8 ⟨Nat.le_of_ble_eq_true rfl, Nat.le_of_ble_eq_true rfl⟩)) (fun r_2 h_2 => ?_)
  rcases h_2 with ⟨rfl, h_2⟩ | ⟨rfl, h_2⟩
  · exact (my_gap h_2 (by decide)).elim
  refine lv_if_eq (tgt := 23) hx hb dX9_cancel_11 (by decide) (fun _ => ?_) (fun c_3 => False.elim (by revert c_3; decide))
  refine lv_iconst (v := 0) hx hb dX9_cancel_23 (by decide) ?_
  exact W.zret (v := 0) hx hb hr rfl (fun t ht hW => ⟨0, rfl, rfl, ht⟩) (fun _ h => by cases h) dX9_cancel_24
set_option maxHeartbeats 4000000 in
set_option maxRecDepth 100000 in
/-- warning of a fresh reference -/
theorem k_X9_warning (l : Launch) (D : va_G) (cI cJ cZ cM : Nat) (h0 : Nat) (n : Nat → Nat) (x1 : Int32) (x2 : Int32) : Met l yX9_warning wsX9_warning ({ frames := 1, cells := 0, slots := 0, locals := 22 } : Room) (RO D cI cJ cZ cM [.ref h0, .int x1, .int x2] [(h0, .inr (9, [.ref (n 0), .int 0, .ref (n 2), .ref (n 3), .ref (n 4), .ref (n 5), .ref (n 6), .int 0, .ref (n 8), .ref (n 9), .ref (n 10), .ref (n 11), .ref (n 12), .ref (n 13), .ref (n 14), .int 0, .int 0, .ref (n 17), .ref (n 18), .ref (n 19), .ref (n 20), .ref (n 21), .ref (n 22), .ref (n 23), .ref (n 24), .ref (n 25), .int 1, .int 0, .int 12, .int 0, .int 0, .int 0, .int 0, .int 1440, .ref (n 34), .ref (n 35), .int 0, .int 0, .int 0, .ref (n 39), .ref (n 40), .ref (n 41), .ref (n 42), .int 0, .int 0, .int 0]))]) (vp_Si (fun r => r = -1)) 0 0 (fun _ => False) := by
  refine Met.ofW (cc := cX9_warning) (maxL := 3) (ret := (some .int)) (by decide) rfl ?_
  intro p e s m args below meth c s₁ B hml hv
  obtain ⟨rfl, hG, hP⟩ := hv
  have hx := B.exec
  have hb := B.bytes
  have hr := B.returns
  have hts := atoms_spec (ws := wsX9_warning) B.pre
  have hown : s.vm.findClass RX9 = some m.cls := findClass_of_methodNamed B.named
  have hlocks := B.notSynchronized
  have hK := hG.1
  have hN := hG.2
  have hl := lv_entry ([.ref h0, .int x1, .int x2]) (n := 3) (Nat.le_of_ble_eq_true rfl)
  rw [lg_entry_eq]
  generalize (lg_sl ([.ref h0, .int x1, .int x2]) ++ List.replicate (3 - (lg_sl ([.ref h0, .int x1, .int x2])).length) Slot.unset).toArray = ls at hl ⊢
  have hl : lv_has ls 3 [(0, .ref h0), (1, .int x1), (2, .int x2)] := hl
  refine lv_iload_n hx hb dX9_warning_0 rfl (lv_at hl 1 rfl) ?_
  refine lv_iconst (v := 0) hx hb dX9_warning_1 (by decide) ?_
  refine lv_aload_n hx hb dX9_warning_2 rfl (lv_at hl 0 rfl) ?_
  refine va_get (D := D) (ci := 9) (v := .int 0) (C := RX9) (T := TX9) (N := 46) hx hb hts (fun _ h9 => List.mem_cons_of_mem _ (List.mem_append_right _ h9)) hown hK hP 0 rfl rfl 16 (by decide) (hts (.fieldLink RX9 146 "BuoyTenderModel" "warnings" "I") (by decide +kernel)) (fun _ h9 => h9) rfl dX9_warning_3 ?_
  refine lv_iconst (v := 1) hx hb dX9_warning_6 (by decide) ?_
  refine lv_isub hx hb dX9_warning_7 ?_
  refine lv_topi (fun z_1 ez_1 => ?_)
  obtain rfl : z_1 = (-1) := ez_1.trans (by decide)
  refine vp_callSi (va_Run.run (va_runS (As := [.int x1, .int 0, .int (-1)]) (rest := []) ⟨hx, hb, hml, hown, hts⟩ (k_X9_in l x1 0 (-1)) (va_cwS 3 hts gX9_warning_X9_in rfl rfl rfl (by decide +kernel) ⟨Nat.le_of_ble_eq_true rfl, Nat.le_of_ble_eq_true rfl⟩) preEq rfl rfl hl.1 rfl (lv_room (Nat.le_of_ble_eq_true rfl)) dX9_warning_8 ⟨Nat.le_of_ble_eq_true rfl, Nat.le_of_ble_eq_true rfl⟩)) (fun r_2 h_2 => ?_)
  rcases h_2 with ⟨rfl, h_2⟩ | ⟨rfl, h_2⟩
  · exact (my_gap h_2 (by decide)).elim
  refine lv_if_ne (tgt := 16) hx hb dX9_warning_11 (by decide) (fun c_3 => False.elim (by revert c_3; decide)) (fun _ => ?_)
  refine lv_iconst (v := (-1)) hx hb dX9_warning_14 (by decide) ?_
  exact W.iret (v := (-1)) hx hb hr (fun t ht hW => ⟨(-1), rfl, rfl, ht⟩) (fun _ h => by cases h) dX9_warning_15
set_option maxHeartbeats 4000000 in
set_option maxRecDepth 100000 in
/-- listed of a fresh reference -/
theorem k_X9_listed (l : Launch) (D : va_G) (cI cJ cZ cM : Nat) (h0 : Nat) (n : Nat → Nat) (x1 : Int32) (x2 : Int32) : Met l yX9_listed wsX9_listed ({ frames := 0, cells := 0, slots := 0, locals := 0 } : Room) (RO D cI cJ cZ cM [.ref h0, .int x1, .int x2] [(h0, .inr (9, [.ref (n 0), .int 0, .ref (n 2), .ref (n 3), .ref (n 4), .ref (n 5), .ref (n 6), .int 0, .ref (n 8), .ref (n 9), .ref (n 10), .ref (n 11), .ref (n 12), .ref (n 13), .ref (n 14), .int 0, .int 0, .ref (n 17), .ref (n 18), .ref (n 19), .ref (n 20), .ref (n 21), .ref (n 22), .ref (n 23), .ref (n 24), .ref (n 25), .int 1, .int 0, .int 12, .int 0, .int 0, .int 0, .int 0, .int 1440, .ref (n 34), .ref (n 35), .int 0, .int 0, .int 0, .ref (n 39), .ref (n 40), .ref (n 41), .ref (n 42), .int 0, .int 0, .int 0]))]) (vp_Si (fun r => r = -1)) 0 0 (fun _ => False) := by
  refine Met.ofW (cc := cX9_listed) (maxL := 5) (ret := (some .int)) (by decide) rfl ?_
  intro p e s m args below meth c s₁ B hml hv
  obtain ⟨rfl, hG, hP⟩ := hv
  have hx := B.exec
  have hb := B.bytes
  have hr := B.returns
  have hts := atoms_spec (ws := wsX9_listed) B.pre
  have hown : s.vm.findClass RX9 = some m.cls := findClass_of_methodNamed B.named
  have hlocks := B.notSynchronized
  have hK := hG.1
  have hN := hG.2
  have hl := lv_entry ([.ref h0, .int x1, .int x2]) (n := 5) (Nat.le_of_ble_eq_true rfl)
  rw [lg_entry_eq]
  generalize (lg_sl ([.ref h0, .int x1, .int x2]) ++ List.replicate (5 - (lg_sl ([.ref h0, .int x1, .int x2])).length) Slot.unset).toArray = ls at hl ⊢
  have hl : lv_has ls 5 [(0, .ref h0), (1, .int x1), (2, .int x2)] := hl
  refine lv_iconst (v := 0) hx hb dX9_listed_0 (by decide) ?_
  refine lv_istore_n (lv' := [(3, .int 0), (0, .ref h0), (1, .int x1), (2, .int x2)]) hx hb dX9_listed_1 rfl hl (by decide) rfl (fun ls hl => ?_)
  refine lv_iconst (v := 0) hx hb dX9_listed_2 (by decide) ?_
  refine lv_istore (lv' := [(4, .int 0), (3, .int 0), (0, .ref h0), (1, .int x1), (2, .int x2)]) hx hb dX9_listed_3 hl (by decide) rfl (fun ls hl => ?_)
  refine lv_iload hx hb dX9_listed_5 (lv_at hl 0 rfl) ?_
  refine lv_aload_n hx hb dX9_listed_7 rfl (lv_at hl 2 rfl) ?_
  refine va_get (D := D) (ci := 9) (v := .int 0) (C := RX9) (T := TX9) (N := 46) hx hb hts (fun _ h9 => List.mem_cons_of_mem _ (List.mem_append_right _ h9)) hown hK hP 0 rfl rfl 16 (by decide) (hts (.fieldLink RX9 146 "BuoyTenderModel" "warnings" "I") (by decide +kernel)) (fun _ h9 => h9) rfl dX9_listed_8 ?_
  refine lv_icmp_ge (tgt := 53) hx hb dX9_listed_11 (by decide) (fun _ => ?_) (fun c_1 => False.elim (by revert c_1; decide))
  refine lv_iconst (v := (-1)) hx hb dX9_listed_53 (by decide) ?_
  exact W.iret (v := (-1)) hx hb hr (fun t ht hW => ⟨(-1), rfl, rfl, ht⟩) (fun _ h => by cases h) dX9_listed_54
set_option maxHeartbeats 4000000 in
set_option maxRecDepth 100000 in
/-- list of a fresh reference -/
theorem k_X9_list (l : Launch) (D : va_G) (cI cJ cZ cM : Nat) (h0 : Nat) (n : Nat → Nat) (x1 : Int32) : Met l yX9_list wsX9_list ({ frames := 1, cells := 0, slots := 0, locals := 22 } : Room) (RO D cI cJ cZ cM [.ref h0, .int x1] [(h0, .inr (9, [.ref (n 0), .int 0, .ref (n 2), .ref (n 3), .ref (n 4), .ref (n 5), .ref (n 6), .int 0, .ref (n 8), .ref (n 9), .ref (n 10), .ref (n 11), .ref (n 12), .ref (n 13), .ref (n 14), .int 0, .int 0, .ref (n 17), .ref (n 18), .ref (n 19), .ref (n 20), .ref (n 21), .ref (n 22), .ref (n 23), .ref (n 24), .ref (n 25), .int 1, .int 0, .int 12, .int 0, .int 0, .int 0, .int 0, .int 1440, .ref (n 34), .ref (n 35), .int 0, .int 0, .int 0, .ref (n 39), .ref (n 40), .ref (n 41), .ref (n 42), .int 0, .int 0, .int 0]))]) (vp_Si (fun r => okI 0 (-1) (0 ≤ x1 ∧ x1 ≤ 0) r)) 0 0 (fun _ => False) := by
  refine Met.ofW (cc := cX9_list) (maxL := 4) (ret := (some .int)) (by decide) rfl ?_
  intro p e s m args below meth c s₁ B hml hv
  obtain ⟨rfl, hG, hP⟩ := hv
  have hx := B.exec
  have hb := B.bytes
  have hr := B.returns
  have hts := atoms_spec (ws := wsX9_list) B.pre
  have hown : s.vm.findClass RX9 = some m.cls := findClass_of_methodNamed B.named
  have hlocks := B.notSynchronized
  have hK := hG.1
  have hN := hG.2
  have hl := lv_entry ([.ref h0, .int x1]) (n := 4) (Nat.le_of_ble_eq_true rfl)
  rw [lg_entry_eq]
  generalize (lg_sl ([.ref h0, .int x1]) ++ List.replicate (4 - (lg_sl ([.ref h0, .int x1])).length) Slot.unset).toArray = ls at hl ⊢
  have hl : lv_has ls 4 [(0, .ref h0), (1, .int x1)] := hl
  refine lv_iload_n hx hb dX9_list_0 rfl (lv_at hl 1 rfl) ?_
  refine lv_iconst (v := 0) hx hb dX9_list_1 (by decide) ?_
  refine lv_aload_n hx hb dX9_list_2 rfl (lv_at hl 0 rfl) ?_
  refine va_get (D := D) (ci := 9) (v := .int 0) (C := RX9) (T := TX9) (N := 46) hx hb hts (fun _ h9 => List.mem_cons_of_mem _ (List.mem_append_right _ h9)) hown hK hP 0 rfl rfl 7 (by decide) (hts (.fieldLink RX9 131 "BuoyTenderModel" "clock" "I") (by decide +kernel)) (fun _ h9 => h9) rfl dX9_list_3 ?_
  refine vp_callSi (va_Run.run (va_runS (As := [.int x1, .int 0, .int 0]) (rest := []) ⟨hx, hb, hml, hown, hts⟩ (k_X9_in l x1 0 0) (va_cwS 3 hts gX9_list_X9_in rfl rfl rfl (by decide +kernel) ⟨Nat.le_of_ble_eq_true rfl, Nat.le_of_ble_eq_true rfl⟩) preEq rfl rfl hl.1 rfl (lv_room (Nat.le_of_ble_eq_true rfl)) dX9_list_6 ⟨Nat.le_of_ble_eq_true rfl, Nat.le_of_ble_eq_true rfl⟩)) (fun r_1 h_1 => ?_)
  rcases h_1 with ⟨rfl, h_1⟩ | ⟨rfl, h_1⟩
  · refine lv_if_ne (tgt := 14) hx hb dX9_list_9 (by decide) (fun _ => ?_) (fun c_2 => False.elim (by revert c_2; decide))
    refine lv_iconst (v := 0) hx hb dX9_list_14 (by decide) ?_
    refine lv_istore_n (lv' := [(2, .int 0), (0, .ref h0), (1, .int x1)]) hx hb dX9_list_15 rfl hl (by decide) rfl (fun ls hl => ?_)
    refine lv_iconst (v := 0) hx hb dX9_list_16 (by decide) ?_
    refine lv_istore_n (lv' := [(3, .int 0), (2, .int 0), (0, .ref h0), (1, .int x1)]) hx hb dX9_list_17 rfl hl (by decide) rfl (fun ls hl => ?_)
    refine lv_iload_n hx hb dX9_list_18 rfl (lv_at hl 0 rfl) ?_
    refine lv_aload_n hx hb dX9_list_19 rfl (lv_at hl 2 rfl) ?_
    refine va_get (D := D) (ci := 9) (v := .int 0) (C := RX9) (T := TX9) (N := 46) hx hb hts (fun _ h9 => List.mem_cons_of_mem _ (List.mem_append_right _ h9)) hown hK hP 0 rfl rfl 16 (by decide) (hts (.fieldLink RX9 146 "BuoyTenderModel" "warnings" "I") (by decide +kernel)) (fun _ h9 => h9) rfl dX9_list_20 ?_
    refine lv_icmp_ge (tgt := 49) hx hb dX9_list_23 (by decide) (fun _ => ?_) (fun c_3 => False.elim (by revert c_3; decide))
    refine lv_iload_n hx hb dX9_list_49 rfl (lv_at hl 1 rfl) ?_
    exact W.iret (v := 0) hx hb hr (fun t ht hW => ⟨0, rfl, (Or.inl ⟨rfl, h_1⟩), ht⟩) (fun _ h => by cases h) dX9_list_50
  refine lv_if_ne (tgt := 14) hx hb dX9_list_9 (by decide) (fun c_4 => False.elim (by revert c_4; decide)) (fun _ => ?_)
  refine lv_iconst (v := (-1)) hx hb dX9_list_12 (by decide) ?_
  exact W.iret (v := (-1)) hx hb hr (fun t ht hW => ⟨(-1), rfl, (Or.inr ⟨rfl, fun h9 => h_1 (h9)⟩), ht⟩) (fun _ h => by cases h) dX9_list_13
set_option maxHeartbeats 4000000 in
set_option maxRecDepth 100000 in
/-- about of a fresh reference -/
theorem k_X9_about (l : Launch) (D : va_G) (cI cJ cZ cM : Nat) (h0 : Nat) (n : Nat → Nat) (x1 : Int32) : Met l yX9_about wsX9_about ({ frames := 0, cells := 0, slots := 0, locals := 0 } : Room) (RO D cI cJ cZ cM [.ref h0, .int x1] [(h0, .inr (9, [.ref (n 0), .int 0, .ref (n 2), .ref (n 3), .ref (n 4), .ref (n 5), .ref (n 6), .int 0, .ref (n 8), .ref (n 9), .ref (n 10), .ref (n 11), .ref (n 12), .ref (n 13), .ref (n 14), .int 0, .int 0, .ref (n 17), .ref (n 18), .ref (n 19), .ref (n 20), .ref (n 21), .ref (n 22), .ref (n 23), .ref (n 24), .ref (n 25), .int 1, .int 0, .int 12, .int 0, .int 0, .int 0, .int 0, .int 1440, .ref (n 34), .ref (n 35), .int 0, .int 0, .int 0, .ref (n 39), .ref (n 40), .ref (n 41), .ref (n 42), .int 0, .int 0, .int 0]))]) (vp_Si (fun r => r = aboutF x1)) 0 0 (fun _ => False) := by
  refine Met.ofW (cc := cX9_about) (maxL := 4) (ret := (some .int)) (by decide) rfl ?_
  intro p e s m args below meth c s₁ B hml hv
  obtain ⟨rfl, hG, hP⟩ := hv
  have hx := B.exec
  have hb := B.bytes
  have hr := B.returns
  have hts := atoms_spec (ws := wsX9_about) B.pre
  have hown : s.vm.findClass RX9 = some m.cls := findClass_of_methodNamed B.named
  have hlocks := B.notSynchronized
  have hK := hG.1
  have hN := hG.2
  have hl := lv_entry ([.ref h0, .int x1]) (n := 4) (Nat.le_of_ble_eq_true rfl)
  rw [lg_entry_eq]
  generalize (lg_sl ([.ref h0, .int x1]) ++ List.replicate (4 - (lg_sl ([.ref h0, .int x1])).length) Slot.unset).toArray = ls at hl ⊢
  have hl : lv_has ls 4 [(0, .ref h0), (1, .int x1)] := hl
  refine lv_iconst (v := 0) hx hb dX9_about_0 (by decide) ?_
  refine lv_istore_n (lv' := [(2, .int 0), (0, .ref h0), (1, .int x1)]) hx hb dX9_about_1 rfl hl (by decide) rfl (fun ls hl => ?_)
  refine lv_iconst (v := 0) hx hb dX9_about_2 (by decide) ?_
  refine lv_istore_n (lv' := [(3, .int 0), (2, .int 0), (0, .ref h0), (1, .int x1)]) hx hb dX9_about_3 rfl hl (by decide) rfl (fun ls hl => ?_)
  refine lv_iload_n hx hb dX9_about_4 rfl (lv_at hl 0 rfl) ?_
  refine lv_aload_n hx hb dX9_about_5 rfl (lv_at hl 2 rfl) ?_
  refine va_get (D := D) (ci := 9) (v := .int 0) (C := RX9) (T := TX9) (N := 46) hx hb hts (fun _ h9 => List.mem_cons_of_mem _ (List.mem_append_right _ h9)) hown hK hP 0 rfl rfl 1 (by decide) (hts (.fieldLink RX9 109 "BuoyTenderModel" "marks" "I") (by decide +kernel)) (fun _ h9 => h9) rfl dX9_about_6 ?_
  refine lv_icmp_ge (tgt := 35) hx hb dX9_about_9 (by decide) (fun _ => ?_) (fun c_1 => False.elim (by revert c_1; decide))
  refine lv_iload_n hx hb dX9_about_35 rfl (lv_at hl 3 rfl) ?_
  by_cases s_2 : x1 = 0
  · refine lv_tableIn (off := 40) (tgt := 76) hx hb dX9_about_36 (by rw [s_2]; decide) (by rw [s_2]; decide) (by rw [s_2]; decide) (by decide) ?_
    refine lv_aload_n hx hb dX9_about_76 rfl (lv_at hl 2 rfl) ?_
    refine va_get (D := D) (ci := 9) (v := .int 0) (C := RX9) (T := TX9) (N := 46) hx hb hts (fun _ h9 => List.mem_cons_of_mem _ (List.mem_append_right _ h9)) hown hK hP 0 rfl rfl 1 (by decide) (hts (.fieldLink RX9 109 "BuoyTenderModel" "marks" "I") (by decide +kernel)) (fun _ h9 => h9) rfl dX9_about_77 ?_
    exact W.iret (v := 0) hx hb hr (fun t ht hW => ⟨0, rfl, (by simp only [aboutF, s_2]; decide), ht⟩) (fun _ h => by cases h) dX9_about_80
  by_cases s_3 : x1 = 1
  · refine lv_tableIn (off := 45) (tgt := 81) hx hb dX9_about_36 (by rw [s_3]; decide) (by rw [s_3]; decide) (by rw [s_3]; decide) (by decide) ?_
    refine lv_aload_n hx hb dX9_about_81 rfl (lv_at hl 2 rfl) ?_
    refine va_get (D := D) (ci := 9) (v := .int 0) (C := RX9) (T := TX9) (N := 46) hx hb hts (fun _ h9 => List.mem_cons_of_mem _ (List.mem_append_right _ h9)) hown hK hP 0 rfl rfl 7 (by decide) (hts (.fieldLink RX9 131 "BuoyTenderModel" "clock" "I") (by decide +kernel)) (fun _ h9 => h9) rfl dX9_about_82 ?_
    exact W.iret (v := 0) hx hb hr (fun t ht hW => ⟨0, rfl, (by simp only [aboutF, s_2, s_3]; decide), ht⟩) (fun _ h => by cases h) dX9_about_85
  by_cases s_4 : x1 = 2
  · refine lv_tableIn (off := 50) (tgt := 86) hx hb dX9_about_36 (by rw [s_4]; decide) (by rw [s_4]; decide) (by rw [s_4]; decide) (by decide) ?_
    refine lv_aload_n hx hb dX9_about_86 rfl (lv_at hl 2 rfl) ?_
    refine va_get (D := D) (ci := 9) (v := .int 0) (C := RX9) (T := TX9) (N := 46) hx hb hts (fun _ h9 => List.mem_cons_of_mem _ (List.mem_append_right _ h9)) hown hK hP 0 rfl rfl 16 (by decide) (hts (.fieldLink RX9 146 "BuoyTenderModel" "warnings" "I") (by decide +kernel)) (fun _ h9 => h9) rfl dX9_about_87 ?_
    exact W.iret (v := 0) hx hb hr (fun t ht hW => ⟨0, rfl, (by simp only [aboutF, s_2, s_3, s_4]; decide), ht⟩) (fun _ h => by cases h) dX9_about_90
  by_cases s_5 : x1 = 3
  · refine lv_tableIn (off := 55) (tgt := 91) hx hb dX9_about_36 (by rw [s_5]; decide) (by rw [s_5]; decide) (by rw [s_5]; decide) (by decide) ?_
    refine lv_aload_n hx hb dX9_about_91 rfl (lv_at hl 2 rfl) ?_
    refine va_get (D := D) (ci := 9) (v := .int 0) (C := RX9) (T := TX9) (N := 46) hx hb hts (fun _ h9 => List.mem_cons_of_mem _ (List.mem_append_right _ h9)) hown hK hP 0 rfl rfl 15 (by decide) (hts (.fieldLink RX9 140 "BuoyTenderModel" "nearness" "I") (by decide +kernel)) (fun _ h9 => h9) rfl dX9_about_92 ?_
    exact W.iret (v := 0) hx hb hr (fun t ht hW => ⟨0, rfl, (by simp only [aboutF, s_2, s_3, s_4, s_5]; decide), ht⟩) (fun _ h => by cases h) dX9_about_95
  by_cases s_6 : x1 = 4
  · refine lv_tableIn (off := 60) (tgt := 96) hx hb dX9_about_36 (by rw [s_6]; decide) (by rw [s_6]; decide) (by rw [s_6]; decide) (by decide) ?_
    refine lv_iload_n hx hb dX9_about_96 rfl (lv_at hl 1 rfl) ?_
    exact W.iret (v := 0) hx hb hr (fun t ht hW => ⟨0, rfl, (by simp only [aboutF, s_2, s_3, s_4, s_5, s_6]; decide), ht⟩) (fun _ h => by cases h) dX9_about_97
  by_cases s_7 : x1 = 5
  · refine lv_tableIn (off := 62) (tgt := 98) hx hb dX9_about_36 (by rw [s_7]; decide) (by rw [s_7]; decide) (by rw [s_7]; decide) (by decide) ?_
    refine lv_aload_n hx hb dX9_about_98 rfl (lv_at hl 2 rfl) ?_
    refine va_get (D := D) (ci := 9) (v := .int 1440) (C := RX9) (T := TX9) (N := 46) hx hb hts (fun _ h9 => List.mem_cons_of_mem _ (List.mem_append_right _ h9)) hown hK hP 0 rfl rfl 33 (by decide) (hts (.fieldLink RX9 84 "BuoyTenderModel" "last" "I") (by decide +kernel)) (fun _ h9 => h9) rfl dX9_about_99 ?_
    exact W.iret (v := 1440) hx hb hr (fun t ht hW => ⟨1440, rfl, (by simp only [aboutF, s_2, s_3, s_4, s_5, s_6, s_7]; decide), ht⟩) (fun _ h => by cases h) dX9_about_102
  refine lv_tableOut (tgt := 103) hx hb dX9_about_36 (my_out (hi := 5) (fun z hz => by rcases (show z = 0 ∨ z = 1 ∨ z = 2 ∨ z = 3 ∨ z = 4 ∨ z = 5 by omega) with rfl | rfl | rfl | rfl | rfl | rfl <;> assumption) (by decide)) (by decide) ?_
  refine lv_iconst (v := (-1)) hx hb dX9_about_103 (by decide) ?_
  exact W.iret (v := (-1)) hx hb hr (fun t ht hW => ⟨(-1), rfl, (by simp only [aboutF, s_2, s_3, s_4, s_5, s_6, s_7]; decide), ht⟩) (fun _ h => by cases h) dX9_about_104
