def aboutF (x : Int32) : Int32 := if x = 0 then 0 else if x = 1 then 0 else if x = 2 then 0 else if x = 3 then 0 else if x = 4 then 0 else if x = 5 then 1440 else -1
set_option maxHeartbeats 4000000 in
set_option maxRecDepth 100000 in
/-- sight on a fresh object -/
theorem k_X8_sight (l : Launch) (D : va_G) (cI cJ cZ cM : Nat) (h0 : Nat) (a : Nat → Nat) (x1 : Int32) : Met l yX8_sight wsX8_sight ({ frames := 1, cells := 0, slots := 0, locals := 21 } : Room) (RO D cI cJ cZ cM [.ref h0, .int x1] [(h0, .inr (8, [.ref (a 1), .ref (a 2), .ref (a 3), .ref (a 4), .ref (a 5), .ref (a 6), .ref (a 7), .null, .int 0, .int 0, .int 0, .int 0])), (a 1, .inl (cI, 1600, .inl (fun _ => 0))), (a 2, .inl (cM, 10, .inr (.inr (.inr (.inr (fun _ => none)))))), (a 3, .inl (cI, 48, .inl (fun _ => 0))), (a 4, .inr (7, [.ref (a 8), .ref (a 9), .ref (a 10), .ref (a 11), .int 0])), (a 8, .inl (cI, 100, .inl (fun _ => 0))), (a 9, .inl (cI, 100, .inl (fun _ => 0))), (a 10, .inl (cI, 100, .inl (fun _ => 0))), (a 11, .inl (cI, 100, .inl (fun _ => 0))), (a 5, .inr (4, [.ref (a 12), .ref (a 13), .int 0, .int 0, .int 0, .int 1440, .int 1, .int 0, .int 12, .int 0])), (a 12, .inl (cI, 24, .inl (fun _ => 0))), (a 13, .inl (cI, 24, .inl (fun _ => 0))), (a 6, .inr (6, [.int 0, .int 0, .int 0, .int 0, .int 0, .int 0])), (a 7, .inr (3, [.ref (a 14), .int 0])), (a 14, .inl (cI, 8, .inl (fun _ => 0)))]) (vp_Si (fun r => r = 0)) 0 0 (fun _ => False) := by
  refine Met.ofW (cc := cX8_sight) (maxL := 3) (ret := (some .boolean)) (by decide) rfl ?_
  intro p e s m args below meth c s₁ B hml hv
  obtain ⟨rfl, hG, hP⟩ := hv
  have hx := B.exec
  have hb := B.bytes
  have hr := B.returns
  have hts := atoms_spec (ws := wsX8_sight) B.pre
  have hown : s.vm.findClass RX8 = some m.cls := findClass_of_methodNamed B.named
  have hlocks := B.notSynchronized
  have hK := hG.1
  have hN := hG.2
  have hl := lv_entry ([.ref h0, .int x1]) (n := 3) (Nat.le_of_ble_eq_true rfl)
  rw [lg_entry_eq]
  generalize (lg_sl ([.ref h0, .int x1]) ++ List.replicate (3 - (lg_sl ([.ref h0, .int x1])).length) Slot.unset).toArray = ls at hl ⊢
  have hl : lv_has ls 3 [(0, .ref h0), (1, .int x1)] := hl
  refine lv_aload_n hx hb dX8_sight_0 rfl (lv_at hl 0 rfl) ?_
  refine lv_iload_n hx hb dX8_sight_1 rfl (lv_at hl 1 rfl) ?_
  have hPc := hP.sub (ws' := [(h0, .inr (8, [.ref (a 1), .ref (a 2), .ref (a 3), .ref (a 4), .ref (a 5), .ref (a 6), .ref (a 7), .null, .int 0, .int 0, .int 0, .int 0])), (a 2, .inl (cM, 10, .inr (.inr (.inr (.inr (fun _ => none))))))]) [0, 2] rfl
  refine va_csq (va_Run.run (va_runV (As := [.int x1]) (rest := []) ⟨hx, hb, hml, hown, hts⟩ (k_X8_known l D cI cJ cZ cM h0 a x1) (cwV 1 hts gX8_sight_X8_known rfl rfl rfl (by decide +kernel) ⟨Nat.le_of_ble_eq_true rfl, Nat.le_of_ble_eq_true rfl⟩) (ro_V hG hPc (va_recv hK hPc (ci := 8) (q0 := 0) rfl rfl)) rfl rfl hl.1 rfl (lv_room (Nat.le_of_ble_eq_true rfl)) dX8_sight_2 ⟨Nat.le_of_ble_eq_true rfl, Nat.le_of_ble_eq_true rfl⟩)) (fun r_1 h_1 => ?_)
  obtain rfl : r_1 = none := h_1
  refine W.eq (g2 := F0 m 5 ls [.null]) rfl ?_
  refine lv_astore_nN (lv' := [(2, .null), (0, .ref h0), (1, .int x1)]) hx hb dX8_sight_5 rfl hl (by decide) rfl (fun ls hl => ?_)
  refine lv_aload_nN hx hb dX8_sight_6 rfl (lv_at hl 0 rfl) ?_
  refine lv_ifnonnullN hx hb dX8_sight_7 ?_
  refine lv_iconst (v := 0) hx hb dX8_sight_10 (by decide) ?_
  exact W.zret (v := 0) hx hb hr rfl (fun t ht hW => ⟨0, rfl, rfl, ht⟩) (fun _ h => by cases h) dX8_sight_11
set_option maxHeartbeats 4000000 in
set_option maxRecDepth 100000 in
/-- bearing on a fresh object -/
theorem k_X8_bearing (l : Launch) (D : va_G) (cI cJ cZ cM : Nat) (h0 : Nat) (a : Nat → Nat) (x1 : Int32) (x2 : Int32) (x3 : Int32) (x4 : Int32) (x5 : Int32) (x6 : Int32) : Met l yX8_bearing wsX8_bearing ({ frames := 1, cells := 0, slots := 0, locals := 21 } : Room) (RO D cI cJ cZ cM [.ref h0, .int x1, .int x2, .int x3, .int x4, .int x5, .int x6] [(h0, .inr (8, [.ref (a 1), .ref (a 2), .ref (a 3), .ref (a 4), .ref (a 5), .ref (a 6), .ref (a 7), .null, .int 0, .int 0, .int 0, .int 0])), (a 1, .inl (cI, 1600, .inl (fun _ => 0))), (a 2, .inl (cM, 10, .inr (.inr (.inr (.inr (fun _ => none)))))), (a 3, .inl (cI, 48, .inl (fun _ => 0))), (a 4, .inr (7, [.ref (a 8), .ref (a 9), .ref (a 10), .ref (a 11), .int 0])), (a 8, .inl (cI, 100, .inl (fun _ => 0))), (a 9, .inl (cI, 100, .inl (fun _ => 0))), (a 10, .inl (cI, 100, .inl (fun _ => 0))), (a 11, .inl (cI, 100, .inl (fun _ => 0))), (a 5, .inr (4, [.ref (a 12), .ref (a 13), .int 0, .int 0, .int 0, .int 1440, .int 1, .int 0, .int 12, .int 0])), (a 12, .inl (cI, 24, .inl (fun _ => 0))), (a 13, .inl (cI, 24, .inl (fun _ => 0))), (a 6, .inr (6, [.int 0, .int 0, .int 0, .int 0, .int 0, .int 0])), (a 7, .inr (3, [.ref (a 14), .int 0])), (a 14, .inl (cI, 8, .inl (fun _ => 0)))]) (vp_Si (fun r => r = 0)) 0 0 (fun _ => False) := by
  refine Met.ofW (cc := cX8_bearing) (maxL := 9) (ret := (some .boolean)) (by decide) rfl ?_
  intro p e s m args below meth c s₁ B hml hv
  obtain ⟨rfl, hG, hP⟩ := hv
  have hx := B.exec
  have hb := B.bytes
  have hr := B.returns
  have hts := atoms_spec (ws := wsX8_bearing) B.pre
  have hown : s.vm.findClass RX8 = some m.cls := findClass_of_methodNamed B.named
  have hlocks := B.notSynchronized
  have hK := hG.1
  have hN := hG.2
  have hl := lv_entry ([.ref h0, .int x1, .int x2, .int x3, .int x4, .int x5, .int x6]) (n := 9) (Nat.le_of_ble_eq_true rfl)
  rw [lg_entry_eq]
  generalize (lg_sl ([.ref h0, .int x1, .int x2, .int x3, .int x4, .int x5, .int x6]) ++ List.replicate (9 - (lg_sl ([.ref h0, .int x1, .int x2, .int x3, .int x4, .int x5, .int x6])).length) Slot.unset).toArray = ls at hl ⊢
  have hl : lv_has ls 9 [(0, .ref h0), (1, .int x1), (2, .int x2), (3, .int x3), (4, .int x4), (5, .int x5), (6, .int x6)] := hl
  refine lv_aload_n hx hb dX8_bearing_0 rfl (lv_at hl 0 rfl) ?_
  refine lv_iload_n hx hb dX8_bearing_1 rfl (lv_at hl 1 rfl) ?_
  have hPc := hP.sub (ws' := [(h0, .inr (8, [.ref (a 1), .ref (a 2), .ref (a 3), .ref (a 4), .ref (a 5), .ref (a 6), .ref (a 7), .null, .int 0, .int 0, .int 0, .int 0])), (a 2, .inl (cM, 10, .inr (.inr (.inr (.inr (fun _ => none))))))]) [0, 2] rfl
  refine va_csq (va_Run.run (va_runV (As := [.int x1]) (rest := []) ⟨hx, hb, hml, hown, hts⟩ (k_X8_known l D cI cJ cZ cM h0 a x1) (cwV 1 hts gX8_bearing_X8_known rfl rfl rfl (by decide +kernel) ⟨Nat.le_of_ble_eq_true rfl, Nat.le_of_ble_eq_true rfl⟩) (ro_V hG hPc (va_recv hK hPc (ci := 8) (q0 := 0) rfl rfl)) rfl rfl hl.1 rfl (lv_room (Nat.le_of_ble_eq_true rfl)) dX8_bearing_2 ⟨Nat.le_of_ble_eq_true rfl, Nat.le_of_ble_eq_true rfl⟩)) (fun r_1 h_1 => ?_)
  obtain rfl : r_1 = none := h_1
  refine W.eq (g2 := F0 m 5 ls [.null]) rfl ?_
  refine lv_astoreN (lv' := [(7, .null), (0, .ref h0), (1, .int x1), (2, .int x2), (3, .int x3), (4, .int x4), (5, .int x5), (6, .int x6)]) hx hb dX8_bearing_5 hl (by decide) rfl (fun ls hl => ?_)
  refine lv_aload_n hx hb dX8_bearing_7 rfl (lv_at hl 1 rfl) ?_
  refine lv_iload_n hx hb dX8_bearing_8 rfl (lv_at hl 3 rfl) ?_
  have hPc := hP.sub (ws' := [(h0, .inr (8, [.ref (a 1), .ref (a 2), .ref (a 3), .ref (a 4), .ref (a 5), .ref (a 6), .ref (a 7), .null, .int 0, .int 0, .int 0, .int 0])), (a 2, .inl (cM, 10, .inr (.inr (.inr (.inr (fun _ => none))))))]) [0, 2] rfl
  refine va_csq (va_Run.run (va_runV (As := [.int x2]) (rest := []) ⟨hx, hb, hml, hown, hts⟩ (k_X8_known l D cI cJ cZ cM h0 a x2) (cwV 1 hts gX8_bearing_X8_known rfl rfl rfl (by decide +kernel) ⟨Nat.le_of_ble_eq_true rfl, Nat.le_of_ble_eq_true rfl⟩) (ro_V hG hPc (va_recv hK hPc (ci := 8) (q0 := 0) rfl rfl)) rfl rfl hl.1 rfl (lv_room (Nat.le_of_ble_eq_true rfl)) dX8_bearing_9 ⟨Nat.le_of_ble_eq_true rfl, Nat.le_of_ble_eq_true rfl⟩)) (fun r_2 h_2 => ?_)
  obtain rfl : r_2 = none := h_2
  refine W.eq (g2 := F0 m 12 ls [.null]) rfl ?_
  refine lv_astoreN (lv' := [(8, .null), (7, .null), (0, .ref h0), (1, .int x1), (2, .int x2), (3, .int x3), (4, .int x4), (5, .int x5), (6, .int x6)]) hx hb dX8_bearing_12 hl (by decide) rfl (fun ls hl => ?_)
  refine lv_aloadN hx hb dX8_bearing_14 (lv_at hl 1 rfl) ?_
  refine lv_ifnullN (tgt := 48) hx hb dX8_bearing_16 (by decide) ?_
  refine lv_iconst (v := 0) hx hb dX8_bearing_48 (by decide) ?_
  exact W.zret (v := 0) hx hb hr rfl (fun t ht hW => ⟨0, rfl, rfl, ht⟩) (fun _ h => by cases h) dX8_bearing_49
set_option maxHeartbeats 4000000 in
set_option maxRecDepth 100000 in
/-- sounding on a fresh object -/
theorem k_X8_sounding (l : Launch) (D : va_G) (cI cJ cZ cM : Nat) (h0 : Nat) (a : Nat → Nat) (x1 : Int32) (x2 : Int32) (x3 : Int32) : Met l yX8_sounding wsX8_sounding ({ frames := 1, cells := 0, slots := 0, locals := 21 } : Room) (RO D cI cJ cZ cM [.ref h0, .int x1, .int x2, .int x3] [(h0, .inr (8, [.ref (a 1), .ref (a 2), .ref (a 3), .ref (a 4), .ref (a 5), .ref (a 6), .ref (a 7), .null, .int 0, .int 0, .int 0, .int 0])), (a 1, .inl (cI, 1600, .inl (fun _ => 0))), (a 2, .inl (cM, 10, .inr (.inr (.inr (.inr (fun _ => none)))))), (a 3, .inl (cI, 48, .inl (fun _ => 0))), (a 4, .inr (7, [.ref (a 8), .ref (a 9), .ref (a 10), .ref (a 11), .int 0])), (a 8, .inl (cI, 100, .inl (fun _ => 0))), (a 9, .inl (cI, 100, .inl (fun _ => 0))), (a 10, .inl (cI, 100, .inl (fun _ => 0))), (a 11, .inl (cI, 100, .inl (fun _ => 0))), (a 5, .inr (4, [.ref (a 12), .ref (a 13), .int 0, .int 0, .int 0, .int 1440, .int 1, .int 0, .int 12, .int 0])), (a 12, .inl (cI, 24, .inl (fun _ => 0))), (a 13, .inl (cI, 24, .inl (fun _ => 0))), (a 6, .inr (6, [.int 0, .int 0, .int 0, .int 0, .int 0, .int 0])), (a 7, .inr (3, [.ref (a 14), .int 0])), (a 14, .inl (cI, 8, .inl (fun _ => 0)))]) (vp_Si (fun r => r = 0)) 0 0 (fun _ => False) := by
  refine Met.ofW (cc := cX8_sounding) (maxL := 5) (ret := (some .boolean)) (by decide) rfl ?_
  intro p e s m args below meth c s₁ B hml hv
  obtain ⟨rfl, hG, hP⟩ := hv
  have hx := B.exec
  have hb := B.bytes
  have hr := B.returns
  have hts := atoms_spec (ws := wsX8_sounding) B.pre
  have hown : s.vm.findClass RX8 = some m.cls := findClass_of_methodNamed B.named
  have hlocks := B.notSynchronized
  have hK := hG.1
  have hN := hG.2
  have hl := lv_entry ([.ref h0, .int x1, .int x2, .int x3]) (n := 5) (Nat.le_of_ble_eq_true rfl)
  rw [lg_entry_eq]
  generalize (lg_sl ([.ref h0, .int x1, .int x2, .int x3]) ++ List.replicate (5 - (lg_sl ([.ref h0, .int x1, .int x2, .int x3])).length) Slot.unset).toArray = ls at hl ⊢
  have hl : lv_has ls 5 [(0, .ref h0), (1, .int x1), (2, .int x2), (3, .int x3)] := hl
  refine lv_aload_n hx hb dX8_sounding_0 rfl (lv_at hl 0 rfl) ?_
  refine lv_iload_n hx hb dX8_sounding_1 rfl (lv_at hl 1 rfl) ?_
  have hPc := hP.sub (ws' := [(h0, .inr (8, [.ref (a 1), .ref (a 2), .ref (a 3), .ref (a 4), .ref (a 5), .ref (a 6), .ref (a 7), .null, .int 0, .int 0, .int 0, .int 0])), (a 2, .inl (cM, 10, .inr (.inr (.inr (.inr (fun _ => none))))))]) [0, 2] rfl
  refine va_csq (va_Run.run (va_runV (As := [.int x1]) (rest := []) ⟨hx, hb, hml, hown, hts⟩ (k_X8_known l D cI cJ cZ cM h0 a x1) (cwV 1 hts gX8_sounding_X8_known rfl rfl rfl (by decide +kernel) ⟨Nat.le_of_ble_eq_true rfl, Nat.le_of_ble_eq_true rfl⟩) (ro_V hG hPc (va_recv hK hPc (ci := 8) (q0 := 0) rfl rfl)) rfl rfl hl.1 rfl (lv_room (Nat.le_of_ble_eq_true rfl)) dX8_sounding_2 ⟨Nat.le_of_ble_eq_true rfl, Nat.le_of_ble_eq_true rfl⟩)) (fun r_1 h_1 => ?_)
  obtain rfl : r_1 = none := h_1
  refine W.eq (g2 := F0 m 5 ls [.null]) rfl ?_
  refine lv_astoreN (lv' := [(4, .null), (0, .ref h0), (1, .int x1), (2, .int x2), (3, .int x3)]) hx hb dX8_sounding_5 hl (by decide) rfl (fun ls hl => ?_)
  refine lv_aloadN hx hb dX8_sounding_7 (lv_at hl 0 rfl) ?_
  refine lv_ifnullN (tgt := 34) hx hb dX8_sounding_9 (by decide) ?_
  refine lv_iconst (v := 0) hx hb dX8_sounding_34 (by decide) ?_
  exact W.zret (v := 0) hx hb hr rfl (fun t ht hW => ⟨0, rfl, rfl, ht⟩) (fun _ h => by cases h) dX8_sounding_35
set_option maxHeartbeats 4000000 in
set_option maxRecDepth 100000 in
/-- lies on a fresh object -/
theorem k_X8_lies (l : Launch) (D : va_G) (cI cJ cZ cM : Nat) (h0 : Nat) (a : Nat → Nat) (x1 : Int32) (x2 : Int32) : Met l yX8_lies wsX8_lies ({ frames := 1, cells := 0, slots := 0, locals := 21 } : Room) (RO D cI cJ cZ cM [.ref h0, .int x1, .int x2] [(h0, .inr (8, [.ref (a 1), .ref (a 2), .ref (a 3), .ref (a 4), .ref (a 5), .ref (a 6), .ref (a 7), .null, .int 0, .int 0, .int 0, .int 0])), (a 1, .inl (cI, 1600, .inl (fun _ => 0))), (a 2, .inl (cM, 10, .inr (.inr (.inr (.inr (fun _ => none)))))), (a 3, .inl (cI, 48, .inl (fun _ => 0))), (a 4, .inr (7, [.ref (a 8), .ref (a 9), .ref (a 10), .ref (a 11), .int 0])), (a 8, .inl (cI, 100, .inl (fun _ => 0))), (a 9, .inl (cI, 100, .inl (fun _ => 0))), (a 10, .inl (cI, 100, .inl (fun _ => 0))), (a 11, .inl (cI, 100, .inl (fun _ => 0))), (a 5, .inr (4, [.ref (a 12), .ref (a 13), .int 0, .int 0, .int 0, .int 1440, .int 1, .int 0, .int 12, .int 0])), (a 12, .inl (cI, 24, .inl (fun _ => 0))), (a 13, .inl (cI, 24, .inl (fun _ => 0))), (a 6, .inr (6, [.int 0, .int 0, .int 0, .int 0, .int 0, .int 0])), (a 7, .inr (3, [.ref (a 14), .int 0])), (a 14, .inl (cI, 8, .inl (fun _ => 0)))]) (vp_Si (fun r => r = -1)) 0 0 (fun _ => False) := by
  refine Met.ofW (cc := cX8_lies) (maxL := 4) (ret := (some .int)) (by decide) rfl ?_
  intro p e s m args below meth c s₁ B hml hv
  obtain ⟨rfl, hG, hP⟩ := hv
  have hx := B.exec
  have hb := B.bytes
  have hr := B.returns
  have hts := atoms_spec (ws := wsX8_lies) B.pre
  have hown : s.vm.findClass RX8 = some m.cls := findClass_of_methodNamed B.named
  have hlocks := B.notSynchronized
  have hK := hG.1
  have hN := hG.2
  have hl := lv_entry ([.ref h0, .int x1, .int x2]) (n := 4) (Nat.le_of_ble_eq_true rfl)
  rw [lg_entry_eq]
  generalize (lg_sl ([.ref h0, .int x1, .int x2]) ++ List.replicate (4 - (lg_sl ([.ref h0, .int x1, .int x2])).length) Slot.unset).toArray = ls at hl ⊢
  have hl : lv_has ls 4 [(0, .ref h0), (1, .int x1), (2, .int x2)] := hl
  refine lv_aload_n hx hb dX8_lies_0 rfl (lv_at hl 0 rfl) ?_
  refine lv_iload_n hx hb dX8_lies_1 rfl (lv_at hl 1 rfl) ?_
  have hPc := hP.sub (ws' := [(h0, .inr (8, [.ref (a 1), .ref (a 2), .ref (a 3), .ref (a 4), .ref (a 5), .ref (a 6), .ref (a 7), .null, .int 0, .int 0, .int 0, .int 0])), (a 2, .inl (cM, 10, .inr (.inr (.inr (.inr (fun _ => none))))))]) [0, 2] rfl
  refine va_csq (va_Run.run (va_runV (As := [.int x1]) (rest := []) ⟨hx, hb, hml, hown, hts⟩ (k_X8_known l D cI cJ cZ cM h0 a x1) (cwV 1 hts gX8_lies_X8_known rfl rfl rfl (by decide +kernel) ⟨Nat.le_of_ble_eq_true rfl, Nat.le_of_ble_eq_true rfl⟩) (ro_V hG hPc (va_recv hK hPc (ci := 8) (q0 := 0) rfl rfl)) rfl rfl hl.1 rfl (lv_room (Nat.le_of_ble_eq_true rfl)) dX8_lies_2 ⟨Nat.le_of_ble_eq_true rfl, Nat.le_of_ble_eq_true rfl⟩)) (fun r_1 h_1 => ?_)
  obtain rfl : r_1 = none := h_1
  refine W.eq (g2 := F0 m 5 ls [.null]) rfl ?_
  refine lv_astore_nN (lv' := [(3, .null), (0, .ref h0), (1, .int x1), (2, .int x2)]) hx hb dX8_lies_5 rfl hl (by decide) rfl (fun ls hl => ?_)
  refine lv_aload_nN hx hb dX8_lies_6 rfl (lv_at hl 0 rfl) ?_
  refine lv_ifnonnullN hx hb dX8_lies_7 ?_
  refine lv_iconst (v := (-1)) hx hb dX8_lies_10 (by decide) ?_
  exact W.iret (v := (-1)) hx hb hr (fun t ht hW => ⟨(-1), rfl, rfl, ht⟩) (fun _ h => by cases h) dX8_lies_11
set_option maxHeartbeats 4000000 in
set_option maxRecDepth 100000 in
/-- chain on a fresh object -/
theorem k_X8_chain (l : Launch) (D : va_G) (cI cJ cZ cM : Nat) (h0 : Nat) (a : Nat → Nat) (x1 : Int32) (x2 : Int32) (x3 : Int32) (x4 : Int32) : Met l yX8_chain wsX8_chain ({ frames := 1, cells := 0, slots := 0, locals := 21 } : Room) (RO D cI cJ cZ cM [.ref h0, .int x1, .int x2, .int x3, .int x4] [(h0, .inr (8, [.ref (a 1), .ref (a 2), .ref (a 3), .ref (a 4), .ref (a 5), .ref (a 6), .ref (a 7), .null, .int 0, .int 0, .int 0, .int 0])), (a 1, .inl (cI, 1600, .inl (fun _ => 0))), (a 2, .inl (cM, 10, .inr (.inr (.inr (.inr (fun _ => none)))))), (a 3, .inl (cI, 48, .inl (fun _ => 0))), (a 4, .inr (7, [.ref (a 8), .ref (a 9), .ref (a 10), .ref (a 11), .int 0])), (a 8, .inl (cI, 100, .inl (fun _ => 0))), (a 9, .inl (cI, 100, .inl (fun _ => 0))), (a 10, .inl (cI, 100, .inl (fun _ => 0))), (a 11, .inl (cI, 100, .inl (fun _ => 0))), (a 5, .inr (4, [.ref (a 12), .ref (a 13), .int 0, .int 0, .int 0, .int 1440, .int 1, .int 0, .int 12, .int 0])), (a 12, .inl (cI, 24, .inl (fun _ => 0))), (a 13, .inl (cI, 24, .inl (fun _ => 0))), (a 6, .inr (6, [.int 0, .int 0, .int 0, .int 0, .int 0, .int 0])), (a 7, .inr (3, [.ref (a 14), .int 0])), (a 14, .inl (cI, 8, .inl (fun _ => 0)))]) (vp_Si (fun r => r = 0)) 0 0 (fun _ => False) := by
  refine Met.ofW (cc := cX8_chain) (maxL := 6) (ret := (some .boolean)) (by decide) rfl ?_
  intro p e s m args below meth c s₁ B hml hv
  obtain ⟨rfl, hG, hP⟩ := hv
  have hx := B.exec
  have hb := B.bytes
  have hr := B.returns
  have hts := atoms_spec (ws := wsX8_chain) B.pre
  have hown : s.vm.findClass RX8 = some m.cls := findClass_of_methodNamed B.named
  have hlocks := B.notSynchronized
  have hK := hG.1
  have hN := hG.2
  have hl := lv_entry ([.ref h0, .int x1, .int x2, .int x3, .int x4]) (n := 6) (Nat.le_of_ble_eq_true rfl)
  rw [lg_entry_eq]
  generalize (lg_sl ([.ref h0, .int x1, .int x2, .int x3, .int x4]) ++ List.replicate (6 - (lg_sl ([.ref h0, .int x1, .int x2, .int x3, .int x4])).length) Slot.unset).toArray = ls at hl ⊢
  have hl : lv_has ls 6 [(0, .ref h0), (1, .int x1), (2, .int x2), (3, .int x3), (4, .int x4)] := hl
  refine lv_aload_n hx hb dX8_chain_0 rfl (lv_at hl 0 rfl) ?_
  refine lv_iload_n hx hb dX8_chain_1 rfl (lv_at hl 1 rfl) ?_
  have hPc := hP.sub (ws' := [(h0, .inr (8, [.ref (a 1), .ref (a 2), .ref (a 3), .ref (a 4), .ref (a 5), .ref (a 6), .ref (a 7), .null, .int 0, .int 0, .int 0, .int 0])), (a 2, .inl (cM, 10, .inr (.inr (.inr (.inr (fun _ => none))))))]) [0, 2] rfl
  refine va_csq (va_Run.run (va_runV (As := [.int x1]) (rest := []) ⟨hx, hb, hml, hown, hts⟩ (k_X8_known l D cI cJ cZ cM h0 a x1) (cwV 1 hts gX8_chain_X8_known rfl rfl rfl (by decide +kernel) ⟨Nat.le_of_ble_eq_true rfl, Nat.le_of_ble_eq_true rfl⟩) (ro_V hG hPc (va_recv hK hPc (ci := 8) (q0 := 0) rfl rfl)) rfl rfl hl.1 rfl (lv_room (Nat.le_of_ble_eq_true rfl)) dX8_chain_2 ⟨Nat.le_of_ble_eq_true rfl, Nat.le_of_ble_eq_true rfl⟩)) (fun r_1 h_1 => ?_)
  obtain rfl : r_1 = none := h_1
  refine W.eq (g2 := F0 m 5 ls [.null]) rfl ?_
  refine lv_astoreN (lv' := [(5, .null), (0, .ref h0), (1, .int x1), (2, .int x2), (3, .int x3), (4, .int x4)]) hx hb dX8_chain_5 hl (by decide) rfl (fun ls hl => ?_)
  refine lv_aloadN hx hb dX8_chain_7 (lv_at hl 0 rfl) ?_
  refine lv_ifnullN (tgt := 42) hx hb dX8_chain_9 (by decide) ?_
  refine lv_iconst (v := 0) hx hb dX8_chain_42 (by decide) ?_
  exact W.zret (v := 0) hx hb hr rfl (fun t ht hW => ⟨0, rfl, rfl, ht⟩) (fun _ h => by cases h) dX8_chain_43
set_option maxHeartbeats 4000000 in
set_option maxRecDepth 100000 in
/-- chainOf on a fresh object -/
theorem k_X8_chainOf (l : Launch) (D : va_G) (cI cJ cZ cM : Nat) (h0 : Nat) (a : Nat → Nat) (x1 : Int32) (x2 : Int32) : Met l yX8_chainOf wsX8_chainOf ({ frames := 1, cells := 0, slots := 0, locals := 21 } : Room) (RO D cI cJ cZ cM [.ref h0, .int x1, .int x2] [(h0, .inr (8, [.ref (a 1), .ref (a 2), .ref (a 3), .ref (a 4), .ref (a 5), .ref (a 6), .ref (a 7), .null, .int 0, .int 0, .int 0, .int 0])), (a 1, .inl (cI, 1600, .inl (fun _ => 0))), (a 2, .inl (cM, 10, .inr (.inr (.inr (.inr (fun _ => none)))))), (a 3, .inl (cI, 48, .inl (fun _ => 0))), (a 4, .inr (7, [.ref (a 8), .ref (a 9), .ref (a 10), .ref (a 11), .int 0])), (a 8, .inl (cI, 100, .inl (fun _ => 0))), (a 9, .inl (cI, 100, .inl (fun _ => 0))), (a 10, .inl (cI, 100, .inl (fun _ => 0))), (a 11, .inl (cI, 100, .inl (fun _ => 0))), (a 5, .inr (4, [.ref (a 12), .ref (a 13), .int 0, .int 0, .int 0, .int 1440, .int 1, .int 0, .int 12, .int 0])), (a 12, .inl (cI, 24, .inl (fun _ => 0))), (a 13, .inl (cI, 24, .inl (fun _ => 0))), (a 6, .inr (6, [.int 0, .int 0, .int 0, .int 0, .int 0, .int 0])), (a 7, .inr (3, [.ref (a 14), .int 0])), (a 14, .inl (cI, 8, .inl (fun _ => 0)))]) (vp_Si (fun r => r = -1)) 0 0 (fun _ => False) := by
  refine Met.ofW (cc := cX8_chainOf) (maxL := 4) (ret := (some .int)) (by decide) rfl ?_
  intro p e s m args below meth c s₁ B hml hv
  obtain ⟨rfl, hG, hP⟩ := hv
  have hx := B.exec
  have hb := B.bytes
  have hr := B.returns
  have hts := atoms_spec (ws := wsX8_chainOf) B.pre
  have hown : s.vm.findClass RX8 = some m.cls := findClass_of_methodNamed B.named
  have hlocks := B.notSynchronized
  have hK := hG.1
  have hN := hG.2
  have hl := lv_entry ([.ref h0, .int x1, .int x2]) (n := 4) (Nat.le_of_ble_eq_true rfl)
  rw [lg_entry_eq]
  generalize (lg_sl ([.ref h0, .int x1, .int x2]) ++ List.replicate (4 - (lg_sl ([.ref h0, .int x1, .int x2])).length) Slot.unset).toArray = ls at hl ⊢
  have hl : lv_has ls 4 [(0, .ref h0), (1, .int x1), (2, .int x2)] := hl
  refine lv_aload_n hx hb dX8_chainOf_0 rfl (lv_at hl 0 rfl) ?_
  refine lv_iload_n hx hb dX8_chainOf_1 rfl (lv_at hl 1 rfl) ?_
  have hPc := hP.sub (ws' := [(h0, .inr (8, [.ref (a 1), .ref (a 2), .ref (a 3), .ref (a 4), .ref (a 5), .ref (a 6), .ref (a 7), .null, .int 0, .int 0, .int 0, .int 0])), (a 2, .inl (cM, 10, .inr (.inr (.inr (.inr (fun _ => none))))))]) [0, 2] rfl
  refine va_csq (va_Run.run (va_runV (As := [.int x1]) (rest := []) ⟨hx, hb, hml, hown, hts⟩ (k_X8_known l D cI cJ cZ cM h0 a x1) (cwV 1 hts gX8_chainOf_X8_known rfl rfl rfl (by decide +kernel) ⟨Nat.le_of_ble_eq_true rfl, Nat.le_of_ble_eq_true rfl⟩) (ro_V hG hPc (va_recv hK hPc (ci := 8) (q0 := 0) rfl rfl)) rfl rfl hl.1 rfl (lv_room (Nat.le_of_ble_eq_true rfl)) dX8_chainOf_2 ⟨Nat.le_of_ble_eq_true rfl, Nat.le_of_ble_eq_true rfl⟩)) (fun r_1 h_1 => ?_)
  obtain rfl : r_1 = none := h_1
  refine W.eq (g2 := F0 m 5 ls [.null]) rfl ?_
  refine lv_astore_nN (lv' := [(3, .null), (0, .ref h0), (1, .int x1), (2, .int x2)]) hx hb dX8_chainOf_5 rfl hl (by decide) rfl (fun ls hl => ?_)
  refine lv_aload_nN hx hb dX8_chainOf_6 rfl (lv_at hl 0 rfl) ?_
  refine lv_ifnullN (tgt := 20) hx hb dX8_chainOf_7 (by decide) ?_
  refine lv_iconst (v := (-1)) hx hb dX8_chainOf_20 (by decide) ?_
  exact W.iret (v := (-1)) hx hb hr (fun t ht hW => ⟨(-1), rfl, rfl, ht⟩) (fun _ h => by cases h) dX8_chainOf_21
set_option maxHeartbeats 4000000 in
set_option maxRecDepth 100000 in
/-- light on a fresh object -/
theorem k_X8_light (l : Launch) (D : va_G) (cI cJ cZ cM : Nat) (h0 : Nat) (a : Nat → Nat) (x1 : Int32) (x2 : Int32) (x3 : Int32) : Met l yX8_light wsX8_light ({ frames := 1, cells := 0, slots := 0, locals := 21 } : Room) (RO D cI cJ cZ cM [.ref h0, .int x1, .int x2, .int x3] [(h0, .inr (8, [.ref (a 1), .ref (a 2), .ref (a 3), .ref (a 4), .ref (a 5), .ref (a 6), .ref (a 7), .null, .int 0, .int 0, .int 0, .int 0])), (a 1, .inl (cI, 1600, .inl (fun _ => 0))), (a 2, .inl (cM, 10, .inr (.inr (.inr (.inr (fun _ => none)))))), (a 3, .inl (cI, 48, .inl (fun _ => 0))), (a 4, .inr (7, [.ref (a 8), .ref (a 9), .ref (a 10), .ref (a 11), .int 0])), (a 8, .inl (cI, 100, .inl (fun _ => 0))), (a 9, .inl (cI, 100, .inl (fun _ => 0))), (a 10, .inl (cI, 100, .inl (fun _ => 0))), (a 11, .inl (cI, 100, .inl (fun _ => 0))), (a 5, .inr (4, [.ref (a 12), .ref (a 13), .int 0, .int 0, .int 0, .int 1440, .int 1, .int 0, .int 12, .int 0])), (a 12, .inl (cI, 24, .inl (fun _ => 0))), (a 13, .inl (cI, 24, .inl (fun _ => 0))), (a 6, .inr (6, [.int 0, .int 0, .int 0, .int 0, .int 0, .int 0])), (a 7, .inr (3, [.ref (a 14), .int 0])), (a 14, .inl (cI, 8, .inl (fun _ => 0)))]) (vp_Si (fun r => r = 0)) 0 0 (fun _ => False) := by
  refine Met.ofW (cc := cX8_light) (maxL := 5) (ret := (some .boolean)) (by decide) rfl ?_
  intro p e s m args below meth c s₁ B hml hv
  obtain ⟨rfl, hG, hP⟩ := hv
  have hx := B.exec
  have hb := B.bytes
  have hr := B.returns
  have hts := atoms_spec (ws := wsX8_light) B.pre
  have hown : s.vm.findClass RX8 = some m.cls := findClass_of_methodNamed B.named
  have hlocks := B.notSynchronized
  have hK := hG.1
  have hN := hG.2
  have hl := lv_entry ([.ref h0, .int x1, .int x2, .int x3]) (n := 5) (Nat.le_of_ble_eq_true rfl)
  rw [lg_entry_eq]
  generalize (lg_sl ([.ref h0, .int x1, .int x2, .int x3]) ++ List.replicate (5 - (lg_sl ([.ref h0, .int x1, .int x2, .int x3])).length) Slot.unset).toArray = ls at hl ⊢
  have hl : lv_has ls 5 [(0, .ref h0), (1, .int x1), (2, .int x2), (3, .int x3)] := hl
  refine lv_aload_n hx hb dX8_light_0 rfl (lv_at hl 0 rfl) ?_
  refine lv_iload_n hx hb dX8_light_1 rfl (lv_at hl 1 rfl) ?_
  have hPc := hP.sub (ws' := [(h0, .inr (8, [.ref (a 1), .ref (a 2), .ref (a 3), .ref (a 4), .ref (a 5), .ref (a 6), .ref (a 7), .null, .int 0, .int 0, .int 0, .int 0])), (a 2, .inl (cM, 10, .inr (.inr (.inr (.inr (fun _ => none))))))]) [0, 2] rfl
  refine va_csq (va_Run.run (va_runV (As := [.int x1]) (rest := []) ⟨hx, hb, hml, hown, hts⟩ (k_X8_known l D cI cJ cZ cM h0 a x1) (cwV 1 hts gX8_light_X8_known rfl rfl rfl (by decide +kernel) ⟨Nat.le_of_ble_eq_true rfl, Nat.le_of_ble_eq_true rfl⟩) (ro_V hG hPc (va_recv hK hPc (ci := 8) (q0 := 0) rfl rfl)) rfl rfl hl.1 rfl (lv_room (Nat.le_of_ble_eq_true rfl)) dX8_light_2 ⟨Nat.le_of_ble_eq_true rfl, Nat.le_of_ble_eq_true rfl⟩)) (fun r_1 h_1 => ?_)
  obtain rfl : r_1 = none := h_1
  refine W.eq (g2 := F0 m 5 ls [.null]) rfl ?_
  refine lv_astoreN (lv' := [(4, .null), (0, .ref h0), (1, .int x1), (2, .int x2), (3, .int x3)]) hx hb dX8_light_5 hl (by decide) rfl (fun ls hl => ?_)
  refine lv_aloadN hx hb dX8_light_7 (lv_at hl 0 rfl) ?_
  refine lv_ifnonnullN hx hb dX8_light_9 ?_
  refine lv_iconst (v := 0) hx hb dX8_light_12 (by decide) ?_
  exact W.zret (v := 0) hx hb hr rfl (fun t ht hW => ⟨0, rfl, rfl, ht⟩) (fun _ h => by cases h) dX8_light_13
set_option maxHeartbeats 4000000 in
set_option maxRecDepth 100000 in
/-- alike on a fresh object -/
theorem k_X8_alike (l : Launch) (D : va_G) (cI cJ cZ cM : Nat) (h0 : Nat) (a : Nat → Nat) (x1 : Int32) (x2 : Int32) : Met l yX8_alike wsX8_alike ({ frames := 1, cells := 0, slots := 0, locals := 21 } : Room) (RO D cI cJ cZ cM [.ref h0, .int x1, .int x2] [(h0, .inr (8, [.ref (a 1), .ref (a 2), .ref (a 3), .ref (a 4), .ref (a 5), .ref (a 6), .ref (a 7), .null, .int 0, .int 0, .int 0, .int 0])), (a 1, .inl (cI, 1600, .inl (fun _ => 0))), (a 2, .inl (cM, 10, .inr (.inr (.inr (.inr (fun _ => none)))))), (a 3, .inl (cI, 48, .inl (fun _ => 0))), (a 4, .inr (7, [.ref (a 8), .ref (a 9), .ref (a 10), .ref (a 11), .int 0])), (a 8, .inl (cI, 100, .inl (fun _ => 0))), (a 9, .inl (cI, 100, .inl (fun _ => 0))), (a 10, .inl (cI, 100, .inl (fun _ => 0))), (a 11, .inl (cI, 100, .inl (fun _ => 0))), (a 5, .inr (4, [.ref (a 12), .ref (a 13), .int 0, .int 0, .int 0, .int 1440, .int 1, .int 0, .int 12, .int 0])), (a 12, .inl (cI, 24, .inl (fun _ => 0))), (a 13, .inl (cI, 24, .inl (fun _ => 0))), (a 6, .inr (6, [.int 0, .int 0, .int 0, .int 0, .int 0, .int 0])), (a 7, .inr (3, [.ref (a 14), .int 0])), (a 14, .inl (cI, 8, .inl (fun _ => 0)))]) (vp_Si (fun r => r = -1)) 0 0 (fun _ => False) := by
  refine Met.ofW (cc := cX8_alike) (maxL := 5) (ret := (some .int)) (by decide) rfl ?_
  intro p e s m args below meth c s₁ B hml hv
  obtain ⟨rfl, hG, hP⟩ := hv
  have hx := B.exec
  have hb := B.bytes
  have hr := B.returns
  have hts := atoms_spec (ws := wsX8_alike) B.pre
  have hown : s.vm.findClass RX8 = some m.cls := findClass_of_methodNamed B.named
  have hlocks := B.notSynchronized
  have hK := hG.1
  have hN := hG.2
  have hl := lv_entry ([.ref h0, .int x1, .int x2]) (n := 5) (Nat.le_of_ble_eq_true rfl)
  rw [lg_entry_eq]
  generalize (lg_sl ([.ref h0, .int x1, .int x2]) ++ List.replicate (5 - (lg_sl ([.ref h0, .int x1, .int x2])).length) Slot.unset).toArray = ls at hl ⊢
  have hl : lv_has ls 5 [(0, .ref h0), (1, .int x1), (2, .int x2)] := hl
  refine lv_aload_n hx hb dX8_alike_0 rfl (lv_at hl 0 rfl) ?_
  refine lv_iload_n hx hb dX8_alike_1 rfl (lv_at hl 1 rfl) ?_
  have hPc := hP.sub (ws' := [(h0, .inr (8, [.ref (a 1), .ref (a 2), .ref (a 3), .ref (a 4), .ref (a 5), .ref (a 6), .ref (a 7), .null, .int 0, .int 0, .int 0, .int 0])), (a 2, .inl (cM, 10, .inr (.inr (.inr (.inr (fun _ => none))))))]) [0, 2] rfl
  refine va_csq (va_Run.run (va_runV (As := [.int x1]) (rest := []) ⟨hx, hb, hml, hown, hts⟩ (k_X8_known l D cI cJ cZ cM h0 a x1) (cwV 1 hts gX8_alike_X8_known rfl rfl rfl (by decide +kernel) ⟨Nat.le_of_ble_eq_true rfl, Nat.le_of_ble_eq_true rfl⟩) (ro_V hG hPc (va_recv hK hPc (ci := 8) (q0 := 0) rfl rfl)) rfl rfl hl.1 rfl (lv_room (Nat.le_of_ble_eq_true rfl)) dX8_alike_2 ⟨Nat.le_of_ble_eq_true rfl, Nat.le_of_ble_eq_true rfl⟩)) (fun r_1 h_1 => ?_)
  obtain rfl : r_1 = none := h_1
  refine W.eq (g2 := F0 m 5 ls [.null]) rfl ?_
  refine lv_astore_nN (lv' := [(3, .null), (0, .ref h0), (1, .int x1), (2, .int x2)]) hx hb dX8_alike_5 rfl hl (by decide) rfl (fun ls hl => ?_)
  refine lv_aload_n hx hb dX8_alike_6 rfl (lv_at hl 1 rfl) ?_
  refine lv_iload_n hx hb dX8_alike_7 rfl (lv_at hl 3 rfl) ?_
  have hPc := hP.sub (ws' := [(h0, .inr (8, [.ref (a 1), .ref (a 2), .ref (a 3), .ref (a 4), .ref (a 5), .ref (a 6), .ref (a 7), .null, .int 0, .int 0, .int 0, .int 0])), (a 2, .inl (cM, 10, .inr (.inr (.inr (.inr (fun _ => none))))))]) [0, 2] rfl
  refine va_csq (va_Run.run (va_runV (As := [.int x2]) (rest := []) ⟨hx, hb, hml, hown, hts⟩ (k_X8_known l D cI cJ cZ cM h0 a x2) (cwV 1 hts gX8_alike_X8_known rfl rfl rfl (by decide +kernel) ⟨Nat.le_of_ble_eq_true rfl, Nat.le_of_ble_eq_true rfl⟩) (ro_V hG hPc (va_recv hK hPc (ci := 8) (q0 := 0) rfl rfl)) rfl rfl hl.1 rfl (lv_room (Nat.le_of_ble_eq_true rfl)) dX8_alike_8 ⟨Nat.le_of_ble_eq_true rfl, Nat.le_of_ble_eq_true rfl⟩)) (fun r_2 h_2 => ?_)
  obtain rfl : r_2 = none := h_2
  refine W.eq (g2 := F0 m 11 ls [.null]) rfl ?_
  refine lv_astoreN (lv' := [(4, .null), (3, .null), (0, .ref h0), (1, .int x1), (2, .int x2)]) hx hb dX8_alike_11 hl (by decide) rfl (fun ls hl => ?_)
  refine lv_aload_nN hx hb dX8_alike_13 rfl (lv_at hl 1 rfl) ?_
  refine lv_ifnullN (tgt := 48) hx hb dX8_alike_14 (by decide) ?_
  refine lv_iconst (v := (-1)) hx hb dX8_alike_48 (by decide) ?_
  exact W.iret (v := (-1)) hx hb hr (fun t ht hW => ⟨(-1), rfl, rfl, ht⟩) (fun _ h => by cases h) dX8_alike_49
set_option maxHeartbeats 4000000 in
set_option maxRecDepth 100000 in
/-- warn on a fresh object -/
theorem k_X8_warn (l : Launch) (D : va_G) (cI cJ cZ cM : Nat) (h0 : Nat) (a : Nat → Nat) (x1 : Int32) (x2 : Int32) : Met l yX8_warn wsX8_warn ({ frames := 1, cells := 0, slots := 0, locals := 21 } : Room) (RO D cI cJ cZ cM [.ref h0, .int x1, .int x2] [(h0, .inr (8, [.ref (a 1), .ref (a 2), .ref (a 3), .ref (a 4), .ref (a 5), .ref (a 6), .ref (a 7), .null, .int 0, .int 0, .int 0, .int 0])), (a 1, .inl (cI, 1600, .inl (fun _ => 0))), (a 2, .inl (cM, 10, .inr (.inr (.inr (.inr (fun _ => none)))))), (a 3, .inl (cI, 48, .inl (fun _ => 0))), (a 4, .inr (7, [.ref (a 8), .ref (a 9), .ref (a 10), .ref (a 11), .int 0])), (a 8, .inl (cI, 100, .inl (fun _ => 0))), (a 9, .inl (cI, 100, .inl (fun _ => 0))), (a 10, .inl (cI, 100, .inl (fun _ => 0))), (a 11, .inl (cI, 100, .inl (fun _ => 0))), (a 5, .inr (4, [.ref (a 12), .ref (a 13), .int 0, .int 0, .int 0, .int 1440, .int 1, .int 0, .int 12, .int 0])), (a 12, .inl (cI, 24, .inl (fun _ => 0))), (a 13, .inl (cI, 24, .inl (fun _ => 0))), (a 6, .inr (6, [.int 0, .int 0, .int 0, .int 0, .int 0, .int 0])), (a 7, .inr (3, [.ref (a 14), .int 0])), (a 14, .inl (cI, 8, .inl (fun _ => 0)))]) (vp_Si (fun r => r = -1)) 0 0 (fun _ => False) := by
  refine Met.ofW (cc := cX8_warn) (maxL := 3) (ret := (some .int)) (by decide) rfl ?_
  intro p e s m args below meth c s₁ B hml hv
  obtain ⟨rfl, hG, hP⟩ := hv
  have hx := B.exec
  have hb := B.bytes
  have hr := B.returns
  have hts := atoms_spec (ws := wsX8_warn) B.pre
  have hown : s.vm.findClass RX8 = some m.cls := findClass_of_methodNamed B.named
  have hlocks := B.notSynchronized
  have hK := hG.1
  have hN := hG.2
  have hl := lv_entry ([.ref h0, .int x1, .int x2]) (n := 3) (Nat.le_of_ble_eq_true rfl)
  rw [lg_entry_eq]
  generalize (lg_sl ([.ref h0, .int x1, .int x2]) ++ List.replicate (3 - (lg_sl ([.ref h0, .int x1, .int x2])).length) Slot.unset).toArray = ls at hl ⊢
  have hl : lv_has ls 3 [(0, .ref h0), (1, .int x1), (2, .int x2)] := hl
  refine lv_aload_n hx hb dX8_warn_0 rfl (lv_at hl 0 rfl) ?_
  refine lv_iload_n hx hb dX8_warn_1 rfl (lv_at hl 1 rfl) ?_
  have hPc := hP.sub (ws' := [(h0, .inr (8, [.ref (a 1), .ref (a 2), .ref (a 3), .ref (a 4), .ref (a 5), .ref (a 6), .ref (a 7), .null, .int 0, .int 0, .int 0, .int 0])), (a 2, .inl (cM, 10, .inr (.inr (.inr (.inr (fun _ => none))))))]) [0, 2] rfl
  refine va_csq (va_Run.run (va_runV (As := [.int x1]) (rest := []) ⟨hx, hb, hml, hown, hts⟩ (k_X8_known l D cI cJ cZ cM h0 a x1) (cwV 1 hts gX8_warn_X8_known rfl rfl rfl (by decide +kernel) ⟨Nat.le_of_ble_eq_true rfl, Nat.le_of_ble_eq_true rfl⟩) (ro_V hG hPc (va_recv hK hPc (ci := 8) (q0 := 0) rfl rfl)) rfl rfl hl.1 rfl (lv_room (Nat.le_of_ble_eq_true rfl)) dX8_warn_2 ⟨Nat.le_of_ble_eq_true rfl, Nat.le_of_ble_eq_true rfl⟩)) (fun r_1 h_1 => ?_)
  obtain rfl : r_1 = none := h_1
  refine W.eq (g2 := F0 m 5 ls [.null]) rfl ?_
  refine lv_ifnullN (tgt := 18) hx hb dX8_warn_5 (by decide) ?_
  refine lv_iconst (v := (-1)) hx hb dX8_warn_18 (by decide) ?_
  exact W.iret (v := (-1)) hx hb hr (fun t ht hW => ⟨(-1), rfl, rfl, ht⟩) (fun _ h => by cases h) dX8_warn_19
set_option maxHeartbeats 4000000 in
set_option maxRecDepth 100000 in
/-- job on a fresh object -/
theorem k_X8_job (l : Launch) (D : va_G) (cI cJ cZ cM : Nat) (h0 : Nat) (a : Nat → Nat) (x1 : Int32) (x2 : Int32) (x3 : Int32) (x4 : Int32) : Met l yX8_job wsX8_job ({ frames := 1, cells := 0, slots := 0, locals := 21 } : Room) (RO D cI cJ cZ cM [.ref h0, .int x1, .int x2, .int x3, .int x4] [(h0, .inr (8, [.ref (a 1), .ref (a 2), .ref (a 3), .ref (a 4), .ref (a 5), .ref (a 6), .ref (a 7), .null, .int 0, .int 0, .int 0, .int 0])), (a 1, .inl (cI, 1600, .inl (fun _ => 0))), (a 2, .inl (cM, 10, .inr (.inr (.inr (.inr (fun _ => none)))))), (a 3, .inl (cI, 48, .inl (fun _ => 0))), (a 4, .inr (7, [.ref (a 8), .ref (a 9), .ref (a 10), .ref (a 11), .int 0])), (a 8, .inl (cI, 100, .inl (fun _ => 0))), (a 9, .inl (cI, 100, .inl (fun _ => 0))), (a 10, .inl (cI, 100, .inl (fun _ => 0))), (a 11, .inl (cI, 100, .inl (fun _ => 0))), (a 5, .inr (4, [.ref (a 12), .ref (a 13), .int 0, .int 0, .int 0, .int 1440, .int 1, .int 0, .int 12, .int 0])), (a 12, .inl (cI, 24, .inl (fun _ => 0))), (a 13, .inl (cI, 24, .inl (fun _ => 0))), (a 6, .inr (6, [.int 0, .int 0, .int 0, .int 0, .int 0, .int 0])), (a 7, .inr (3, [.ref (a 14), .int 0])), (a 14, .inl (cI, 8, .inl (fun _ => 0)))]) (vp_Si (fun r => r = 0)) 0 0 (fun _ => False) := by
  refine Met.ofW (cc := cX8_job) (maxL := 6) (ret := (some .boolean)) (by decide) rfl ?_
  intro p e s m args below meth c s₁ B hml hv
  obtain ⟨rfl, hG, hP⟩ := hv
  have hx := B.exec
  have hb := B.bytes
  have hr := B.returns
  have hts := atoms_spec (ws := wsX8_job) B.pre
  have hown : s.vm.findClass RX8 = some m.cls := findClass_of_methodNamed B.named
  have hlocks := B.notSynchronized
  have hK := hG.1
  have hN := hG.2
  have hl := lv_entry ([.ref h0, .int x1, .int x2, .int x3, .int x4]) (n := 6) (Nat.le_of_ble_eq_true rfl)
  rw [lg_entry_eq]
  generalize (lg_sl ([.ref h0, .int x1, .int x2, .int x3, .int x4]) ++ List.replicate (6 - (lg_sl ([.ref h0, .int x1, .int x2, .int x3, .int x4])).length) Slot.unset).toArray = ls at hl ⊢
  have hl : lv_has ls 6 [(0, .ref h0), (1, .int x1), (2, .int x2), (3, .int x3), (4, .int x4)] := hl
  refine lv_aload_n hx hb dX8_job_0 rfl (lv_at hl 0 rfl) ?_
  refine lv_iload_n hx hb dX8_job_1 rfl (lv_at hl 1 rfl) ?_
  have hPc := hP.sub (ws' := [(h0, .inr (8, [.ref (a 1), .ref (a 2), .ref (a 3), .ref (a 4), .ref (a 5), .ref (a 6), .ref (a 7), .null, .int 0, .int 0, .int 0, .int 0])), (a 2, .inl (cM, 10, .inr (.inr (.inr (.inr (fun _ => none))))))]) [0, 2] rfl
  refine va_csq (va_Run.run (va_runV (As := [.int x1]) (rest := []) ⟨hx, hb, hml, hown, hts⟩ (k_X8_known l D cI cJ cZ cM h0 a x1) (cwV 1 hts gX8_job_X8_known rfl rfl rfl (by decide +kernel) ⟨Nat.le_of_ble_eq_true rfl, Nat.le_of_ble_eq_true rfl⟩) (ro_V hG hPc (va_recv hK hPc (ci := 8) (q0 := 0) rfl rfl)) rfl rfl hl.1 rfl (lv_room (Nat.le_of_ble_eq_true rfl)) dX8_job_2 ⟨Nat.le_of_ble_eq_true rfl, Nat.le_of_ble_eq_true rfl⟩)) (fun r_1 h_1 => ?_)
  obtain rfl : r_1 = none := h_1
  refine W.eq (g2 := F0 m 5 ls [.null]) rfl ?_
  refine lv_astoreN (lv' := [(5, .null), (0, .ref h0), (1, .int x1), (2, .int x2), (3, .int x3), (4, .int x4)]) hx hb dX8_job_5 hl (by decide) rfl (fun ls hl => ?_)
  refine lv_aloadN hx hb dX8_job_7 (lv_at hl 0 rfl) ?_
  refine lv_ifnullN (tgt := 46) hx hb dX8_job_9 (by decide) ?_
  refine lv_iconst (v := 0) hx hb dX8_job_46 (by decide) ?_
  exact W.zret (v := 0) hx hb hr rfl (fun t ht hW => ⟨0, rfl, rfl, ht⟩) (fun _ h => by cases h) dX8_job_47
set_option maxHeartbeats 4000000 in
set_option maxRecDepth 100000 in
/-- cancel on a fresh object -/
theorem k_X8_cancel (l : Launch) (D : va_G) (cI cJ cZ cM : Nat) (h0 : Nat) (a : Nat → Nat) (x1 : Int32) : Met l yX8_cancel wsX8_cancel ({ frames := 2, cells := 0, slots := 0, locals := 43 } : Room) (RO D cI cJ cZ cM [.ref h0, .int x1] [(h0, .inr (8, [.ref (a 1), .ref (a 2), .ref (a 3), .ref (a 4), .ref (a 5), .ref (a 6), .ref (a 7), .null, .int 0, .int 0, .int 0, .int 0])), (a 1, .inl (cI, 1600, .inl (fun _ => 0))), (a 2, .inl (cM, 10, .inr (.inr (.inr (.inr (fun _ => none)))))), (a 3, .inl (cI, 48, .inl (fun _ => 0))), (a 4, .inr (7, [.ref (a 8), .ref (a 9), .ref (a 10), .ref (a 11), .int 0])), (a 8, .inl (cI, 100, .inl (fun _ => 0))), (a 9, .inl (cI, 100, .inl (fun _ => 0))), (a 10, .inl (cI, 100, .inl (fun _ => 0))), (a 11, .inl (cI, 100, .inl (fun _ => 0))), (a 5, .inr (4, [.ref (a 12), .ref (a 13), .int 0, .int 0, .int 0, .int 1440, .int 1, .int 0, .int 12, .int 0])), (a 12, .inl (cI, 24, .inl (fun _ => 0))), (a 13, .inl (cI, 24, .inl (fun _ => 0))), (a 6, .inr (6, [.int 0, .int 0, .int 0, .int 0, .int 0, .int 0])), (a 7, .inr (3, [.ref (a 14), .int 0])), (a 14, .inl (cI, 8, .inl (fun _ => 0)))]) (vp_Si (fun r => r = 0)) 0 0 (fun _ => False) := by
  refine Met.ofW (cc := cX8_cancel) (maxL := 2) (ret := (some .boolean)) (by decide) rfl ?_
  intro p e s m args below meth c s₁ B hml hv
  obtain ⟨rfl, hG, hP⟩ := hv
  have hx := B.exec
  have hb := B.bytes
  have hr := B.returns
  have hts := atoms_spec (ws := wsX8_cancel) B.pre
  have hown : s.vm.findClass RX8 = some m.cls := findClass_of_methodNamed B.named
  have hlocks := B.notSynchronized
  have hK := hG.1
  have hN := hG.2
  have hl := lv_entry ([.ref h0, .int x1]) (n := 2) (Nat.le_of_ble_eq_true rfl)
  rw [lg_entry_eq]
  generalize (lg_sl ([.ref h0, .int x1]) ++ List.replicate (2 - (lg_sl ([.ref h0, .int x1])).length) Slot.unset).toArray = ls at hl ⊢
  have hl : lv_has ls 2 [(0, .ref h0), (1, .int x1)] := hl
  refine lv_aload_n hx hb dX8_cancel_0 rfl (lv_at hl 0 rfl) ?_
  refine va_get (D := D) (ci := 8) (v := .ref (a 4)) (C := RX8) (T := TX8) (N := 12) hx hb hts (fun _ h9 => List.mem_cons_of_mem _ (List.mem_append_left _ (List.mem_append_right _ h9))) hown hK hP 0 rfl rfl 3 (by decide) (hts (.fieldLink RX8 25 "BuoyTender" "warnings" "LBuoyTender$Warnings;") (by decide +kernel)) (fun _ h9 => h9) rfl dX8_cancel_1 ?_
  refine lv_iload_n hx hb dX8_cancel_4 rfl (lv_at hl 1 rfl) ?_
  refine lv_aload_n hx hb dX8_cancel_5 rfl (lv_at hl 0 rfl) ?_
  refine va_get (D := D) (ci := 8) (v := .int 0) (C := RX8) (T := TX8) (N := 12) hx hb hts (fun _ h9 => List.mem_cons_of_mem _ (List.mem_append_left _ (List.mem_append_right _ h9))) hown hK hP 0 rfl rfl 9 (by decide) (hts (.fieldLink RX8 113 "BuoyTender" "today" "I") (by decide +kernel)) (fun _ h9 => h9) rfl dX8_cancel_6 ?_
  have hPc := hP.sub (ws' := [(a 4, .inr (7, [.ref (a 8), .ref (a 9), .ref (a 10), .ref (a 11), .int 0]))]) [4] rfl
  refine vp_callSi (va_Run.run (va_runVN (As := [.int x1, .int 0]) (rest := []) ⟨hx, hb, hml, hown, hts⟩ (k_X7_end l D cI cJ cZ cM (a 4) (a 8) (a 9) (a 10) (a 11) x1 0) ⟨(va_cnB 2 hts gX8_cancel_X7_end_n186 rfl rfl rfl (hN.2.1 (RX8, 186, yX7_end, "BuoyTender") (by decide +kernel)) (hts (.initialized RX7) (by decide +kernel)) (by decide +kernel) ⟨Nat.le_of_ble_eq_true rfl, Nat.le_of_ble_eq_true rfl⟩), hts (.instanceMethod yX7_end) (by decide +kernel), hts (.selects RX7 yX7_end yX7_end) (by decide +kernel)⟩ (ro_V hG hPc (va_recv hK hPc (ci := 7) (q0 := 0) rfl rfl)) rfl rfl hl.1 rfl (lv_room (Nat.le_of_ble_eq_true rfl)) dX8_cancel_9 ⟨Nat.le_of_ble_eq_true rfl, Nat.le_of_ble_eq_true rfl⟩)) (fun r_1 h_1 => ?_)
  obtain rfl : r_1 = 0 := h_1
  exact W.zret (v := 0) hx hb hr rfl (fun t ht hW => ⟨0, rfl, rfl, ht⟩) (fun _ h => by cases h) dX8_cancel_12
set_option maxHeartbeats 4000000 in
set_option maxRecDepth 100000 in
/-- warning on a fresh object -/
theorem k_X8_warning (l : Launch) (D : va_G) (cI cJ cZ cM : Nat) (h0 : Nat) (a : Nat → Nat) (x1 : Int32) (x2 : Int32) : Met l yX8_warning wsX8_warning ({ frames := 1, cells := 0, slots := 0, locals := 21 } : Room) (RO D cI cJ cZ cM [.ref h0, .int x1, .int x2] [(h0, .inr (8, [.ref (a 1), .ref (a 2), .ref (a 3), .ref (a 4), .ref (a 5), .ref (a 6), .ref (a 7), .null, .int 0, .int 0, .int 0, .int 0])), (a 1, .inl (cI, 1600, .inl (fun _ => 0))), (a 2, .inl (cM, 10, .inr (.inr (.inr (.inr (fun _ => none)))))), (a 3, .inl (cI, 48, .inl (fun _ => 0))), (a 4, .inr (7, [.ref (a 8), .ref (a 9), .ref (a 10), .ref (a 11), .int 0])), (a 8, .inl (cI, 100, .inl (fun _ => 0))), (a 9, .inl (cI, 100, .inl (fun _ => 0))), (a 10, .inl (cI, 100, .inl (fun _ => 0))), (a 11, .inl (cI, 100, .inl (fun _ => 0))), (a 5, .inr (4, [.ref (a 12), .ref (a 13), .int 0, .int 0, .int 0, .int 1440, .int 1, .int 0, .int 12, .int 0])), (a 12, .inl (cI, 24, .inl (fun _ => 0))), (a 13, .inl (cI, 24, .inl (fun _ => 0))), (a 6, .inr (6, [.int 0, .int 0, .int 0, .int 0, .int 0, .int 0])), (a 7, .inr (3, [.ref (a 14), .int 0])), (a 14, .inl (cI, 8, .inl (fun _ => 0)))]) (vp_Si (fun r => r = -1)) 0 0 (fun _ => False) := by
  refine Met.ofW (cc := cX8_warning) (maxL := 3) (ret := (some .int)) (by decide) rfl ?_
  intro p e s m args below meth c s₁ B hml hv
  obtain ⟨rfl, hG, hP⟩ := hv
  have hx := B.exec
  have hb := B.bytes
  have hr := B.returns
  have hts := atoms_spec (ws := wsX8_warning) B.pre
  have hown : s.vm.findClass RX8 = some m.cls := findClass_of_methodNamed B.named
  have hlocks := B.notSynchronized
  have hK := hG.1
  have hN := hG.2
  have hl := lv_entry ([.ref h0, .int x1, .int x2]) (n := 3) (Nat.le_of_ble_eq_true rfl)
  rw [lg_entry_eq]
  generalize (lg_sl ([.ref h0, .int x1, .int x2]) ++ List.replicate (3 - (lg_sl ([.ref h0, .int x1, .int x2])).length) Slot.unset).toArray = ls at hl ⊢
  have hl : lv_has ls 3 [(0, .ref h0), (1, .int x1), (2, .int x2)] := hl
  refine lv_aload_n hx hb dX8_warning_0 rfl (lv_at hl 0 rfl) ?_
  refine va_get (D := D) (ci := 8) (v := .ref (a 4)) (C := RX8) (T := TX8) (N := 12) hx hb hts (fun _ h9 => List.mem_cons_of_mem _ (List.mem_append_left _ (List.mem_append_right _ h9))) hown hK hP 0 rfl rfl 3 (by decide) (hts (.fieldLink RX8 25 "BuoyTender" "warnings" "LBuoyTender$Warnings;") (by decide +kernel)) (fun _ h9 => h9) rfl dX8_warning_1 ?_
  refine lv_iload_n hx hb dX8_warning_4 rfl (lv_at hl 1 rfl) ?_
  have hPc := hP.sub (ws' := [(a 4, .inr (7, [.ref (a 8), .ref (a 9), .ref (a 10), .ref (a 11), .int 0]))]) [4] rfl
  refine vp_callSi (va_Run.run (va_runVN (As := [.int x1]) (rest := []) ⟨hx, hb, hml, hown, hts⟩ (k_X7_has l D cI cJ cZ cM (a 4) (a 8) (a 9) (a 10) (a 11) x1) ⟨(va_cnB 1 hts gX8_warning_X7_has_n196 rfl rfl rfl (hN.2.1 (RX8, 196, yX7_has, "BuoyTender") (by decide +kernel)) (hts (.initialized RX7) (by decide +kernel)) (by decide +kernel) ⟨Nat.le_of_ble_eq_true rfl, Nat.le_of_ble_eq_true rfl⟩), hts (.instanceMethod yX7_has) (by decide +kernel), hts (.selects RX7 yX7_has yX7_has) (by decide +kernel)⟩ (ro_V hG hPc (va_recv hK hPc (ci := 7) (q0 := 0) rfl rfl)) rfl rfl hl.1 rfl (lv_room (Nat.le_of_ble_eq_true rfl)) dX8_warning_5 ⟨Nat.le_of_ble_eq_true rfl, Nat.le_of_ble_eq_true rfl⟩)) (fun r_1 h_1 => ?_)
  obtain rfl : r_1 = 0 := h_1
  refine lv_if_ne (tgt := 13) hx hb dX8_warning_8 (by decide) (fun c_2 => False.elim (by revert c_2; decide)) (fun _ => ?_)
  refine lv_iconst (v := (-1)) hx hb dX8_warning_11 (by decide) ?_
  exact W.iret (v := (-1)) hx hb hr (fun t ht hW => ⟨(-1), rfl, rfl, ht⟩) (fun _ h => by cases h) dX8_warning_12
set_option maxHeartbeats 4000000 in
set_option maxRecDepth 100000 in
/-- listed on a fresh object -/
theorem k_X8_listed (l : Launch) (D : va_G) (cI cJ cZ cM : Nat) (h0 : Nat) (a : Nat → Nat) (x1 : Int32) (x2 : Int32) : Met l yX8_listed wsX8_listed ({ frames := 1, cells := 0, slots := 0, locals := 24 } : Room) (RO D cI cJ cZ cM [.ref h0, .int x1, .int x2] [(h0, .inr (8, [.ref (a 1), .ref (a 2), .ref (a 3), .ref (a 4), .ref (a 5), .ref (a 6), .ref (a 7), .null, .int 0, .int 0, .int 0, .int 0])), (a 1, .inl (cI, 1600, .inl (fun _ => 0))), (a 2, .inl (cM, 10, .inr (.inr (.inr (.inr (fun _ => none)))))), (a 3, .inl (cI, 48, .inl (fun _ => 0))), (a 4, .inr (7, [.ref (a 8), .ref (a 9), .ref (a 10), .ref (a 11), .int 0])), (a 8, .inl (cI, 100, .inl (fun _ => 0))), (a 9, .inl (cI, 100, .inl (fun _ => 0))), (a 10, .inl (cI, 100, .inl (fun _ => 0))), (a 11, .inl (cI, 100, .inl (fun _ => 0))), (a 5, .inr (4, [.ref (a 12), .ref (a 13), .int 0, .int 0, .int 0, .int 1440, .int 1, .int 0, .int 12, .int 0])), (a 12, .inl (cI, 24, .inl (fun _ => 0))), (a 13, .inl (cI, 24, .inl (fun _ => 0))), (a 6, .inr (6, [.int 0, .int 0, .int 0, .int 0, .int 0, .int 0])), (a 7, .inr (3, [.ref (a 14), .int 0])), (a 14, .inl (cI, 8, .inl (fun _ => 0)))]) (vp_Si (fun r => r = -1)) 0 0 (fun _ => False) := by
  refine Met.ofW (cc := cX8_listed) (maxL := 3) (ret := (some .int)) (by decide) rfl ?_
  intro p e s m args below meth c s₁ B hml hv
  obtain ⟨rfl, hG, hP⟩ := hv
  have hx := B.exec
  have hb := B.bytes
  have hr := B.returns
  have hts := atoms_spec (ws := wsX8_listed) B.pre
  have hown : s.vm.findClass RX8 = some m.cls := findClass_of_methodNamed B.named
  have hlocks := B.notSynchronized
  have hK := hG.1
  have hN := hG.2
  have hl := lv_entry ([.ref h0, .int x1, .int x2]) (n := 3) (Nat.le_of_ble_eq_true rfl)
  rw [lg_entry_eq]
  generalize (lg_sl ([.ref h0, .int x1, .int x2]) ++ List.replicate (3 - (lg_sl ([.ref h0, .int x1, .int x2])).length) Slot.unset).toArray = ls at hl ⊢
  have hl : lv_has ls 3 [(0, .ref h0), (1, .int x1), (2, .int x2)] := hl
  refine lv_iload_n hx hb dX8_listed_0 rfl (lv_at hl 1 rfl) ?_
  refine lv_iconst (v := 0) hx hb dX8_listed_1 (by decide) ?_
  refine lv_aload_n hx hb dX8_listed_2 rfl (lv_at hl 0 rfl) ?_
  refine va_get (D := D) (ci := 8) (v := .int 0) (C := RX8) (T := TX8) (N := 12) hx hb hts (fun _ h9 => List.mem_cons_of_mem _ (List.mem_append_left _ (List.mem_append_right _ h9))) hown hK hP 0 rfl rfl 9 (by decide) (hts (.fieldLink RX8 113 "BuoyTender" "today" "I") (by decide +kernel)) (fun _ h9 => h9) rfl dX8_listed_3 ?_
  refine vp_callSi (va_Run.run (va_runS (As := [.int x1, .int 0, .int 0]) (rest := []) ⟨hx, hb, hml, hown, hts⟩ (k_X8_within l x1 0 0) (va_cwS 3 hts gX8_listed_X8_within rfl rfl rfl (by decide +kernel) ⟨Nat.le_of_ble_eq_true rfl, Nat.le_of_ble_eq_true rfl⟩) preEq rfl rfl hl.1 rfl (lv_room (Nat.le_of_ble_eq_true rfl)) dX8_listed_6 ⟨Nat.le_of_ble_eq_true rfl, Nat.le_of_ble_eq_true rfl⟩)) (fun r_1 h_1 => ?_)
  rcases h_1 with ⟨rfl, h_1⟩ | ⟨rfl, h_1⟩
  · refine lv_if_eq (tgt := 24) hx hb dX8_listed_9 (by decide) (fun c_2 => False.elim (by revert c_2; decide)) (fun _ => ?_)
    refine lv_aload_n hx hb dX8_listed_12 rfl (lv_at hl 0 rfl) ?_
    refine va_get (D := D) (ci := 8) (v := .ref (a 4)) (C := RX8) (T := TX8) (N := 12) hx hb hts (fun _ h9 => List.mem_cons_of_mem _ (List.mem_append_left _ (List.mem_append_right _ h9))) hown hK hP 0 rfl rfl 3 (by decide) (hts (.fieldLink RX8 25 "BuoyTender" "warnings" "LBuoyTender$Warnings;") (by decide +kernel)) (fun _ h9 => h9) rfl dX8_listed_13 ?_
    refine lv_iload_n hx hb dX8_listed_16 rfl (lv_at hl 1 rfl) ?_
    refine lv_iload_n hx hb dX8_listed_17 rfl (lv_at hl 2 rfl) ?_
    have hPc := hP.sub (ws' := [(a 4, .inr (7, [.ref (a 8), .ref (a 9), .ref (a 10), .ref (a 11), .int 0]))]) [4] rfl
    refine vp_callSi (va_Run.run (va_runVN (As := [.int x1, .int x2]) (rest := []) ⟨hx, hb, hml, hown, hts⟩ (k_X7_numberOn l D cI cJ cZ cM (a 4) (a 8) (a 9) (a 10) (a 11) x1 x2) ⟨(va_cnB 2 hts gX8_listed_X7_numberOn_n193 rfl rfl rfl (hN.2.1 (RX8, 193, yX7_numberOn, "BuoyTender") (by decide +kernel)) (hts (.initialized RX7) (by decide +kernel)) (by decide +kernel) ⟨Nat.le_of_ble_eq_true rfl, Nat.le_of_ble_eq_true rfl⟩), hts (.instanceMethod yX7_numberOn) (by decide +kernel), hts (.selects RX7 yX7_numberOn yX7_numberOn) (by decide +kernel)⟩ (ro_V hG hPc (va_recv hK hPc (ci := 7) (q0 := 0) rfl rfl)) rfl rfl hl.1 rfl (lv_room (Nat.le_of_ble_eq_true rfl)) dX8_listed_18 ⟨Nat.le_of_ble_eq_true rfl, Nat.le_of_ble_eq_true rfl⟩)) (fun r_3 h_3 => ?_)
    obtain rfl : r_3 = (-1) := h_3
    refine lv_goto (tgt := 25) hx hb dX8_listed_21 (by decide) ?_
    exact W.iret (v := (-1)) hx hb hr (fun t ht hW => ⟨(-1), rfl, rfl, ht⟩) (fun _ h => by cases h) dX8_listed_25
  refine lv_if_eq (tgt := 24) hx hb dX8_listed_9 (by decide) (fun _ => ?_) (fun c_4 => False.elim (by revert c_4; decide))
  refine lv_iconst (v := (-1)) hx hb dX8_listed_24 (by decide) ?_
  exact W.iret (v := (-1)) hx hb hr (fun t ht hW => ⟨(-1), rfl, rfl, ht⟩) (fun _ h => by cases h) dX8_listed_25
set_option maxHeartbeats 4000000 in
set_option maxRecDepth 100000 in
/-- list on a fresh object -/
theorem k_X8_list (l : Launch) (D : va_G) (cI cJ cZ cM : Nat) (h0 : Nat) (a : Nat → Nat) (x1 : Int32) : Met l yX8_list wsX8_list ({ frames := 1, cells := 0, slots := 0, locals := 23 } : Room) (RO D cI cJ cZ cM [.ref h0, .int x1] [(h0, .inr (8, [.ref (a 1), .ref (a 2), .ref (a 3), .ref (a 4), .ref (a 5), .ref (a 6), .ref (a 7), .null, .int 0, .int 0, .int 0, .int 0])), (a 1, .inl (cI, 1600, .inl (fun _ => 0))), (a 2, .inl (cM, 10, .inr (.inr (.inr (.inr (fun _ => none)))))), (a 3, .inl (cI, 48, .inl (fun _ => 0))), (a 4, .inr (7, [.ref (a 8), .ref (a 9), .ref (a 10), .ref (a 11), .int 0])), (a 8, .inl (cI, 100, .inl (fun _ => 0))), (a 9, .inl (cI, 100, .inl (fun _ => 0))), (a 10, .inl (cI, 100, .inl (fun _ => 0))), (a 11, .inl (cI, 100, .inl (fun _ => 0))), (a 5, .inr (4, [.ref (a 12), .ref (a 13), .int 0, .int 0, .int 0, .int 1440, .int 1, .int 0, .int 12, .int 0])), (a 12, .inl (cI, 24, .inl (fun _ => 0))), (a 13, .inl (cI, 24, .inl (fun _ => 0))), (a 6, .inr (6, [.int 0, .int 0, .int 0, .int 0, .int 0, .int 0])), (a 7, .inr (3, [.ref (a 14), .int 0])), (a 14, .inl (cI, 8, .inl (fun _ => 0)))]) (vp_Si (fun r => okI 0 (-1) (0 ≤ x1 ∧ x1 ≤ 0) r)) 0 0 (fun _ => False) := by
  refine Met.ofW (cc := cX8_list) (maxL := 2) (ret := (some .int)) (by decide) rfl ?_
  intro p e s m args below meth c s₁ B hml hv
  obtain ⟨rfl, hG, hP⟩ := hv
  have hx := B.exec
  have hb := B.bytes
  have hr := B.returns
  have hts := atoms_spec (ws := wsX8_list) B.pre
  have hown : s.vm.findClass RX8 = some m.cls := findClass_of_methodNamed B.named
  have hlocks := B.notSynchronized
  have hK := hG.1
  have hN := hG.2
  have hl := lv_entry ([.ref h0, .int x1]) (n := 2) (Nat.le_of_ble_eq_true rfl)
  rw [lg_entry_eq]
  generalize (lg_sl ([.ref h0, .int x1]) ++ List.replicate (2 - (lg_sl ([.ref h0, .int x1])).length) Slot.unset).toArray = ls at hl ⊢
  have hl : lv_has ls 2 [(0, .ref h0), (1, .int x1)] := hl
  refine lv_iload_n hx hb dX8_list_0 rfl (lv_at hl 1 rfl) ?_
  refine lv_iconst (v := 0) hx hb dX8_list_1 (by decide) ?_
  refine lv_aload_n hx hb dX8_list_2 rfl (lv_at hl 0 rfl) ?_
  refine va_get (D := D) (ci := 8) (v := .int 0) (C := RX8) (T := TX8) (N := 12) hx hb hts (fun _ h9 => List.mem_cons_of_mem _ (List.mem_append_left _ (List.mem_append_right _ h9))) hown hK hP 0 rfl rfl 9 (by decide) (hts (.fieldLink RX8 113 "BuoyTender" "today" "I") (by decide +kernel)) (fun _ h9 => h9) rfl dX8_list_3 ?_
  refine vp_callSi (va_Run.run (va_runS (As := [.int x1, .int 0, .int 0]) (rest := []) ⟨hx, hb, hml, hown, hts⟩ (k_X8_within l x1 0 0) (va_cwS 3 hts gX8_list_X8_within rfl rfl rfl (by decide +kernel) ⟨Nat.le_of_ble_eq_true rfl, Nat.le_of_ble_eq_true rfl⟩) preEq rfl rfl hl.1 rfl (lv_room (Nat.le_of_ble_eq_true rfl)) dX8_list_6 ⟨Nat.le_of_ble_eq_true rfl, Nat.le_of_ble_eq_true rfl⟩)) (fun r_1 h_1 => ?_)
  rcases h_1 with ⟨rfl, h_1⟩ | ⟨rfl, h_1⟩
  · refine lv_if_eq (tgt := 23) hx hb dX8_list_9 (by decide) (fun c_2 => False.elim (by revert c_2; decide)) (fun _ => ?_)
    refine lv_aload_n hx hb dX8_list_12 rfl (lv_at hl 0 rfl) ?_
    refine va_get (D := D) (ci := 8) (v := .ref (a 4)) (C := RX8) (T := TX8) (N := 12) hx hb hts (fun _ h9 => List.mem_cons_of_mem _ (List.mem_append_left _ (List.mem_append_right _ h9))) hown hK hP 0 rfl rfl 3 (by decide) (hts (.fieldLink RX8 25 "BuoyTender" "warnings" "LBuoyTender$Warnings;") (by decide +kernel)) (fun _ h9 => h9) rfl dX8_list_13 ?_
    refine lv_iload_n hx hb dX8_list_16 rfl (lv_at hl 1 rfl) ?_
    have hPc := hP.sub (ws' := [(a 4, .inr (7, [.ref (a 8), .ref (a 9), .ref (a 10), .ref (a 11), .int 0]))]) [4] rfl
    refine vp_callSi (va_Run.run (va_runVN (As := [.int x1]) (rest := []) ⟨hx, hb, hml, hown, hts⟩ (k_X7_countOn l D cI cJ cZ cM (a 4) (a 8) (a 9) (a 10) (a 11) x1) ⟨(va_cnB 1 hts gX8_list_X7_countOn_n189 rfl rfl rfl (hN.2.1 (RX8, 189, yX7_countOn, "BuoyTender") (by decide +kernel)) (hts (.initialized RX7) (by decide +kernel)) (by decide +kernel) ⟨Nat.le_of_ble_eq_true rfl, Nat.le_of_ble_eq_true rfl⟩), hts (.instanceMethod yX7_countOn) (by decide +kernel), hts (.selects RX7 yX7_countOn yX7_countOn) (by decide +kernel)⟩ (ro_V hG hPc (va_recv hK hPc (ci := 7) (q0 := 0) rfl rfl)) rfl rfl hl.1 rfl (lv_room (Nat.le_of_ble_eq_true rfl)) dX8_list_17 ⟨Nat.le_of_ble_eq_true rfl, Nat.le_of_ble_eq_true rfl⟩)) (fun r_3 h_3 => ?_)
    obtain rfl : r_3 = 0 := h_3
    refine lv_goto (tgt := 24) hx hb dX8_list_20 (by decide) ?_
    exact W.iret (v := 0) hx hb hr (fun t ht hW => ⟨0, rfl, (Or.inl ⟨rfl, h_1⟩), ht⟩) (fun _ h => by cases h) dX8_list_24
  refine lv_if_eq (tgt := 23) hx hb dX8_list_9 (by decide) (fun _ => ?_) (fun c_4 => False.elim (by revert c_4; decide))
  refine lv_iconst (v := (-1)) hx hb dX8_list_23 (by decide) ?_
  exact W.iret (v := (-1)) hx hb hr (fun t ht hW => ⟨(-1), rfl, (Or.inr ⟨rfl, fun h9 => h_1 (h9)⟩), ht⟩) (fun _ h => by cases h) dX8_list_24
set_option maxHeartbeats 4000000 in
set_option maxRecDepth 100000 in
/-- about on a fresh object -/
theorem k_X8_about (l : Launch) (D : va_G) (cI cJ cZ cM : Nat) (h0 : Nat) (a : Nat → Nat) (x1 : Int32) : Met l yX8_about wsX8_about ({ frames := 1, cells := 0, slots := 0, locals := 23 } : Room) (RO D cI cJ cZ cM [.ref h0, .int x1] [(h0, .inr (8, [.ref (a 1), .ref (a 2), .ref (a 3), .ref (a 4), .ref (a 5), .ref (a 6), .ref (a 7), .null, .int 0, .int 0, .int 0, .int 0])), (a 1, .inl (cI, 1600, .inl (fun _ => 0))), (a 2, .inl (cM, 10, .inr (.inr (.inr (.inr (fun _ => none)))))), (a 3, .inl (cI, 48, .inl (fun _ => 0))), (a 4, .inr (7, [.ref (a 8), .ref (a 9), .ref (a 10), .ref (a 11), .int 0])), (a 8, .inl (cI, 100, .inl (fun _ => 0))), (a 9, .inl (cI, 100, .inl (fun _ => 0))), (a 10, .inl (cI, 100, .inl (fun _ => 0))), (a 11, .inl (cI, 100, .inl (fun _ => 0))), (a 5, .inr (4, [.ref (a 12), .ref (a 13), .int 0, .int 0, .int 0, .int 1440, .int 1, .int 0, .int 12, .int 0])), (a 12, .inl (cI, 24, .inl (fun _ => 0))), (a 13, .inl (cI, 24, .inl (fun _ => 0))), (a 6, .inr (6, [.int 0, .int 0, .int 0, .int 0, .int 0, .int 0])), (a 7, .inr (3, [.ref (a 14), .int 0])), (a 14, .inl (cI, 8, .inl (fun _ => 0)))]) (vp_Si (fun r => r = aboutF x1)) 0 0 (fun _ => False) := by
  refine Met.ofW (cc := cX8_about) (maxL := 2) (ret := (some .int)) (by decide) rfl ?_
  intro p e s m args below meth c s₁ B hml hv
  obtain ⟨rfl, hG, hP⟩ := hv
  have hx := B.exec
  have hb := B.bytes
  have hr := B.returns
  have hts := atoms_spec (ws := wsX8_about) B.pre
  have hown : s.vm.findClass RX8 = some m.cls := findClass_of_methodNamed B.named
  have hlocks := B.notSynchronized
  have hK := hG.1
  have hN := hG.2
  have hl := lv_entry ([.ref h0, .int x1]) (n := 2) (Nat.le_of_ble_eq_true rfl)
  rw [lg_entry_eq]
  generalize (lg_sl ([.ref h0, .int x1]) ++ List.replicate (2 - (lg_sl ([.ref h0, .int x1])).length) Slot.unset).toArray = ls at hl ⊢
  have hl : lv_has ls 2 [(0, .ref h0), (1, .int x1)] := hl
  refine lv_iload_n hx hb dX8_about_0 rfl (lv_at hl 1 rfl) ?_
  by_cases s_1 : x1 = 0
  · refine lv_tableIn (off := 39) (tgt := 40) hx hb dX8_about_1 (by rw [s_1]; decide) (by rw [s_1]; decide) (by rw [s_1]; decide) (by decide) ?_
    refine lv_aload_n hx hb dX8_about_40 rfl (lv_at hl 0 rfl) ?_
    refine va_get (D := D) (ci := 8) (v := .int 0) (C := RX8) (T := TX8) (N := 12) hx hb hts (fun _ h9 => List.mem_cons_of_mem _ (List.mem_append_left _ (List.mem_append_left _ (List.mem_append_left _ (List.mem_append_right _ h9))))) hown hK hP 0 rfl rfl 8 (by decide) (hts (.fieldLink RX8 62 "BuoyTender" "markCount" "I") (by decide +kernel)) (fun _ h9 => h9) rfl dX8_about_41 ?_
    exact W.iret (v := 0) hx hb hr (fun t ht hW => ⟨0, rfl, (by simp only [aboutF, s_1]; decide), ht⟩) (fun _ h => by cases h) dX8_about_44
  by_cases s_2 : x1 = 1
  · refine lv_tableIn (off := 44) (tgt := 45) hx hb dX8_about_1 (by rw [s_2]; decide) (by rw [s_2]; decide) (by rw [s_2]; decide) (by decide) ?_
    refine lv_aload_n hx hb dX8_about_45 rfl (lv_at hl 0 rfl) ?_
    refine va_get (D := D) (ci := 8) (v := .int 0) (C := RX8) (T := TX8) (N := 12) hx hb hts (fun _ h9 => List.mem_cons_of_mem _ (List.mem_append_left _ (List.mem_append_left _ (List.mem_append_left _ (List.mem_append_right _ h9))))) hown hK hP 0 rfl rfl 9 (by decide) (hts (.fieldLink RX8 113 "BuoyTender" "today" "I") (by decide +kernel)) (fun _ h9 => h9) rfl dX8_about_46 ?_
    exact W.iret (v := 0) hx hb hr (fun t ht hW => ⟨0, rfl, (by simp only [aboutF, s_1, s_2]; decide), ht⟩) (fun _ h => by cases h) dX8_about_49
  by_cases s_3 : x1 = 2
  · refine lv_tableIn (off := 49) (tgt := 50) hx hb dX8_about_1 (by rw [s_3]; decide) (by rw [s_3]; decide) (by rw [s_3]; decide) (by decide) ?_
    refine lv_aload_n hx hb dX8_about_50 rfl (lv_at hl 0 rfl) ?_
    refine va_get (D := D) (ci := 8) (v := .ref (a 4)) (C := RX8) (T := TX8) (N := 12) hx hb hts (fun _ h9 => List.mem_cons_of_mem _ (List.mem_append_left _ (List.mem_append_left _ (List.mem_append_left _ (List.mem_append_right _ h9))))) hown hK hP 0 rfl rfl 3 (by decide) (hts (.fieldLink RX8 25 "BuoyTender" "warnings" "LBuoyTender$Warnings;") (by decide +kernel)) (fun _ h9 => h9) rfl dX8_about_51 ?_
    refine va_getN (D := D) (ci := 7) (v := .int 0) (C := RX7) (T := TX7) (N := 5) hx hb hts (fun _ h9 => List.mem_cons_of_mem _ (List.mem_append_left _ (List.mem_append_left _ (List.mem_append_right _ h9)))) hown hK hP 4 rfl rfl 4 (by decide) (va_Nw.use rfl (hN.1 (RX8, 271, "BuoyTender$Warnings", "count", "I", "BuoyTender") (by decide +kernel))) (fun _ h9 => h9) rfl dX8_about_54 ?_
    exact W.iret (v := 0) hx hb hr (fun t ht hW => ⟨0, rfl, (by simp only [aboutF, s_1, s_2, s_3]; decide), ht⟩) (fun _ h => by cases h) dX8_about_57
  by_cases s_4 : x1 = 3
  · refine lv_tableIn (off := 57) (tgt := 58) hx hb dX8_about_1 (by rw [s_4]; decide) (by rw [s_4]; decide) (by rw [s_4]; decide) (by decide) ?_
    refine lv_aload_n hx hb dX8_about_58 rfl (lv_at hl 0 rfl) ?_
    refine va_get (D := D) (ci := 8) (v := .int 0) (C := RX8) (T := TX8) (N := 12) hx hb hts (fun _ h9 => List.mem_cons_of_mem _ (List.mem_append_left _ (List.mem_append_left _ (List.mem_append_left _ (List.mem_append_right _ h9))))) hown hK hP 0 rfl rfl 10 (by decide) (hts (.fieldLink RX8 171 "BuoyTender" "nearness" "I") (by decide +kernel)) (fun _ h9 => h9) rfl dX8_about_59 ?_
    exact W.iret (v := 0) hx hb hr (fun t ht hW => ⟨0, rfl, (by simp only [aboutF, s_1, s_2, s_3, s_4]; decide), ht⟩) (fun _ h => by cases h) dX8_about_62
  by_cases s_5 : x1 = 4
  · refine lv_tableIn (off := 62) (tgt := 63) hx hb dX8_about_1 (by rw [s_5]; decide) (by rw [s_5]; decide) (by rw [s_5]; decide) (by decide) ?_
    refine lv_aload_n hx hb dX8_about_63 rfl (lv_at hl 0 rfl) ?_
    have hPc := hP.sub (ws' := [(h0, .inr (8, [.ref (a 1), .ref (a 2), .ref (a 3), .ref (a 4), .ref (a 5), .ref (a 6), .ref (a 7), .null, .int 0, .int 0, .int 0, .int 0]))]) [0] rfl
    refine vp_callSi (va_Run.run (va_runV (As := []) (rest := []) ⟨hx, hb, hml, hown, hts⟩ (k_X8_jobCount l D cI cJ cZ cM h0 a) (cwV 0 hts gX8_about_X8_jobCount rfl rfl rfl (by decide +kernel) ⟨Nat.le_of_ble_eq_true rfl, Nat.le_of_ble_eq_true rfl⟩) (ro_V hG hPc (va_recv hK hPc (ci := 8) (q0 := 0) rfl rfl)) rfl rfl hl.1 rfl (lv_room (Nat.le_of_ble_eq_true rfl)) dX8_about_64 ⟨Nat.le_of_ble_eq_true rfl, Nat.le_of_ble_eq_true rfl⟩)) (fun r_6 h_6 => ?_)
    obtain rfl : r_6 = 0 := h_6
    exact W.iret (v := 0) hx hb hr (fun t ht hW => ⟨0, rfl, (by simp only [aboutF, s_1, s_2, s_3, s_4, s_5]; decide), ht⟩) (fun _ h => by cases h) dX8_about_67
  by_cases s_7 : x1 = 5
  · refine lv_tableIn (off := 67) (tgt := 68) hx hb dX8_about_1 (by rw [s_7]; decide) (by rw [s_7]; decide) (by rw [s_7]; decide) (by decide) ?_
    refine lv_aload_n hx hb dX8_about_68 rfl (lv_at hl 0 rfl) ?_
    refine va_get (D := D) (ci := 8) (v := .ref (a 5)) (C := RX8) (T := TX8) (N := 12) hx hb hts (fun _ h9 => List.mem_cons_of_mem _ (List.mem_append_left _ (List.mem_append_left _ (List.mem_append_left _ (List.mem_append_right _ h9))))) hown hK hP 0 rfl rfl 4 (by decide) (hts (.fieldLink RX8 32 "BuoyTender" "vessel" "LBuoyTender$Ship;") (by decide +kernel)) (fun _ h9 => h9) rfl dX8_about_69 ?_
    refine va_getN (D := D) (ci := 4) (v := .int 1440) (C := RX4) (T := TX4) (N := 10) hx hb hts (fun _ h9 => List.mem_cons_of_mem _ (List.mem_append_left _ (List.mem_append_right _ h9))) hown hK hP 9 rfl rfl 5 (by decide) (va_Nw.use rfl (hN.1 (RX8, 243, "BuoyTender$Ship", "end", "I", "BuoyTender") (by decide +kernel))) (fun _ h9 => h9) rfl dX8_about_72 ?_
    exact W.iret (v := 1440) hx hb hr (fun t ht hW => ⟨1440, rfl, (by simp only [aboutF, s_1, s_2, s_3, s_4, s_5, s_7]; decide), ht⟩) (fun _ h => by cases h) dX8_about_75
  refine lv_tableOut (tgt := 76) hx hb dX8_about_1 (my_out (hi := 5) (fun z hz => by rcases (show z = 0 ∨ z = 1 ∨ z = 2 ∨ z = 3 ∨ z = 4 ∨ z = 5 by omega) with rfl | rfl | rfl | rfl | rfl | rfl <;> assumption) (by decide)) (by decide) ?_
  refine lv_iconst (v := (-1)) hx hb dX8_about_76 (by decide) ?_
  exact W.iret (v := (-1)) hx hb hr (fun t ht hW => ⟨(-1), rfl, (by simp only [aboutF, s_1, s_2, s_3, s_4, s_5, s_7]; decide), ht⟩) (fun _ h => by cases h) dX8_about_77
