set_option maxHeartbeats 4000000 in
set_option maxRecDepth 100000 in
/-- no mark: null -/
theorem k_X8_known (l : Launch) (D : va_G) (cI cJ cZ cM : Nat) (h0 : Nat) (a : Nat → Nat) (x : Int32) : Met l yX8_known wsX8_known ({ frames := 0, cells := 0, slots := 0, locals := 0 } : Room) (RO D cI cJ cZ cM [.ref h0, .int x] [(h0, .inr (8, [.ref (a 1), .ref (a 2), .ref (a 3), .ref (a 4), .ref (a 5), .ref (a 6), .ref (a 7), .null, .int 0, .int 0, .int 0, .int 0])), (a 2, .inl (cM, 10, .inr (.inr (.inr (.inr (fun _ => none))))))]) (va_Sq (fun r => r = none)) 0 0 (fun _ => False) := by
  refine Met.ofW (cc := cX8_known) (maxL := 2) (ret := (some (.object "BuoyTender$Mark"))) (by decide) rfl ?_
  intro p e s m args below meth c s₁ B hml hv
  obtain ⟨rfl, hG, hP⟩ := hv
  have hx := B.exec
  have hb := B.bytes
  have hr := B.returns
  have hts := atoms_spec (ws := wsX8_known) B.pre
  have hown : s.vm.findClass RX8 = some m.cls := findClass_of_methodNamed B.named
  have hlocks := B.notSynchronized
  have hK := hG.1
  have hN := hG.2
  have hl := lv_entry ([.ref h0, .int x]) (n := 2) (Nat.le_of_ble_eq_true rfl)
  rw [lg_entry_eq]
  generalize (lg_sl ([.ref h0, .int x]) ++ List.replicate (2 - (lg_sl ([.ref h0, .int x])).length) Slot.unset).toArray = ls at hl ⊢
  have hl : lv_has ls 2 [(0, .ref h0), (1, .int x)] := hl
  refine lv_iload_n hx hb dX8_known_0 rfl (lv_at hl 1 rfl) ?_
  refine lv_if_lt (tgt := 30) hx hb dX8_known_1 (by decide) (fun c_1 => ?_) (fun c_1 => ?_)
  · refine lv_null hx hb dX8_known_30 ?_
    exact W.aret hx hb hr (Or.inl ⟨_, rfl⟩) (Or.inl rfl) (fun t ht hW => ⟨none, rfl, rfl, ht⟩) (fun _ h => by cases h) dX8_known_31
  refine lv_iload_n hx hb dX8_known_4 rfl (lv_at hl 1 rfl) ?_
  refine lv_aload_n hx hb dX8_known_5 rfl (lv_at hl 0 rfl) ?_
  refine va_get (D := D) (ci := 8) (v := .int 0) (C := RX8) (T := TX8) (N := 12) hx hb hts (fun _ h9 => List.mem_cons_of_mem _ (List.mem_append_right _ h9)) hown hK hP 0 rfl rfl 8 (by decide) (hts (.fieldLink RX8 62 "BuoyTender" "markCount" "I") (by decide +kernel)) (fun _ h9 => h9) rfl dX8_known_6 ?_
  refine lv_icmp_ge (tgt := 30) hx hb dX8_known_9 (by decide) (fun c_2 => ?_) (fun c_2 => absurd (my_nlt c_1) c_2)
  refine lv_null hx hb dX8_known_30 ?_
  exact W.aret hx hb hr (Or.inl ⟨_, rfl⟩) (Or.inl rfl) (fun t ht hW => ⟨none, rfl, rfl, ht⟩) (fun _ h => by cases h) dX8_known_31
set_option maxHeartbeats 4000000 in
set_option maxRecDepth 100000 in
/-- no warning -/
theorem k_X7_has (l : Launch) (D : va_G) (cI cJ cZ cM : Nat) (w0 : Nat) (b1 : Nat) (b2 : Nat) (b3 : Nat) (b4 : Nat) (x : Int32) : Met l yX7_has wsX7_has ({ frames := 0, cells := 0, slots := 0, locals := 0 } : Room) (RO D cI cJ cZ cM [.ref w0, .int x] [(w0, .inr (7, [.ref b1, .ref b2, .ref b3, .ref b4, .int 0]))]) (vp_Si (fun r => r = 0)) 0 0 (fun _ => False) := by
  refine Met.ofW (cc := cX7_has) (maxL := 2) (ret := (some .boolean)) (by decide) rfl ?_
  intro p e s m args below meth c s₁ B hml hv
  obtain ⟨rfl, hG, hP⟩ := hv
  have hx := B.exec
  have hb := B.bytes
  have hr := B.returns
  have hts := atoms_spec (ws := wsX7_has) B.pre
  have hown : s.vm.findClass RX7 = some m.cls := findClass_of_methodNamed B.named
  have hlocks := B.notSynchronized
  have hK := hG.1
  have hN := hG.2
  have hl := lv_entry ([.ref w0, .int x]) (n := 2) (Nat.le_of_ble_eq_true rfl)
  rw [lg_entry_eq]
  generalize (lg_sl ([.ref w0, .int x]) ++ List.replicate (2 - (lg_sl ([.ref w0, .int x])).length) Slot.unset).toArray = ls at hl ⊢
  have hl : lv_has ls 2 [(0, .ref w0), (1, .int x)] := hl
  refine lv_iload_n hx hb dX7_has_0 rfl (lv_at hl 1 rfl) ?_
  refine lv_if_lt (tgt := 16) hx hb dX7_has_1 (by decide) (fun c_1 => ?_) (fun c_1 => ?_)
  · refine lv_iconst (v := 0) hx hb dX7_has_16 (by decide) ?_
    exact W.zret (v := 0) hx hb hr rfl (fun t ht hW => ⟨0, rfl, rfl, ht⟩) (fun _ h => by cases h) dX7_has_17
  refine lv_iload_n hx hb dX7_has_4 rfl (lv_at hl 1 rfl) ?_
  refine lv_aload_n hx hb dX7_has_5 rfl (lv_at hl 0 rfl) ?_
  refine va_get (D := D) (ci := 7) (v := .int 0) (C := RX7) (T := TX7) (N := 5) hx hb hts (fun _ h9 => List.mem_cons_of_mem _ (List.mem_append_right _ h9)) hown hK hP 0 rfl rfl 4 (by decide) (hts (.fieldLink RX7 24 "BuoyTender$Warnings" "count" "I") (by decide +kernel)) (fun _ h9 => h9) rfl dX7_has_6 ?_
  refine lv_icmp_ge (tgt := 16) hx hb dX7_has_9 (by decide) (fun c_2 => ?_) (fun c_2 => absurd (my_nlt c_1) c_2)
  refine lv_iconst (v := 0) hx hb dX7_has_16 (by decide) ?_
  exact W.zret (v := 0) hx hb hr rfl (fun t ht hW => ⟨0, rfl, rfl, ht⟩) (fun _ h => by cases h) dX7_has_17
set_option maxHeartbeats 4000000 in
set_option maxRecDepth 100000 in
/-- nothing to end -/
theorem k_X7_end (l : Launch) (D : va_G) (cI cJ cZ cM : Nat) (w0 : Nat) (b1 : Nat) (b2 : Nat) (b3 : Nat) (b4 : Nat) (x : Int32) (y : Int32) : Met l yX7_end wsX7_end ({ frames := 1, cells := 0, slots := 0, locals := 21 } : Room) (RO D cI cJ cZ cM [.ref w0, .int x, .int y] [(w0, .inr (7, [.ref b1, .ref b2, .ref b3, .ref b4, .int 0]))]) (vp_Si (fun r => r = 0)) 0 0 (fun _ => False) := by
  refine Met.ofW (cc := cX7_end) (maxL := 3) (ret := (some .boolean)) (by decide) rfl ?_
  intro p e s m args below meth c s₁ B hml hv
  obtain ⟨rfl, hG, hP⟩ := hv
  have hx := B.exec
  have hb := B.bytes
  have hr := B.returns
  have hts := atoms_spec (ws := wsX7_end) B.pre
  have hown : s.vm.findClass RX7 = some m.cls := findClass_of_methodNamed B.named
  have hlocks := B.notSynchronized
  have hK := hG.1
  have hN := hG.2
  have hl := lv_entry ([.ref w0, .int x, .int y]) (n := 3) (Nat.le_of_ble_eq_true rfl)
  rw [lg_entry_eq]
  generalize (lg_sl ([.ref w0, .int x, .int y]) ++ List.replicate (3 - (lg_sl ([.ref w0, .int x, .int y])).length) Slot.unset).toArray = ls at hl ⊢
  have hl : lv_has ls 3 [(0, .ref w0), (1, .int x), (2, .int y)] := hl
  refine lv_aload_n hx hb dX7_end_0 rfl (lv_at hl 0 rfl) ?_
  refine lv_iload_n hx hb dX7_end_1 rfl (lv_at hl 1 rfl) ?_
  have hPc := hP.sub (ws' := [(w0, .inr (7, [.ref b1, .ref b2, .ref b3, .ref b4, .int 0]))]) [0] rfl
  refine vp_callSi (va_Run.run (va_runV (As := [.int x]) (rest := []) ⟨hx, hb, hml, hown, hts⟩ (k_X7_has l D cI cJ cZ cM w0 b1 b2 b3 b4 x) (cwV 1 hts gX7_end_X7_has rfl rfl rfl (by decide +kernel) ⟨Nat.le_of_ble_eq_true rfl, Nat.le_of_ble_eq_true rfl⟩) (ro_V hG hPc (va_recv hK hPc (ci := 7) (q0 := 0) rfl rfl)) rfl rfl hl.1 rfl (lv_room (Nat.le_of_ble_eq_true rfl)) dX7_end_2 ⟨Nat.le_of_ble_eq_true rfl, Nat.le_of_ble_eq_true rfl⟩)) (fun r_1 h_1 => ?_)
  obtain rfl : r_1 = 0 := h_1
  refine lv_if_eq (tgt := 18) hx hb dX7_end_5 (by decide) (fun _ => ?_) (fun c_2 => False.elim (by revert c_2; decide))
  refine lv_iconst (v := 0) hx hb dX7_end_18 (by decide) ?_
  exact W.zret (v := 0) hx hb hr rfl (fun t ht hW => ⟨0, rfl, rfl, ht⟩) (fun _ h => by cases h) dX7_end_19
set_option maxHeartbeats 4000000 in
set_option maxRecDepth 100000 in
/-- none is out -/
theorem k_X7_countOn (l : Launch) (D : va_G) (cI cJ cZ cM : Nat) (w0 : Nat) (b1 : Nat) (b2 : Nat) (b3 : Nat) (b4 : Nat) (x : Int32) : Met l yX7_countOn wsX7_countOn ({ frames := 0, cells := 0, slots := 0, locals := 0 } : Room) (RO D cI cJ cZ cM [.ref w0, .int x] [(w0, .inr (7, [.ref b1, .ref b2, .ref b3, .ref b4, .int 0]))]) (vp_Si (fun r => r = 0)) 0 0 (fun _ => False) := by
  refine Met.ofW (cc := cX7_countOn) (maxL := 4) (ret := (some .int)) (by decide) rfl ?_
  intro p e s m args below meth c s₁ B hml hv
  obtain ⟨rfl, hG, hP⟩ := hv
  have hx := B.exec
  have hb := B.bytes
  have hr := B.returns
  have hts := atoms_spec (ws := wsX7_countOn) B.pre
  have hown : s.vm.findClass RX7 = some m.cls := findClass_of_methodNamed B.named
  have hlocks := B.notSynchronized
  have hK := hG.1
  have hN := hG.2
  have hl := lv_entry ([.ref w0, .int x]) (n := 4) (Nat.le_of_ble_eq_true rfl)
  rw [lg_entry_eq]
  generalize (lg_sl ([.ref w0, .int x]) ++ List.replicate (4 - (lg_sl ([.ref w0, .int x])).length) Slot.unset).toArray = ls at hl ⊢
  have hl : lv_has ls 4 [(0, .ref w0), (1, .int x)] := hl
  refine lv_iconst (v := 0) hx hb dX7_countOn_0 (by decide) ?_
  refine lv_istore_n (lv' := [(2, .int 0), (0, .ref w0), (1, .int x)]) hx hb dX7_countOn_1 rfl hl (by decide) rfl (fun ls hl => ?_)
  refine lv_iconst (v := 0) hx hb dX7_countOn_2 (by decide) ?_
  refine lv_istore_n (lv' := [(3, .int 0), (2, .int 0), (0, .ref w0), (1, .int x)]) hx hb dX7_countOn_3 rfl hl (by decide) rfl (fun ls hl => ?_)
  refine lv_iload_n hx hb dX7_countOn_4 rfl (lv_at hl 0 rfl) ?_
  refine lv_aload_n hx hb dX7_countOn_5 rfl (lv_at hl 2 rfl) ?_
  refine va_get (D := D) (ci := 7) (v := .int 0) (C := RX7) (T := TX7) (N := 5) hx hb hts (fun _ h9 => List.mem_cons_of_mem _ (List.mem_append_right _ h9)) hown hK hP 0 rfl rfl 4 (by decide) (hts (.fieldLink RX7 24 "BuoyTender$Warnings" "count" "I") (by decide +kernel)) (fun _ h9 => h9) rfl dX7_countOn_6 ?_
  refine lv_icmp_ge (tgt := 30) hx hb dX7_countOn_9 (by decide) (fun _ => ?_) (fun c_1 => False.elim (by revert c_1; decide))
  refine lv_iload_n hx hb dX7_countOn_30 rfl (lv_at hl 1 rfl) ?_
  exact W.iret (v := 0) hx hb hr (fun t ht hW => ⟨0, rfl, rfl, ht⟩) (fun _ h => by cases h) dX7_countOn_31
set_option maxHeartbeats 4000000 in
set_option maxRecDepth 100000 in
/-- none is out -/
theorem k_X7_numberOn (l : Launch) (D : va_G) (cI cJ cZ cM : Nat) (w0 : Nat) (b1 : Nat) (b2 : Nat) (b3 : Nat) (b4 : Nat) (x : Int32) (y : Int32) : Met l yX7_numberOn wsX7_numberOn ({ frames := 0, cells := 0, slots := 0, locals := 0 } : Room) (RO D cI cJ cZ cM [.ref w0, .int x, .int y] [(w0, .inr (7, [.ref b1, .ref b2, .ref b3, .ref b4, .int 0]))]) (vp_Si (fun r => r = -1)) 0 0 (fun _ => False) := by
  refine Met.ofW (cc := cX7_numberOn) (maxL := 5) (ret := (some .int)) (by decide) rfl ?_
  intro p e s m args below meth c s₁ B hml hv
  obtain ⟨rfl, hG, hP⟩ := hv
  have hx := B.exec
  have hb := B.bytes
  have hr := B.returns
  have hts := atoms_spec (ws := wsX7_numberOn) B.pre
  have hown : s.vm.findClass RX7 = some m.cls := findClass_of_methodNamed B.named
  have hlocks := B.notSynchronized
  have hK := hG.1
  have hN := hG.2
  have hl := lv_entry ([.ref w0, .int x, .int y]) (n := 5) (Nat.le_of_ble_eq_true rfl)
  rw [lg_entry_eq]
  generalize (lg_sl ([.ref w0, .int x, .int y]) ++ List.replicate (5 - (lg_sl ([.ref w0, .int x, .int y])).length) Slot.unset).toArray = ls at hl ⊢
  have hl : lv_has ls 5 [(0, .ref w0), (1, .int x), (2, .int y)] := hl
  refine lv_iconst (v := 0) hx hb dX7_numberOn_0 (by decide) ?_
  refine lv_istore_n (lv' := [(3, .int 0), (0, .ref w0), (1, .int x), (2, .int y)]) hx hb dX7_numberOn_1 rfl hl (by decide) rfl (fun ls hl => ?_)
  refine lv_iconst (v := 0) hx hb dX7_numberOn_2 (by decide) ?_
  refine lv_istore (lv' := [(4, .int 0), (3, .int 0), (0, .ref w0), (1, .int x), (2, .int y)]) hx hb dX7_numberOn_3 hl (by decide) rfl (fun ls hl => ?_)
  refine lv_iload hx hb dX7_numberOn_5 (lv_at hl 0 rfl) ?_
  refine lv_aload_n hx hb dX7_numberOn_7 rfl (lv_at hl 2 rfl) ?_
  refine va_get (D := D) (ci := 7) (v := .int 0) (C := RX7) (T := TX7) (N := 5) hx hb hts (fun _ h9 => List.mem_cons_of_mem _ (List.mem_append_right _ h9)) hown hK hP 0 rfl rfl 4 (by decide) (hts (.fieldLink RX7 24 "BuoyTender$Warnings" "count" "I") (by decide +kernel)) (fun _ h9 => h9) rfl dX7_numberOn_8 ?_
  refine lv_icmp_ge (tgt := 41) hx hb dX7_numberOn_11 (by decide) (fun _ => ?_) (fun c_1 => False.elim (by revert c_1; decide))
  refine lv_iconst (v := (-1)) hx hb dX7_numberOn_41 (by decide) ?_
  exact W.iret (v := (-1)) hx hb hr (fun t ht hW => ⟨(-1), rfl, rfl, ht⟩) (fun _ h => by cases h) dX7_numberOn_42
set_option maxHeartbeats 4000000 in
set_option maxRecDepth 100000 in
/-- no mark: no clash -/
theorem k_X8_clashesWithin (l : Launch) (D : va_G) (cI cJ cZ cM : Nat) (h0 : Nat) (a : Nat → Nat) (x : Int32) : Met l yX8_clashesWithin wsX8_clashesWithin ({ frames := 0, cells := 0, slots := 0, locals := 0 } : Room) (RO D cI cJ cZ cM [.ref h0, .int x] [(h0, .inr (8, [.ref (a 1), .ref (a 2), .ref (a 3), .ref (a 4), .ref (a 5), .ref (a 6), .ref (a 7), .null, .int 0, .int 0, .int 0, .int 0]))]) (vp_Si (fun r => r = 0)) 0 0 (fun _ => False) := by
  refine Met.ofW (cc := cX8_clashesWithin) (maxL := 6) (ret := (some .boolean)) (by decide) rfl ?_
  intro p e s m args below meth c s₁ B hml hv
  obtain ⟨rfl, hG, hP⟩ := hv
  have hx := B.exec
  have hb := B.bytes
  have hr := B.returns
  have hts := atoms_spec (ws := wsX8_clashesWithin) B.pre
  have hown : s.vm.findClass RX8 = some m.cls := findClass_of_methodNamed B.named
  have hlocks := B.notSynchronized
  have hK := hG.1
  have hN := hG.2
  have hl := lv_entry ([.ref h0, .int x]) (n := 6) (Nat.le_of_ble_eq_true rfl)
  rw [lg_entry_eq]
  generalize (lg_sl ([.ref h0, .int x]) ++ List.replicate (6 - (lg_sl ([.ref h0, .int x])).length) Slot.unset).toArray = ls at hl ⊢
  have hl : lv_has ls 6 [(0, .ref h0), (1, .int x)] := hl
  refine lv_iconst (v := 0) hx hb dX8_clashesWithin_0 (by decide) ?_
  refine lv_istore_n (lv' := [(2, .int 0), (0, .ref h0), (1, .int x)]) hx hb dX8_clashesWithin_1 rfl hl (by decide) rfl (fun ls hl => ?_)
  refine lv_iload_n hx hb dX8_clashesWithin_2 rfl (lv_at hl 0 rfl) ?_
  refine lv_aload_n hx hb dX8_clashesWithin_3 rfl (lv_at hl 1 rfl) ?_
  refine va_get (D := D) (ci := 8) (v := .int 0) (C := RX8) (T := TX8) (N := 12) hx hb hts (fun _ h9 => List.mem_cons_of_mem _ (List.mem_append_left _ (List.mem_append_left _ (List.mem_append_right _ h9)))) hown hK hP 0 rfl rfl 8 (by decide) (hts (.fieldLink RX8 62 "BuoyTender" "markCount" "I") (by decide +kernel)) (fun _ h9 => h9) rfl dX8_clashesWithin_4 ?_
  refine lv_icmp_ge (tgt := 87) hx hb dX8_clashesWithin_7 (by decide) (fun _ => ?_) (fun c_1 => False.elim (by revert c_1; decide))
  refine lv_iconst (v := 0) hx hb dX8_clashesWithin_87 (by decide) ?_
  exact W.zret (v := 0) hx hb hr rfl (fun t ht hW => ⟨0, rfl, rfl, ht⟩) (fun _ h => by cases h) dX8_clashesWithin_88
set_option maxHeartbeats 4000000 in
set_option maxRecDepth 100000 in
/-- no mark: no job -/
theorem k_X8_jobCount (l : Launch) (D : va_G) (cI cJ cZ cM : Nat) (h0 : Nat) (a : Nat → Nat) : Met l yX8_jobCount wsX8_jobCount ({ frames := 0, cells := 0, slots := 0, locals := 0 } : Room) (RO D cI cJ cZ cM [.ref h0] [(h0, .inr (8, [.ref (a 1), .ref (a 2), .ref (a 3), .ref (a 4), .ref (a 5), .ref (a 6), .ref (a 7), .null, .int 0, .int 0, .int 0, .int 0]))]) (vp_Si (fun r => r = 0)) 0 0 (fun _ => False) := by
  refine Met.ofW (cc := cX8_jobCount) (maxL := 4) (ret := (some .int)) (by decide) rfl ?_
  intro p e s m args below meth c s₁ B hml hv
  obtain ⟨rfl, hG, hP⟩ := hv
  have hx := B.exec
  have hb := B.bytes
  have hr := B.returns
  have hts := atoms_spec (ws := wsX8_jobCount) B.pre
  have hown : s.vm.findClass RX8 = some m.cls := findClass_of_methodNamed B.named
  have hlocks := B.notSynchronized
  have hK := hG.1
  have hN := hG.2
  have hl := lv_entry ([.ref h0]) (n := 4) (Nat.le_of_ble_eq_true rfl)
  rw [lg_entry_eq]
  generalize (lg_sl ([.ref h0]) ++ List.replicate (4 - (lg_sl ([.ref h0])).length) Slot.unset).toArray = ls at hl ⊢
  have hl : lv_has ls 4 [(0, .ref h0)] := hl
  refine lv_iconst (v := 0) hx hb dX8_jobCount_0 (by decide) ?_
  refine lv_istore_n (lv' := [(1, .int 0), (0, .ref h0)]) hx hb dX8_jobCount_1 rfl hl (by decide) rfl (fun ls hl => ?_)
  refine lv_iconst (v := 0) hx hb dX8_jobCount_2 (by decide) ?_
  refine lv_istore_n (lv' := [(2, .int 0), (1, .int 0), (0, .ref h0)]) hx hb dX8_jobCount_3 rfl hl (by decide) rfl (fun ls hl => ?_)
  refine lv_iload_n hx hb dX8_jobCount_4 rfl (lv_at hl 0 rfl) ?_
  refine lv_aload_n hx hb dX8_jobCount_5 rfl (lv_at hl 2 rfl) ?_
  refine va_get (D := D) (ci := 8) (v := .int 0) (C := RX8) (T := TX8) (N := 12) hx hb hts (fun _ h9 => List.mem_cons_of_mem _ (List.mem_append_left _ (List.mem_append_right _ h9))) hown hK hP 0 rfl rfl 8 (by decide) (hts (.fieldLink RX8 62 "BuoyTender" "markCount" "I") (by decide +kernel)) (fun _ h9 => h9) rfl dX8_jobCount_6 ?_
  refine lv_icmp_ge (tgt := 38) hx hb dX8_jobCount_9 (by decide) (fun _ => ?_) (fun c_1 => False.elim (by revert c_1; decide))
  refine lv_iload_n hx hb dX8_jobCount_38 rfl (lv_at hl 1 rfl) ?_
  exact W.iret (v := 0) hx hb hr (fun t ht hW => ⟨0, rfl, rfl, ht⟩) (fun _ h => by cases h) dX8_jobCount_39
