theorem my_gap {x a b : Int32} (h : a ≤ x ∧ x ≤ b) (hab : b < a) : False := Int32.not_lt.mpr (Int32.le_trans h.1 h.2) hab
def wayP (a b : Int32) : Prop := ((-1000) ≤ a ∧ a ≤ 1000) ∧ ((-1000) ≤ b ∧ b ≤ 1000) ∧ (¬ a = 0 ∨ ¬ b = 0)
set_option maxHeartbeats 4000000 in
set_option maxRecDepth 100000 in
/-- within bounds, or not -/
theorem k_X8_within (l : Launch) (v : Int32) (a : Int32) (b : Int32) : Met l yX8_within wsX8_within ({ frames := 0, cells := 0, slots := 0, locals := 0 } : Room) (fun av9 _ => av9 = ([.int v, .int a, .int b] : List Value).toArray) (vp_Si (fun r => okI 1 0 (a ≤ v ∧ v ≤ b) r)) 0 0 (fun _ => False) := by
  refine Met.ofW (cc := cX8_within) (maxL := 3) (ret := (some .boolean)) (by decide) rfl ?_
  intro p e s m args below meth c s₁ B hml hv
  obtain rfl := hv
  have hx := B.exec
  have hb := B.bytes
  have hr := B.returns
  have hts := atoms_spec (ws := wsX8_within) B.pre
  have hown : s.vm.findClass RX8 = some m.cls := findClass_of_methodNamed B.named
  have hlocks := B.notSynchronized
  have hl := lv_entry ([.int v, .int a, .int b]) (n := 3) (Nat.le_of_ble_eq_true rfl)
  rw [lg_entry_eq]
  generalize (lg_sl ([.int v, .int a, .int b]) ++ List.replicate (3 - (lg_sl ([.int v, .int a, .int b])).length) Slot.unset).toArray = ls at hl ⊢
  have hl : lv_has ls 3 [(0, .int v), (1, .int a), (2, .int b)] := hl
  refine lv_iload_n hx hb dX8_within_0 rfl (lv_at hl 0 rfl) ?_
  refine lv_iload_n hx hb dX8_within_1 rfl (lv_at hl 1 rfl) ?_
  refine lv_icmp_lt (tgt := 14) hx hb dX8_within_2 (by decide) (fun c_1 => ?_) (fun c_1 => ?_)
  · refine lv_iconst (v := 0) hx hb dX8_within_14 (by decide) ?_
    exact W.zret (v := 0) hx hb hr rfl (fun t ht hW => ⟨0, rfl, (Or.inr ⟨rfl, fun h9 => Int32.not_lt.mpr h9.1 c_1⟩), ht⟩) (fun _ h => by cases h) dX8_within_15
  refine lv_iload_n hx hb dX8_within_5 rfl (lv_at hl 0 rfl) ?_
  refine lv_iload_n hx hb dX8_within_6 rfl (lv_at hl 2 rfl) ?_
  refine lv_icmp_gt (tgt := 14) hx hb dX8_within_7 (by decide) (fun c_2 => ?_) (fun c_2 => ?_)
  · refine lv_iconst (v := 0) hx hb dX8_within_14 (by decide) ?_
    exact W.zret (v := 0) hx hb hr rfl (fun t ht hW => ⟨0, rfl, (Or.inr ⟨rfl, fun h9 => Int32.not_lt.mpr h9.2 c_2⟩), ht⟩) (fun _ h => by cases h) dX8_within_15
  refine lv_iconst (v := 1) hx hb dX8_within_10 (by decide) ?_
  refine lv_goto (tgt := 15) hx hb dX8_within_11 (by decide) ?_
  exact W.zret (v := 1) hx hb hr rfl (fun t ht hW => ⟨1, rfl, (Or.inl ⟨rfl, Int32.not_lt.mp c_1, Int32.not_lt.mp c_2⟩), ht⟩) (fun _ h => by cases h) dX8_within_15
set_option maxHeartbeats 4000000 in
set_option maxRecDepth 100000 in
/-- within bounds, or not -/
theorem k_X9_in (l : Launch) (v : Int32) (a : Int32) (b : Int32) : Met l yX9_in wsX9_in ({ frames := 0, cells := 0, slots := 0, locals := 0 } : Room) (fun av9 _ => av9 = ([.int v, .int a, .int b] : List Value).toArray) (vp_Si (fun r => okI 1 0 (a ≤ v ∧ v ≤ b) r)) 0 0 (fun _ => False) := by
  refine Met.ofW (cc := cX9_in) (maxL := 3) (ret := (some .boolean)) (by decide) rfl ?_
  intro p e s m args below meth c s₁ B hml hv
  obtain rfl := hv
  have hx := B.exec
  have hb := B.bytes
  have hr := B.returns
  have hts := atoms_spec (ws := wsX9_in) B.pre
  have hown : s.vm.findClass RX9 = some m.cls := findClass_of_methodNamed B.named
  have hlocks := B.notSynchronized
  have hl := lv_entry ([.int v, .int a, .int b]) (n := 3) (Nat.le_of_ble_eq_true rfl)
  rw [lg_entry_eq]
  generalize (lg_sl ([.int v, .int a, .int b]) ++ List.replicate (3 - (lg_sl ([.int v, .int a, .int b])).length) Slot.unset).toArray = ls at hl ⊢
  have hl : lv_has ls 3 [(0, .int v), (1, .int a), (2, .int b)] := hl
  refine lv_iload_n hx hb dX9_in_0 rfl (lv_at hl 0 rfl) ?_
  refine lv_iload_n hx hb dX9_in_1 rfl (lv_at hl 1 rfl) ?_
  refine lv_icmp_lt (tgt := 14) hx hb dX9_in_2 (by decide) (fun c_1 => ?_) (fun c_1 => ?_)
  · refine lv_iconst (v := 0) hx hb dX9_in_14 (by decide) ?_
    exact W.zret (v := 0) hx hb hr rfl (fun t ht hW => ⟨0, rfl, (Or.inr ⟨rfl, fun h9 => Int32.not_lt.mpr h9.1 c_1⟩), ht⟩) (fun _ h => by cases h) dX9_in_15
  refine lv_iload_n hx hb dX9_in_5 rfl (lv_at hl 0 rfl) ?_
  refine lv_iload_n hx hb dX9_in_6 rfl (lv_at hl 2 rfl) ?_
  refine lv_icmp_gt (tgt := 14) hx hb dX9_in_7 (by decide) (fun c_2 => ?_) (fun c_2 => ?_)
  · refine lv_iconst (v := 0) hx hb dX9_in_14 (by decide) ?_
    exact W.zret (v := 0) hx hb hr rfl (fun t ht hW => ⟨0, rfl, (Or.inr ⟨rfl, fun h9 => Int32.not_lt.mpr h9.2 c_2⟩), ht⟩) (fun _ h => by cases h) dX9_in_15
  refine lv_iconst (v := 1) hx hb dX9_in_10 (by decide) ?_
  refine lv_goto (tgt := 15) hx hb dX9_in_11 (by decide) ?_
  exact W.zret (v := 1) hx hb hr rfl (fun t ht hW => ⟨1, rfl, (Or.inl ⟨rfl, Int32.not_lt.mp c_1, Int32.not_lt.mp c_2⟩), ht⟩) (fun _ h => by cases h) dX9_in_15
set_option maxHeartbeats 4000000 in
set_option maxRecDepth 100000 in
/-- a place of the chart, or not -/
theorem k_X8_isPlace (l : Launch) (x : Int32) (y : Int32) : Met l yX8_isPlace wsX8_isPlace ({ frames := 1, cells := 0, slots := 0, locals := 22 } : Room) (fun av9 _ => av9 = ([.int x, .int y] : List Value).toArray) (vp_Si (fun r => okI 1 0 (placeP x y) r)) 0 0 (fun _ => False) := by
  refine Met.ofW (cc := cX8_isPlace) (maxL := 2) (ret := (some .boolean)) (by decide) rfl ?_
  intro p e s m args below meth c s₁ B hml hv
  obtain rfl := hv
  have hx := B.exec
  have hb := B.bytes
  have hr := B.returns
  have hts := atoms_spec (ws := wsX8_isPlace) B.pre
  have hown : s.vm.findClass RX8 = some m.cls := findClass_of_methodNamed B.named
  have hlocks := B.notSynchronized
  have hl := lv_entry ([.int x, .int y]) (n := 2) (Nat.le_of_ble_eq_true rfl)
  rw [lg_entry_eq]
  generalize (lg_sl ([.int x, .int y]) ++ List.replicate (2 - (lg_sl ([.int x, .int y])).length) Slot.unset).toArray = ls at hl ⊢
  have hl : lv_has ls 2 [(0, .int x), (1, .int y)] := hl
  refine lv_iload_n hx hb dX8_isPlace_0 rfl (lv_at hl 0 rfl) ?_
  refine lv_iconst (v := 0) hx hb dX8_isPlace_1 (by decide) ?_
  refine lv_bipush (v := 39) hx hb dX8_isPlace_2 (by decide) ?_
  refine vp_callSi (va_Run.run (va_runS (As := [.int x, .int 0, .int 39]) (rest := []) ⟨hx, hb, hml, hown, hts⟩ (k_X8_within l x 0 39) (va_cwS 3 hts gX8_isPlace_X8_within rfl rfl rfl (by decide +kernel) ⟨Nat.le_of_ble_eq_true rfl, Nat.le_of_ble_eq_true rfl⟩) preEq rfl rfl hl.1 rfl (lv_room (Nat.le_of_ble_eq_true rfl)) dX8_isPlace_4 ⟨Nat.le_of_ble_eq_true rfl, Nat.le_of_ble_eq_true rfl⟩)) (fun r_1 h_1 => ?_)
  rcases h_1 with ⟨rfl, h_1⟩ | ⟨rfl, h_1⟩
  · refine lv_if_eq (tgt := 24) hx hb dX8_isPlace_7 (by decide) (fun c_2 => False.elim (by revert c_2; decide)) (fun _ => ?_)
    refine lv_iload_n hx hb dX8_isPlace_10 rfl (lv_at hl 1 rfl) ?_
    refine lv_iconst (v := 0) hx hb dX8_isPlace_11 (by decide) ?_
    refine lv_bipush (v := 39) hx hb dX8_isPlace_12 (by decide) ?_
    refine vp_callSi (va_Run.run (va_runS (As := [.int y, .int 0, .int 39]) (rest := []) ⟨hx, hb, hml, hown, hts⟩ (k_X8_within l y 0 39) (va_cwS 3 hts gX8_isPlace_X8_within rfl rfl rfl (by decide +kernel) ⟨Nat.le_of_ble_eq_true rfl, Nat.le_of_ble_eq_true rfl⟩) preEq rfl rfl hl.1 rfl (lv_room (Nat.le_of_ble_eq_true rfl)) dX8_isPlace_14 ⟨Nat.le_of_ble_eq_true rfl, Nat.le_of_ble_eq_true rfl⟩)) (fun r_3 h_3 => ?_)
    rcases h_3 with ⟨rfl, h_3⟩ | ⟨rfl, h_3⟩
    · refine lv_if_eq (tgt := 24) hx hb dX8_isPlace_17 (by decide) (fun c_4 => False.elim (by revert c_4; decide)) (fun _ => ?_)
      refine lv_iconst (v := 1) hx hb dX8_isPlace_20 (by decide) ?_
      refine lv_goto (tgt := 25) hx hb dX8_isPlace_21 (by decide) ?_
      exact W.zret (v := 1) hx hb hr rfl (fun t ht hW => ⟨1, rfl, (Or.inl ⟨rfl, h_1, h_3⟩), ht⟩) (fun _ h => by cases h) dX8_isPlace_25
    refine lv_if_eq (tgt := 24) hx hb dX8_isPlace_17 (by decide) (fun _ => ?_) (fun c_5 => False.elim (by revert c_5; decide))
    refine lv_iconst (v := 0) hx hb dX8_isPlace_24 (by decide) ?_
    exact W.zret (v := 0) hx hb hr rfl (fun t ht hW => ⟨0, rfl, (Or.inr ⟨rfl, fun h9 => h_3 (h9.2)⟩), ht⟩) (fun _ h => by cases h) dX8_isPlace_25
  refine lv_if_eq (tgt := 24) hx hb dX8_isPlace_7 (by decide) (fun _ => ?_) (fun c_6 => False.elim (by revert c_6; decide))
  refine lv_iconst (v := 0) hx hb dX8_isPlace_24 (by decide) ?_
  exact W.zret (v := 0) hx hb hr rfl (fun t ht hW => ⟨0, rfl, (Or.inr ⟨rfl, fun h9 => h_1 (h9.1)⟩), ht⟩) (fun _ h => by cases h) dX8_isPlace_25
set_option maxHeartbeats 4000000 in
set_option maxRecDepth 100000 in
/-- a place of the chart, or not -/
theorem k_X9_isPlace (l : Launch) (x : Int32) (y : Int32) : Met l yX9_isPlace wsX9_isPlace ({ frames := 1, cells := 0, slots := 0, locals := 22 } : Room) (fun av9 _ => av9 = ([.int x, .int y] : List Value).toArray) (vp_Si (fun r => okI 1 0 (placeP x y) r)) 0 0 (fun _ => False) := by
  refine Met.ofW (cc := cX9_isPlace) (maxL := 2) (ret := (some .boolean)) (by decide) rfl ?_
  intro p e s m args below meth c s₁ B hml hv
  obtain rfl := hv
  have hx := B.exec
  have hb := B.bytes
  have hr := B.returns
  have hts := atoms_spec (ws := wsX9_isPlace) B.pre
  have hown : s.vm.findClass RX9 = some m.cls := findClass_of_methodNamed B.named
  have hlocks := B.notSynchronized
  have hl := lv_entry ([.int x, .int y]) (n := 2) (Nat.le_of_ble_eq_true rfl)
  rw [lg_entry_eq]
  generalize (lg_sl ([.int x, .int y]) ++ List.replicate (2 - (lg_sl ([.int x, .int y])).length) Slot.unset).toArray = ls at hl ⊢
  have hl : lv_has ls 2 [(0, .int x), (1, .int y)] := hl
  refine lv_iload_n hx hb dX9_isPlace_0 rfl (lv_at hl 0 rfl) ?_
  refine lv_iconst (v := 0) hx hb dX9_isPlace_1 (by decide) ?_
  refine lv_bipush (v := 39) hx hb dX9_isPlace_2 (by decide) ?_
  refine vp_callSi (va_Run.run (va_runS (As := [.int x, .int 0, .int 39]) (rest := []) ⟨hx, hb, hml, hown, hts⟩ (k_X9_in l x 0 39) (va_cwS 3 hts gX9_isPlace_X9_in rfl rfl rfl (by decide +kernel) ⟨Nat.le_of_ble_eq_true rfl, Nat.le_of_ble_eq_true rfl⟩) preEq rfl rfl hl.1 rfl (lv_room (Nat.le_of_ble_eq_true rfl)) dX9_isPlace_4 ⟨Nat.le_of_ble_eq_true rfl, Nat.le_of_ble_eq_true rfl⟩)) (fun r_1 h_1 => ?_)
  rcases h_1 with ⟨rfl, h_1⟩ | ⟨rfl, h_1⟩
  · refine lv_if_eq (tgt := 24) hx hb dX9_isPlace_7 (by decide) (fun c_2 => False.elim (by revert c_2; decide)) (fun _ => ?_)
    refine lv_iload_n hx hb dX9_isPlace_10 rfl (lv_at hl 1 rfl) ?_
    refine lv_iconst (v := 0) hx hb dX9_isPlace_11 (by decide) ?_
    refine lv_bipush (v := 39) hx hb dX9_isPlace_12 (by decide) ?_
    refine vp_callSi (va_Run.run (va_runS (As := [.int y, .int 0, .int 39]) (rest := []) ⟨hx, hb, hml, hown, hts⟩ (k_X9_in l y 0 39) (va_cwS 3 hts gX9_isPlace_X9_in rfl rfl rfl (by decide +kernel) ⟨Nat.le_of_ble_eq_true rfl, Nat.le_of_ble_eq_true rfl⟩) preEq rfl rfl hl.1 rfl (lv_room (Nat.le_of_ble_eq_true rfl)) dX9_isPlace_14 ⟨Nat.le_of_ble_eq_true rfl, Nat.le_of_ble_eq_true rfl⟩)) (fun r_3 h_3 => ?_)
    rcases h_3 with ⟨rfl, h_3⟩ | ⟨rfl, h_3⟩
    · refine lv_if_eq (tgt := 24) hx hb dX9_isPlace_17 (by decide) (fun c_4 => False.elim (by revert c_4; decide)) (fun _ => ?_)
      refine lv_iconst (v := 1) hx hb dX9_isPlace_20 (by decide) ?_
      refine lv_goto (tgt := 25) hx hb dX9_isPlace_21 (by decide) ?_
      exact W.zret (v := 1) hx hb hr rfl (fun t ht hW => ⟨1, rfl, (Or.inl ⟨rfl, h_1, h_3⟩), ht⟩) (fun _ h => by cases h) dX9_isPlace_25
    refine lv_if_eq (tgt := 24) hx hb dX9_isPlace_17 (by decide) (fun _ => ?_) (fun c_5 => False.elim (by revert c_5; decide))
    refine lv_iconst (v := 0) hx hb dX9_isPlace_24 (by decide) ?_
    exact W.zret (v := 0) hx hb hr rfl (fun t ht hW => ⟨0, rfl, (Or.inr ⟨rfl, fun h9 => h_3 (h9.2)⟩), ht⟩) (fun _ h => by cases h) dX9_isPlace_25
  refine lv_if_eq (tgt := 24) hx hb dX9_isPlace_7 (by decide) (fun _ => ?_) (fun c_6 => False.elim (by revert c_6; decide))
  refine lv_iconst (v := 0) hx hb dX9_isPlace_24 (by decide) ?_
  exact W.zret (v := 0) hx hb hr rfl (fun t ht hW => ⟨0, rfl, (Or.inr ⟨rfl, fun h9 => h_1 (h9.1)⟩), ht⟩) (fun _ h => by cases h) dX9_isPlace_25
set_option maxHeartbeats 4000000 in
set_option maxRecDepth 100000 in
/-- a way, or not -/
theorem k_X8_isWay (l : Launch) (x : Int32) (y : Int32) : Met l yX8_isWay wsX8_isWay ({ frames := 1, cells := 0, slots := 0, locals := 22 } : Room) (fun av9 _ => av9 = ([.int x, .int y] : List Value).toArray) (vp_Si (fun r => okI 1 0 (wayP x y) r)) 0 0 (fun _ => False) := by
  refine Met.ofW (cc := cX8_isWay) (maxL := 2) (ret := (some .boolean)) (by decide) rfl ?_
  intro p e s m args below meth c s₁ B hml hv
  obtain rfl := hv
  have hx := B.exec
  have hb := B.bytes
  have hr := B.returns
  have hts := atoms_spec (ws := wsX8_isWay) B.pre
  have hown : s.vm.findClass RX8 = some m.cls := findClass_of_methodNamed B.named
  have hlocks := B.notSynchronized
  have hl := lv_entry ([.int x, .int y]) (n := 2) (Nat.le_of_ble_eq_true rfl)
  rw [lg_entry_eq]
  generalize (lg_sl ([.int x, .int y]) ++ List.replicate (2 - (lg_sl ([.int x, .int y])).length) Slot.unset).toArray = ls at hl ⊢
  have hl : lv_has ls 2 [(0, .int x), (1, .int y)] := hl
  refine lv_iload_n hx hb dX8_isWay_0 rfl (lv_at hl 0 rfl) ?_
  refine lv_sipush (v := (-1000)) hx hb dX8_isWay_1 (by decide) ?_
  refine lv_sipush (v := 1000) hx hb dX8_isWay_4 (by decide) ?_
  refine vp_callSi (va_Run.run (va_runS (As := [.int x, .int (-1000), .int 1000]) (rest := []) ⟨hx, hb, hml, hown, hts⟩ (k_X8_within l x (-1000) 1000) (va_cwS 3 hts gX8_isWay_X8_within rfl rfl rfl (by decide +kernel) ⟨Nat.le_of_ble_eq_true rfl, Nat.le_of_ble_eq_true rfl⟩) preEq rfl rfl hl.1 rfl (lv_room (Nat.le_of_ble_eq_true rfl)) dX8_isWay_7 ⟨Nat.le_of_ble_eq_true rfl, Nat.le_of_ble_eq_true rfl⟩)) (fun r_1 h_1 => ?_)
  rcases h_1 with ⟨rfl, h_1⟩ | ⟨rfl, h_1⟩
  · refine lv_if_eq (tgt := 38) hx hb dX8_isWay_10 (by decide) (fun c_2 => False.elim (by revert c_2; decide)) (fun _ => ?_)
    refine lv_iload_n hx hb dX8_isWay_13 rfl (lv_at hl 1 rfl) ?_
    refine lv_sipush (v := (-1000)) hx hb dX8_isWay_14 (by decide) ?_
    refine lv_sipush (v := 1000) hx hb dX8_isWay_17 (by decide) ?_
    refine vp_callSi (va_Run.run (va_runS (As := [.int y, .int (-1000), .int 1000]) (rest := []) ⟨hx, hb, hml, hown, hts⟩ (k_X8_within l y (-1000) 1000) (va_cwS 3 hts gX8_isWay_X8_within rfl rfl rfl (by decide +kernel) ⟨Nat.le_of_ble_eq_true rfl, Nat.le_of_ble_eq_true rfl⟩) preEq rfl rfl hl.1 rfl (lv_room (Nat.le_of_ble_eq_true rfl)) dX8_isWay_20 ⟨Nat.le_of_ble_eq_true rfl, Nat.le_of_ble_eq_true rfl⟩)) (fun r_3 h_3 => ?_)
    rcases h_3 with ⟨rfl, h_3⟩ | ⟨rfl, h_3⟩
    · refine lv_if_eq (tgt := 38) hx hb dX8_isWay_23 (by decide) (fun c_4 => False.elim (by revert c_4; decide)) (fun _ => ?_)
      refine lv_iload_n hx hb dX8_isWay_26 rfl (lv_at hl 0 rfl) ?_
      refine lv_if_ne (tgt := 34) hx hb dX8_isWay_27 (by decide) (fun c_5 => ?_) (fun c_5 => ?_)
      · refine lv_iconst (v := 1) hx hb dX8_isWay_34 (by decide) ?_
        refine lv_goto (tgt := 39) hx hb dX8_isWay_35 (by decide) ?_
        exact W.zret (v := 1) hx hb hr rfl (fun t ht hW => ⟨1, rfl, (Or.inl ⟨rfl, h_1, h_3, Or.inl c_5⟩), ht⟩) (fun _ h => by cases h) dX8_isWay_39
      refine lv_iload_n hx hb dX8_isWay_30 rfl (lv_at hl 1 rfl) ?_
      refine lv_if_eq (tgt := 38) hx hb dX8_isWay_31 (by decide) (fun c_6 => ?_) (fun c_6 => ?_)
      · refine lv_iconst (v := 0) hx hb dX8_isWay_38 (by decide) ?_
        exact W.zret (v := 0) hx hb hr rfl (fun t ht hW => ⟨0, rfl, (Or.inr ⟨rfl, fun h9 => h9.2.2.elim (fun q => q c_5) (fun q => q c_6)⟩), ht⟩) (fun _ h => by cases h) dX8_isWay_39
      refine lv_iconst (v := 1) hx hb dX8_isWay_34 (by decide) ?_
      refine lv_goto (tgt := 39) hx hb dX8_isWay_35 (by decide) ?_
      exact W.zret (v := 1) hx hb hr rfl (fun t ht hW => ⟨1, rfl, (Or.inl ⟨rfl, h_1, h_3, Or.inr c_6⟩), ht⟩) (fun _ h => by cases h) dX8_isWay_39
    refine lv_if_eq (tgt := 38) hx hb dX8_isWay_23 (by decide) (fun _ => ?_) (fun c_7 => False.elim (by revert c_7; decide))
    refine lv_iconst (v := 0) hx hb dX8_isWay_38 (by decide) ?_
    exact W.zret (v := 0) hx hb hr rfl (fun t ht hW => ⟨0, rfl, (Or.inr ⟨rfl, fun h9 => h_3 h9.2.1⟩), ht⟩) (fun _ h => by cases h) dX8_isWay_39
  refine lv_if_eq (tgt := 38) hx hb dX8_isWay_10 (by decide) (fun _ => ?_) (fun c_8 => False.elim (by revert c_8; decide))
  refine lv_iconst (v := 0) hx hb dX8_isWay_38 (by decide) ?_
  exact W.zret (v := 0) hx hb hr rfl (fun t ht hW => ⟨0, rfl, (Or.inr ⟨rfl, fun h9 => h_1 h9.1⟩), ht⟩) (fun _ h => by cases h) dX8_isWay_39
set_option maxHeartbeats 4000000 in
set_option maxRecDepth 100000 in
/-- a way, or not -/
theorem k_X9_isWay (l : Launch) (x : Int32) (y : Int32) : Met l yX9_isWay wsX9_isWay ({ frames := 1, cells := 0, slots := 0, locals := 22 } : Room) (fun av9 _ => av9 = ([.int x, .int y] : List Value).toArray) (vp_Si (fun r => okI 1 0 (wayP x y) r)) 0 0 (fun _ => False) := by
  refine Met.ofW (cc := cX9_isWay) (maxL := 2) (ret := (some .boolean)) (by decide) rfl ?_
  intro p e s m args below meth c s₁ B hml hv
  obtain rfl := hv
  have hx := B.exec
  have hb := B.bytes
  have hr := B.returns
  have hts := atoms_spec (ws := wsX9_isWay) B.pre
  have hown : s.vm.findClass RX9 = some m.cls := findClass_of_methodNamed B.named
  have hlocks := B.notSynchronized
  have hl := lv_entry ([.int x, .int y]) (n := 2) (Nat.le_of_ble_eq_true rfl)
  rw [lg_entry_eq]
  generalize (lg_sl ([.int x, .int y]) ++ List.replicate (2 - (lg_sl ([.int x, .int y])).length) Slot.unset).toArray = ls at hl ⊢
  have hl : lv_has ls 2 [(0, .int x), (1, .int y)] := hl
  refine lv_iload_n hx hb dX9_isWay_0 rfl (lv_at hl 0 rfl) ?_
  refine lv_sipush (v := (-1000)) hx hb dX9_isWay_1 (by decide) ?_
  refine lv_sipush (v := 1000) hx hb dX9_isWay_4 (by decide) ?_
  refine vp_callSi (va_Run.run (va_runS (As := [.int x, .int (-1000), .int 1000]) (rest := []) ⟨hx, hb, hml, hown, hts⟩ (k_X9_in l x (-1000) 1000) (va_cwS 3 hts gX9_isWay_X9_in rfl rfl rfl (by decide +kernel) ⟨Nat.le_of_ble_eq_true rfl, Nat.le_of_ble_eq_true rfl⟩) preEq rfl rfl hl.1 rfl (lv_room (Nat.le_of_ble_eq_true rfl)) dX9_isWay_7 ⟨Nat.le_of_ble_eq_true rfl, Nat.le_of_ble_eq_true rfl⟩)) (fun r_1 h_1 => ?_)
  rcases h_1 with ⟨rfl, h_1⟩ | ⟨rfl, h_1⟩
  · refine lv_if_eq (tgt := 38) hx hb dX9_isWay_10 (by decide) (fun c_2 => False.elim (by revert c_2; decide)) (fun _ => ?_)
    refine lv_iload_n hx hb dX9_isWay_13 rfl (lv_at hl 1 rfl) ?_
    refine lv_sipush (v := (-1000)) hx hb dX9_isWay_14 (by decide) ?_
    refine lv_sipush (v := 1000) hx hb dX9_isWay_17 (by decide) ?_
    refine vp_callSi (va_Run.run (va_runS (As := [.int y, .int (-1000), .int 1000]) (rest := []) ⟨hx, hb, hml, hown, hts⟩ (k_X9_in l y (-1000) 1000) (va_cwS 3 hts gX9_isWay_X9_in rfl rfl rfl (by decide +kernel) ⟨Nat.le_of_ble_eq_true rfl, Nat.le_of_ble_eq_true rfl⟩) preEq rfl rfl hl.1 rfl (lv_room (Nat.le_of_ble_eq_true rfl)) dX9_isWay_20 ⟨Nat.le_of_ble_eq_true rfl, Nat.le_of_ble_eq_true rfl⟩)) (fun r_3 h_3 => ?_)
    rcases h_3 with ⟨rfl, h_3⟩ | ⟨rfl, h_3⟩
    · refine lv_if_eq (tgt := 38) hx hb dX9_isWay_23 (by decide) (fun c_4 => False.elim (by revert c_4; decide)) (fun _ => ?_)
      refine lv_iload_n hx hb dX9_isWay_26 rfl (lv_at hl 0 rfl) ?_
      refine lv_if_ne (tgt := 34) hx hb dX9_isWay_27 (by decide) (fun c_5 => ?_) (fun c_5 => ?_)
      · refine lv_iconst (v := 1) hx hb dX9_isWay_34 (by decide) ?_
        refine lv_goto (tgt := 39) hx hb dX9_isWay_35 (by decide) ?_
        exact W.zret (v := 1) hx hb hr rfl (fun t ht hW => ⟨1, rfl, (Or.inl ⟨rfl, h_1, h_3, Or.inl c_5⟩), ht⟩) (fun _ h => by cases h) dX9_isWay_39
      refine lv_iload_n hx hb dX9_isWay_30 rfl (lv_at hl 1 rfl) ?_
      refine lv_if_eq (tgt := 38) hx hb dX9_isWay_31 (by decide) (fun c_6 => ?_) (fun c_6 => ?_)
      · refine lv_iconst (v := 0) hx hb dX9_isWay_38 (by decide) ?_
        exact W.zret (v := 0) hx hb hr rfl (fun t ht hW => ⟨0, rfl, (Or.inr ⟨rfl, fun h9 => h9.2.2.elim (fun q => q c_5) (fun q => q c_6)⟩), ht⟩) (fun _ h => by cases h) dX9_isWay_39
      refine lv_iconst (v := 1) hx hb dX9_isWay_34 (by decide) ?_
      refine lv_goto (tgt := 39) hx hb dX9_isWay_35 (by decide) ?_
      exact W.zret (v := 1) hx hb hr rfl (fun t ht hW => ⟨1, rfl, (Or.inl ⟨rfl, h_1, h_3, Or.inr c_6⟩), ht⟩) (fun _ h => by cases h) dX9_isWay_39
    refine lv_if_eq (tgt := 38) hx hb dX9_isWay_23 (by decide) (fun _ => ?_) (fun c_7 => False.elim (by revert c_7; decide))
    refine lv_iconst (v := 0) hx hb dX9_isWay_38 (by decide) ?_
    exact W.zret (v := 0) hx hb hr rfl (fun t ht hW => ⟨0, rfl, (Or.inr ⟨rfl, fun h9 => h_3 h9.2.1⟩), ht⟩) (fun _ h => by cases h) dX9_isWay_39
  refine lv_if_eq (tgt := 38) hx hb dX9_isWay_10 (by decide) (fun _ => ?_) (fun c_8 => False.elim (by revert c_8; decide))
  refine lv_iconst (v := 0) hx hb dX9_isWay_38 (by decide) ?_
  exact W.zret (v := 0) hx hb hr rfl (fun t ht hW => ⟨0, rfl, (Or.inr ⟨rfl, fun h9 => h_1 h9.1⟩), ht⟩) (fun _ h => by cases h) dX9_isWay_39
set_option maxHeartbeats 4000000 in
set_option maxRecDepth 100000 in
/-- the square of a way -/
theorem k_X8_squareBetween (l : Launch) (x1 : Int32) (x2 : Int32) (x3 : Int32) (x4 : Int32) : Met l yX8_squareBetween wsX8_squareBetween ({ frames := 0, cells := 0, slots := 0, locals := 0 } : Room) (fun av9 _ => av9 = ([.int x1, .int x2, .int x3, .int x4] : List Value).toArray) (vp_Si (fun r => r = (x1 - x3) * (x1 - x3) + (x2 - x4) * (x2 - x4))) 0 0 (fun _ => False) := by
  refine Met.ofW (cc := cX8_squareBetween) (maxL := 4) (ret := (some .int)) (by decide) rfl ?_
  intro p e s m args below meth c s₁ B hml hv
  obtain rfl := hv
  have hx := B.exec
  have hb := B.bytes
  have hr := B.returns
  have hts := atoms_spec (ws := wsX8_squareBetween) B.pre
  have hown : s.vm.findClass RX8 = some m.cls := findClass_of_methodNamed B.named
  have hlocks := B.notSynchronized
  have hl := lv_entry ([.int x1, .int x2, .int x3, .int x4]) (n := 4) (Nat.le_of_ble_eq_true rfl)
  rw [lg_entry_eq]
  generalize (lg_sl ([.int x1, .int x2, .int x3, .int x4]) ++ List.replicate (4 - (lg_sl ([.int x1, .int x2, .int x3, .int x4])).length) Slot.unset).toArray = ls at hl ⊢
  have hl : lv_has ls 4 [(0, .int x1), (1, .int x2), (2, .int x3), (3, .int x4)] := hl
  refine lv_iload_n hx hb dX8_squareBetween_0 rfl (lv_at hl 0 rfl) ?_
  refine lv_iload_n hx hb dX8_squareBetween_1 rfl (lv_at hl 2 rfl) ?_
  refine lv_isub hx hb dX8_squareBetween_2 ?_
  refine lv_iload_n hx hb dX8_squareBetween_3 rfl (lv_at hl 0 rfl) ?_
  refine lv_iload_n hx hb dX8_squareBetween_4 rfl (lv_at hl 2 rfl) ?_
  refine lv_isub hx hb dX8_squareBetween_5 ?_
  refine lv_imul hx hb dX8_squareBetween_6 ?_
  refine lv_iload_n hx hb dX8_squareBetween_7 rfl (lv_at hl 1 rfl) ?_
  refine lv_iload_n hx hb dX8_squareBetween_8 rfl (lv_at hl 3 rfl) ?_
  refine lv_isub hx hb dX8_squareBetween_9 ?_
  refine lv_iload_n hx hb dX8_squareBetween_10 rfl (lv_at hl 1 rfl) ?_
  refine lv_iload_n hx hb dX8_squareBetween_11 rfl (lv_at hl 3 rfl) ?_
  refine lv_isub hx hb dX8_squareBetween_12 ?_
  refine lv_imul hx hb dX8_squareBetween_13 ?_
  refine lv_iadd hx hb dX8_squareBetween_14 ?_
  exact W.iret (v := (((x1 - x3) * (x1 - x3)) + ((x2 - x4) * (x2 - x4)))) hx hb hr (fun t ht hW => ⟨(((x1 - x3) * (x1 - x3)) + ((x2 - x4) * (x2 - x4))), rfl, rfl, ht⟩) (fun _ h => by cases h) dX8_squareBetween_15
set_option maxHeartbeats 4000000 in
set_option maxRecDepth 100000 in
/-- the square of a way -/
theorem k_X9_square (l : Launch) (x1 : Int32) (x2 : Int32) : Met l yX9_square wsX9_square ({ frames := 0, cells := 0, slots := 0, locals := 0 } : Room) (fun av9 _ => av9 = ([.int x1, .int x2] : List Value).toArray) (vp_Si (fun r => r = x1 * x1 + x2 * x2)) 0 0 (fun _ => False) := by
  refine Met.ofW (cc := cX9_square) (maxL := 2) (ret := (some .int)) (by decide) rfl ?_
  intro p e s m args below meth c s₁ B hml hv
  obtain rfl := hv
  have hx := B.exec
  have hb := B.bytes
  have hr := B.returns
  have hts := atoms_spec (ws := wsX9_square) B.pre
  have hown : s.vm.findClass RX9 = some m.cls := findClass_of_methodNamed B.named
  have hlocks := B.notSynchronized
  have hl := lv_entry ([.int x1, .int x2]) (n := 2) (Nat.le_of_ble_eq_true rfl)
  rw [lg_entry_eq]
  generalize (lg_sl ([.int x1, .int x2]) ++ List.replicate (2 - (lg_sl ([.int x1, .int x2])).length) Slot.unset).toArray = ls at hl ⊢
  have hl : lv_has ls 2 [(0, .int x1), (1, .int x2)] := hl
  refine lv_iload_n hx hb dX9_square_0 rfl (lv_at hl 0 rfl) ?_
  refine lv_iload_n hx hb dX9_square_1 rfl (lv_at hl 0 rfl) ?_
  refine lv_imul hx hb dX9_square_2 ?_
  refine lv_iload_n hx hb dX9_square_3 rfl (lv_at hl 1 rfl) ?_
  refine lv_iload_n hx hb dX9_square_4 rfl (lv_at hl 1 rfl) ?_
  refine lv_imul hx hb dX9_square_5 ?_
  refine lv_iadd hx hb dX9_square_6 ?_
  exact W.iret (v := ((x1 * x1) + (x2 * x2))) hx hb hr (fun t ht hW => ⟨((x1 * x1) + (x2 * x2)), rfl, rfl, ht⟩) (fun _ h => by cases h) dX9_square_7
