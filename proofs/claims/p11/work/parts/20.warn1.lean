def isM (n : Nat) (x : Int32) : Prop := ∃ i : Nat, i < n ∧ x = nI i
theorem isM_neg {n : Nat} {x : Int32} (h : x < 0) (hn : n < 2 ^ 31) : ¬ isM n x := by
  rintro ⟨i, hi, rfl⟩
  exact nI_pos (by omega) h
theorem isM_ge {n : Nat} {x : Int32} (h : nI n ≤ x) (hn : n < 2 ^ 31) : ¬ isM n x := by
  rintro ⟨i, hi, rfl⟩
  exact nI_ge hi hn h
theorem isM_of {n : Nat} {x : Int32} (h1 : ¬ x < 0) (h2 : ¬ nI n ≤ x) (hn : n < 2 ^ 31) : isM n x := by
  obtain ⟨j, hj, rfl⟩ := nI_of h1
  exact ⟨j, Nat.lt_of_not_le (fun q => h2 (nI_le q hj)), rfl⟩
theorem isM_in {n : Nat} {x : Int32} (hn : n < 2 ^ 31) : (0 ≤ x ∧ x ≤ nI n - 1) ↔ isM n x := by
  cases n with
  | zero =>
    constructor
    · intro h
      exact (my_none h.1 h.2).elim
    · rintro ⟨i, hi, -⟩
      exact absurd hi (Nat.not_lt_zero _)
  | succ k =>
    rw [nI_pred]
    constructor
    · intro h
      obtain ⟨j, hj, rfl⟩ := nI_of (Int32.not_lt.mpr h.1)
      have := (nI_leI hj (by omega)).mp h.2
      exact ⟨j, by omega, rfl⟩
    · rintro ⟨i, hi, rfl⟩
      exact ⟨nI_pos' (by omega), nI_le (by omega) (by omega)⟩
/-- a warning w is out on the day d: as the class tells it, as the reference does -/
def outC (f g : Nat → Int32) (d : Int32) (w : Nat) : Prop := f w ≤ d ∧ (g w = -1 ∨ d < g w)
def outM (f g : Nat → Int32) (d : Int32) (w : Nat) : Prop := f w ≤ d ∧ (g w < 0 ∨ d < g w)
set_option maxHeartbeats 4000000 in
set_option maxRecDepth 100000 in
/-- is there such a warning -/
theorem k_X7_has (l : Launch) (D : va_G) (cI cJ cZ cM : Nat) (a : Nat → Nat) (iv : Nat → Int32) (wc : Nat) (h_w : iv 4 = nI wc) (hwc : wc ≤ 100) (x1 : Int32) : Met l yX7_has wsX7_has ({ frames := 0, cells := 0, slots := 0, locals := 0 } : Room) (RO D cI cJ cZ cM [.ref (a 4), .int x1] [(a 4, .inr (7, [.ref (a 9), .ref (a 10), .ref (a 11), .ref (a 12), .int (iv 4)]))]) (vp_Si (fun r => okI 1 0 (isM wc x1) r)) 0 0 (fun _ => False) := by
  refine Met.ofW (cc := cX7_has) (maxL := 2) (ret := (some .boolean)) (by decide) rfl ?_
  intro p e s m args below meth c s₁ B hml hv
  obtain ⟨rfl, hG, hP⟩ := hv
  have hx := B.exec
  have hb := B.bytes
  have hr := B.returns
  have hts := atoms_spec (ws := wsX7_has) B.pre
  have hown : s.vm.findClass RX7 = some m.cls := findClass_of_methodNamed B.named
  have hlocks := B.notSynchronized
  have hK := hG.1
  have hN := hG.2
  have hl := lv_entry ([.ref (a 4), .int x1]) (n := 2) (Nat.le_of_ble_eq_true rfl)
  rw [lg_entry_eq]
  generalize (lg_sl ([.ref (a 4), .int x1]) ++ List.replicate (2 - (lg_sl ([.ref (a 4), .int x1])).length) Slot.unset).toArray = ls at hl ⊢
  have hl : lv_has ls 2 [(0, .ref (a 4)), (1, .int x1)] := hl
  refine lv_iload_n hx hb dX7_has_0 rfl (lv_at hl 1 rfl) ?_
  refine lv_if_lt (tgt := 16) hx hb dX7_has_1 (by decide) (fun c_1 => ?_) (fun c_1 => ?_)
  · refine lv_iconst (v := 0) hx hb dX7_has_16 (by decide) ?_
    exact W.zret (v := 0) hx hb hr rfl (fun t ht hW => ⟨0, rfl, (Or.inr ⟨rfl, isM_neg c_1 (by omega)⟩), ht⟩) (fun _ h => by cases h) dX7_has_17
  refine lv_iload_n hx hb dX7_has_4 rfl (lv_at hl 1 rfl) ?_
  refine lv_aload_n hx hb dX7_has_5 rfl (lv_at hl 0 rfl) ?_
  refine va_get (D := D) (ci := 7) (v := .int (iv 4)) (C := RX7) (T := TX7) (N := 5) hx hb hts (fun _ h9 => List.mem_cons_of_mem _ (List.mem_append_right _ h9)) hown hK hP 0 rfl rfl 4 (by decide) (hts (.fieldLink RX7 24 "BuoyTender$Warnings" "count" "I") (by decide +kernel)) (fun _ h9 => h9) rfl dX7_has_6 ?_
  refine lv_topi (fun z_2 ez_2 => ?_)
  obtain rfl : z_2 = nI wc := ez_2.trans h_w
  refine lv_icmp_ge (tgt := 16) hx hb dX7_has_9 (by decide) (fun c_3 => ?_) (fun c_3 => ?_)
  · refine lv_iconst (v := 0) hx hb dX7_has_16 (by decide) ?_
    exact W.zret (v := 0) hx hb hr rfl (fun t ht hW => ⟨0, rfl, (Or.inr ⟨rfl, isM_ge c_3 (by omega)⟩), ht⟩) (fun _ h => by cases h) dX7_has_17
  refine lv_iconst (v := 1) hx hb dX7_has_12 (by decide) ?_
  refine lv_goto (tgt := 17) hx hb dX7_has_13 (by decide) ?_
  exact W.zret (v := 1) hx hb hr rfl (fun t ht hW => ⟨1, rfl, (Or.inl ⟨rfl, isM_of c_1 c_3 (by omega)⟩), ht⟩) (fun _ h => by cases h) dX7_has_17
set_option maxHeartbeats 4000000 in
set_option maxRecDepth 100000 in
/-- out on a day -/
theorem k_X7_isOutOn (l : Launch) (D : va_G) (cI cJ cZ cM : Nat) (a : Nat → Nat) (iv : Nat → Int32) (av : Nat → Nat → Int32) (j : Nat) (hj : j < 100) (x1 : Int32) : Met l yX7_isOutOn wsX7_isOutOn ({ frames := 0, cells := 0, slots := 0, locals := 0 } : Room) (RO D cI cJ cZ cM [.ref (a 4), .int (nI j), .int x1] [(a 4, .inr (7, [.ref (a 9), .ref (a 10), .ref (a 11), .ref (a 12), .int (iv 4)])), (a 9, .inl (cI, 100, .inl (av 9))), (a 10, .inl (cI, 100, .inl (av 10))), (a 11, .inl (cI, 100, .inl (av 11))), (a 12, .inl (cI, 100, .inl (av 12)))]) (vp_Si (fun r => okI 1 0 (outC (av 11) (av 12) x1 j) r)) 0 0 (fun _ => False) := by
  refine Met.ofW (cc := cX7_isOutOn) (maxL := 3) (ret := (some .boolean)) (by decide) rfl ?_
  intro p e s m args below meth c s₁ B hml hv
  obtain ⟨rfl, hG, hP⟩ := hv
  have hx := B.exec
  have hb := B.bytes
  have hr := B.returns
  have hts := atoms_spec (ws := wsX7_isOutOn) B.pre
  have hown : s.vm.findClass RX7 = some m.cls := findClass_of_methodNamed B.named
  have hlocks := B.notSynchronized
  have hK := hG.1
  have hN := hG.2
  have hl := lv_entry ([.ref (a 4), .int (nI j), .int x1]) (n := 3) (Nat.le_of_ble_eq_true rfl)
  rw [lg_entry_eq]
  generalize (lg_sl ([.ref (a 4), .int (nI j), .int x1]) ++ List.replicate (3 - (lg_sl ([.ref (a 4), .int (nI j), .int x1])).length) Slot.unset).toArray = ls at hl ⊢
  have hl : lv_has ls 3 [(0, .ref (a 4)), (1, .int (nI j)), (2, .int x1)] := hl
  refine lv_aload_n hx hb dX7_isOutOn_0 rfl (lv_at hl 0 rfl) ?_
  refine va_get (D := D) (ci := 7) (v := .ref (a 11)) (C := RX7) (T := TX7) (N := 5) hx hb hts (fun _ h9 => List.mem_cons_of_mem _ (List.mem_append_right _ h9)) hown hK hP 0 rfl rfl 2 (by decide) (hts (.fieldLink RX7 18 "BuoyTender$Warnings" "toldOn" "[I") (by decide +kernel)) (fun _ h9 => h9) rfl dX7_isOutOn_1 ?_
  refine lv_iload_n hx hb dX7_isOutOn_4 rfl (lv_at hl 1 rfl) ?_
  refine va_iald hx hb hK hP 3 0 rfl rfl (vp_in_nI (by omega) (by decide)) dX7_isOutOn_5 ?_
  refine lv_topi (fun z_1 ez_1 => ?_)
  obtain rfl : z_1 = (av 11) j := ez_1.trans (congrArg (av 11) (nI_clamp (by omega)))
  refine lv_iload_n hx hb dX7_isOutOn_6 rfl (lv_at hl 2 rfl) ?_
  refine lv_icmp_gt (tgt := 34) hx hb dX7_isOutOn_7 (by decide) (fun c_2 => ?_) (fun c_2 => ?_)
  · refine lv_iconst (v := 0) hx hb dX7_isOutOn_34 (by decide) ?_
    exact W.zret (v := 0) hx hb hr rfl (fun t ht hW => ⟨0, rfl, (Or.inr ⟨rfl, fun h9 => Int32.not_lt.mpr h9.1 c_2⟩), ht⟩) (fun _ h => by cases h) dX7_isOutOn_35
  refine lv_aload_n hx hb dX7_isOutOn_10 rfl (lv_at hl 0 rfl) ?_
  refine va_get (D := D) (ci := 7) (v := .ref (a 12)) (C := RX7) (T := TX7) (N := 5) hx hb hts (fun _ h9 => List.mem_cons_of_mem _ (List.mem_append_right _ h9)) hown hK hP 0 rfl rfl 3 (by decide) (hts (.fieldLink RX7 21 "BuoyTender$Warnings" "cancelledOn" "[I") (by decide +kernel)) (fun _ h9 => h9) rfl dX7_isOutOn_11 ?_
  refine lv_iload_n hx hb dX7_isOutOn_14 rfl (lv_at hl 1 rfl) ?_
  refine va_iald hx hb hK hP 4 0 rfl rfl (vp_in_nI (by omega) (by decide)) dX7_isOutOn_15 ?_
  refine lv_topi (fun z_3 ez_3 => ?_)
  obtain rfl : z_3 = (av 12) j := ez_3.trans (congrArg (av 12) (nI_clamp (by omega)))
  refine lv_iconst (v := (-1)) hx hb dX7_isOutOn_16 (by decide) ?_
  refine lv_icmp_eq (tgt := 30) hx hb dX7_isOutOn_17 (by decide) (fun c_4 => ?_) (fun c_4 => ?_)
  · refine lv_iconst (v := 1) hx hb dX7_isOutOn_30 (by decide) ?_
    refine lv_goto (tgt := 35) hx hb dX7_isOutOn_31 (by decide) ?_
    exact W.zret (v := 1) hx hb hr rfl (fun t ht hW => ⟨1, rfl, (Or.inl ⟨rfl, Int32.not_lt.mp c_2, Or.inl c_4⟩), ht⟩) (fun _ h => by cases h) dX7_isOutOn_35
  refine lv_iload_n hx hb dX7_isOutOn_20 rfl (lv_at hl 2 rfl) ?_
  refine lv_aload_n hx hb dX7_isOutOn_21 rfl (lv_at hl 0 rfl) ?_
  refine va_get (D := D) (ci := 7) (v := .ref (a 12)) (C := RX7) (T := TX7) (N := 5) hx hb hts (fun _ h9 => List.mem_cons_of_mem _ (List.mem_append_right _ h9)) hown hK hP 0 rfl rfl 3 (by decide) (hts (.fieldLink RX7 21 "BuoyTender$Warnings" "cancelledOn" "[I") (by decide +kernel)) (fun _ h9 => h9) rfl dX7_isOutOn_22 ?_
  refine lv_iload_n hx hb dX7_isOutOn_25 rfl (lv_at hl 1 rfl) ?_
  refine va_iald hx hb hK hP 4 0 rfl rfl (vp_in_nI (by omega) (by decide)) dX7_isOutOn_26 ?_
  refine lv_topi (fun z_5 ez_5 => ?_)
  obtain rfl : z_5 = (av 12) j := ez_5.trans (congrArg (av 12) (nI_clamp (by omega)))
  refine lv_icmp_ge (tgt := 34) hx hb dX7_isOutOn_27 (by decide) (fun c_6 => ?_) (fun c_6 => ?_)
  · refine lv_iconst (v := 0) hx hb dX7_isOutOn_34 (by decide) ?_
    exact W.zret (v := 0) hx hb hr rfl (fun t ht hW => ⟨0, rfl, (Or.inr ⟨rfl, fun h9 => h9.2.elim (fun q => c_4 q) (fun q => Int32.not_le.mpr q c_6)⟩), ht⟩) (fun _ h => by cases h) dX7_isOutOn_35
  refine lv_iconst (v := 1) hx hb dX7_isOutOn_30 (by decide) ?_
  refine lv_goto (tgt := 35) hx hb dX7_isOutOn_31 (by decide) ?_
  exact W.zret (v := 1) hx hb hr rfl (fun t ht hW => ⟨1, rfl, (Or.inl ⟨rfl, Int32.not_lt.mp c_2, Or.inr (Int32.not_le.mp c_6)⟩), ht⟩) (fun _ h => by cases h) dX7_isOutOn_35
set_option maxHeartbeats 4000000 in
set_option maxRecDepth 100000 in
/-- in force on a day -/
theorem k_X9_isForce (l : Launch) (D : va_G) (cI cJ cZ cM : Nat) (h0 : Nat) (n : Nat → Nat) (mi : Nat → Int32) (mq : Nat → Int32) (mav : Nat → Nat → Int32) (j : Nat) (hj : j < 100) (x1 : Int32) : Met l yX9_isForce wsX9_isForce ({ frames := 0, cells := 0, slots := 0, locals := 0 } : Room) (RO D cI cJ cZ cM [.ref h0, .int (nI j), .int x1] [(h0, .inr (9, [.ref (n 0), .int (mi 1), .ref (n 2), .ref (n 3), .ref (n 4), .ref (n 5), .ref (n 6), .int (mi 7), .ref (n 8), .ref (n 9), .ref (n 10), .ref (n 11), .ref (n 12), .ref (n 13), .ref (n 14), .int (mi 15), .int (mi 16), .ref (n 17), .ref (n 18), .ref (n 19), .ref (n 20), .ref (n 21), .ref (n 22), .ref (n 23), .ref (n 24), .ref (n 25), .int (mi 26), .int (mi 27), .int (mi 28), .int (mi 29), .int (mi 30), .int (mi 31), .int (mi 32), .int (mi 33), .ref (n 34), .ref (n 35), .int (mq 36), .int (mq 37), .int (mq 38), .ref (n 39), .ref (n 40), .ref (n 41), .ref (n 42), .int (mq 43), .int (mq 44), .int (mq 45)])), (n 19, .inl (cI, 100, .inl (mav 19))), (n 20, .inl (cI, 100, .inl (mav 20)))]) (vp_Si (fun r => okI 1 0 (outM (mav 19) (mav 20) x1 j) r)) 0 0 (fun _ => False) := by
  refine Met.ofW (cc := cX9_isForce) (maxL := 3) (ret := (some .boolean)) (by decide) rfl ?_
  intro p e s m args below meth c s₁ B hml hv
  obtain ⟨rfl, hG, hP⟩ := hv
  have hx := B.exec
  have hb := B.bytes
  have hr := B.returns
  have hts := atoms_spec (ws := wsX9_isForce) B.pre
  have hown : s.vm.findClass RX9 = some m.cls := findClass_of_methodNamed B.named
  have hlocks := B.notSynchronized
  have hK := hG.1
  have hN := hG.2
  have hl := lv_entry ([.ref h0, .int (nI j), .int x1]) (n := 3) (Nat.le_of_ble_eq_true rfl)
  rw [lg_entry_eq]
  generalize (lg_sl ([.ref h0, .int (nI j), .int x1]) ++ List.replicate (3 - (lg_sl ([.ref h0, .int (nI j), .int x1])).length) Slot.unset).toArray = ls at hl ⊢
  have hl : lv_has ls 3 [(0, .ref h0), (1, .int (nI j)), (2, .int x1)] := hl
  refine lv_aload_n hx hb dX9_isForce_0 rfl (lv_at hl 0 rfl) ?_
  refine va_get (D := D) (ci := 9) (v := .ref (n 19)) (C := RX9) (T := TX9) (N := 46) hx hb hts (fun _ h9 => List.mem_cons_of_mem _ (List.mem_append_right _ h9)) hown hK hP 0 rfl rfl 19 (by decide) (hts (.fieldLink RX9 56 "BuoyTenderModel" "warnFrom" "[I") (by decide +kernel)) (fun _ h9 => h9) rfl dX9_isForce_1 ?_
  refine lv_iload_n hx hb dX9_isForce_4 rfl (lv_at hl 1 rfl) ?_
  refine va_iald hx hb hK hP 1 0 rfl rfl (vp_in_nI (by omega) (by decide)) dX9_isForce_5 ?_
  refine lv_topi (fun z_1 ez_1 => ?_)
  obtain rfl : z_1 = (mav 19) j := ez_1.trans (congrArg (mav 19) (nI_clamp (by omega)))
  refine lv_iload_n hx hb dX9_isForce_6 rfl (lv_at hl 2 rfl) ?_
  refine lv_icmp_gt (tgt := 33) hx hb dX9_isForce_7 (by decide) (fun c_2 => ?_) (fun c_2 => ?_)
  · refine lv_iconst (v := 0) hx hb dX9_isForce_33 (by decide) ?_
    exact W.zret (v := 0) hx hb hr rfl (fun t ht hW => ⟨0, rfl, (Or.inr ⟨rfl, fun h9 => Int32.not_lt.mpr h9.1 c_2⟩), ht⟩) (fun _ h => by cases h) dX9_isForce_34
  refine lv_aload_n hx hb dX9_isForce_10 rfl (lv_at hl 0 rfl) ?_
  refine va_get (D := D) (ci := 9) (v := .ref (n 20)) (C := RX9) (T := TX9) (N := 46) hx hb hts (fun _ h9 => List.mem_cons_of_mem _ (List.mem_append_right _ h9)) hown hK hP 0 rfl rfl 20 (by decide) (hts (.fieldLink RX9 59 "BuoyTenderModel" "warnTo" "[I") (by decide +kernel)) (fun _ h9 => h9) rfl dX9_isForce_11 ?_
  refine lv_iload_n hx hb dX9_isForce_14 rfl (lv_at hl 1 rfl) ?_
  refine va_iald hx hb hK hP 2 0 rfl rfl (vp_in_nI (by omega) (by decide)) dX9_isForce_15 ?_
  refine lv_topi (fun z_3 ez_3 => ?_)
  obtain rfl : z_3 = (mav 20) j := ez_3.trans (congrArg (mav 20) (nI_clamp (by omega)))
  refine lv_if_lt (tgt := 29) hx hb dX9_isForce_16 (by decide) (fun c_4 => ?_) (fun c_4 => ?_)
  · refine lv_iconst (v := 1) hx hb dX9_isForce_29 (by decide) ?_
    refine lv_goto (tgt := 34) hx hb dX9_isForce_30 (by decide) ?_
    exact W.zret (v := 1) hx hb hr rfl (fun t ht hW => ⟨1, rfl, (Or.inl ⟨rfl, Int32.not_lt.mp c_2, Or.inl c_4⟩), ht⟩) (fun _ h => by cases h) dX9_isForce_34
  refine lv_iload_n hx hb dX9_isForce_19 rfl (lv_at hl 2 rfl) ?_
  refine lv_aload_n hx hb dX9_isForce_20 rfl (lv_at hl 0 rfl) ?_
  refine va_get (D := D) (ci := 9) (v := .ref (n 20)) (C := RX9) (T := TX9) (N := 46) hx hb hts (fun _ h9 => List.mem_cons_of_mem _ (List.mem_append_right _ h9)) hown hK hP 0 rfl rfl 20 (by decide) (hts (.fieldLink RX9 59 "BuoyTenderModel" "warnTo" "[I") (by decide +kernel)) (fun _ h9 => h9) rfl dX9_isForce_21 ?_
  refine lv_iload_n hx hb dX9_isForce_24 rfl (lv_at hl 1 rfl) ?_
  refine va_iald hx hb hK hP 2 0 rfl rfl (vp_in_nI (by omega) (by decide)) dX9_isForce_25 ?_
  refine lv_topi (fun z_5 ez_5 => ?_)
  obtain rfl : z_5 = (mav 20) j := ez_5.trans (congrArg (mav 20) (nI_clamp (by omega)))
  refine lv_icmp_ge (tgt := 33) hx hb dX9_isForce_26 (by decide) (fun c_6 => ?_) (fun c_6 => ?_)
  · refine lv_iconst (v := 0) hx hb dX9_isForce_33 (by decide) ?_
    exact W.zret (v := 0) hx hb hr rfl (fun t ht hW => ⟨0, rfl, (Or.inr ⟨rfl, fun h9 => h9.2.elim (fun q => c_4 q) (fun q => Int32.not_le.mpr q c_6)⟩), ht⟩) (fun _ h => by cases h) dX9_isForce_34
  refine lv_iconst (v := 1) hx hb dX9_isForce_29 (by decide) ?_
  refine lv_goto (tgt := 34) hx hb dX9_isForce_30 (by decide) ?_
  exact W.zret (v := 1) hx hb hr rfl (fun t ht hW => ⟨1, rfl, (Or.inl ⟨rfl, Int32.not_lt.mp c_2, Or.inr (Int32.not_le.mp c_6)⟩), ht⟩) (fun _ h => by cases h) dX9_isForce_34
