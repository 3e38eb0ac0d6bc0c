def MPok (n0 : Nat) (mi : Nat → Int32) (mav : Nat → Nat → Int32) (px py pm : Nat → Nat) (sx sy pc lst : Nat) : Prop := n0 ≤ 10 ∧ mi 1 = nI n0 ∧ mi 30 = nI sx ∧ mi 31 = nI sy ∧ mi 26 = nI pc ∧ mi 33 = nI lst ∧ sx ≤ 39 ∧ sy ≤ 39 ∧ pc ≤ 60 ∧ lst ≤ 1440 ∧ ∀ i, i < n0 → mav 2 i = nI (px i) ∧ mav 3 i = nI (py i) ∧ mav 21 i = nI (pm i) ∧ px i ≤ 39 ∧ py i ≤ 39 ∧ pm i ≤ 600
def xo (f : Nat → Nat) (s : Nat) : Option Nat → Nat
  | none => s
  | some i => f i
/-- the way from one to another in minutes -/
def wayN (px py : Nat → Nat) (sx sy pc : Nat) (a b : Option Nat) : Nat := pc * max (ad (xo px sx a) (xo px sx b)) (ad (xo py sy a) (xo py sy b))
/-- may mark m begin in the hour h -/
def opM_ (mi : Nat → Int32) (mav : Nat → Nat → Int32) (px py : Nat → Nat) (m h : Nat) : Prop := mi 27 ≤ (mav 0) ((40 * (px m)) + (py m)) + (mav 24) h ∧ (mav 25) h ≤ mi 28
set_option maxHeartbeats 4000000 in
set_option maxRecDepth 100000 in
/-- the greater -/
theorem k_X9_greater (l : Launch) (y1 : Nat) (y2 : Nat) (g1 : y1 < 2 ^ 31) (g2 : y2 < 2 ^ 31) : Met l yX9_greater wsX9_greater ({ frames := 0, cells := 0, slots := 0, locals := 0 } : Room) (fun av9 _ => av9 = ([.int (nI y1), .int (nI y2)] : List Value).toArray) (vp_Si (fun r => r = nI (max y1 y2))) 0 0 (fun _ => False) := by
  refine Met.ofW (cc := cX9_greater) (maxL := 2) (ret := (some .int)) (by decide) rfl ?_
  intro p e s m args below meth c s₁ B hml hv
  obtain rfl := hv
  have hx := B.exec
  have hb := B.bytes
  have hr := B.returns
  have hts := atoms_spec (ws := wsX9_greater) B.pre
  have hown : s.vm.findClass RX9 = some m.cls := findClass_of_methodNamed B.named
  have hlocks := B.notSynchronized
  have hl := lv_entry ([.int (nI y1), .int (nI y2)]) (n := 2) (Nat.le_of_ble_eq_true rfl)
  rw [lg_entry_eq]
  generalize (lg_sl ([.int (nI y1), .int (nI y2)]) ++ List.replicate (2 - (lg_sl ([.int (nI y1), .int (nI y2)])).length) Slot.unset).toArray = ls at hl ⊢
  have hl : lv_has ls 2 [(0, .int (nI y1)), (1, .int (nI y2))] := hl
  refine lv_iload_n hx hb dX9_greater_0 rfl (lv_at hl 0 rfl) ?_
  refine lv_iload_n hx hb dX9_greater_1 rfl (lv_at hl 1 rfl) ?_
  refine lv_icmp_le (tgt := 9) hx hb dX9_greater_2 (by decide) (fun c_1 => ?_) (fun c_1 => ?_)
  · refine lv_iload_n hx hb dX9_greater_9 rfl (lv_at hl 1 rfl) ?_
    exact W.iret (v := (nI y2)) hx hb hr (fun t ht hW => ⟨(nI y2), rfl, (by have := (nI_leI g1 g2).mp c_1; rw [Nat.max_eq_right this]), ht⟩) (fun _ h => by cases h) dX9_greater_10
  refine lv_iload_n hx hb dX9_greater_5 rfl (lv_at hl 0 rfl) ?_
  refine lv_goto (tgt := 10) hx hb dX9_greater_6 (by decide) ?_
  exact W.iret (v := (nI y1)) hx hb hr (fun t ht hW => ⟨(nI y1), rfl, (by rw [Nat.max_eq_left (Nat.le_of_not_le (fun q => c_1 ((nI_leI g1 g2).mpr q)))]), ht⟩) (fun _ h => by cases h) dX9_greater_10
set_option maxHeartbeats 4000000 in
set_option maxRecDepth 100000 in
/-- the way in minutes -/
theorem k_X9_way_ss (l : Launch) (D : va_G) (cI cJ cZ cM : Nat) (h0 : Nat) (n : Nat → Nat) (mi : Nat → Int32) (mq : Nat → Int32) (mav : Nat → Nat → Int32) (n0 : Nat) (px : Nat → Nat) (py : Nat → Nat) (pm : Nat → Nat) (sx : Nat) (sy : Nat) (pc : Nat) (lst : Nat) (hmp : MPok n0 mi mav px py pm sx sy pc lst) (i : Nat) (hi : i < n0) (j : Nat) (hj : j < n0) : Met l yX9_way wsX9_way ({ frames := 1, cells := 0, slots := 0, locals := 21 } : Room) (RO D cI cJ cZ cM [.ref h0, .int (nI i), .int (nI j)] [(h0, .inr (9, [.ref (n 0), .int (mi 1), .ref (n 2), .ref (n 3), .ref (n 4), .ref (n 5), .ref (n 6), .int (mi 7), .ref (n 8), .ref (n 9), .ref (n 10), .ref (n 11), .ref (n 12), .ref (n 13), .ref (n 14), .int (mi 15), .int (mi 16), .ref (n 17), .ref (n 18), .ref (n 19), .ref (n 20), .ref (n 21), .ref (n 22), .ref (n 23), .ref (n 24), .ref (n 25), .int (mi 26), .int (mi 27), .int (mi 28), .int (mi 29), .int (mi 30), .int (mi 31), .int (mi 32), .int (mi 33), .ref (n 34), .ref (n 35), .int (mq 36), .int (mq 37), .int (mq 38), .ref (n 39), .ref (n 40), .ref (n 41), .ref (n 42), .int (mq 43), .int (mq 44), .int (mq 45)])), (n 2, .inl (cI, 10, .inl (mav 2))), (n 3, .inl (cI, 10, .inl (mav 3)))]) (vp_Si (fun r => r = nI (wayN px py sx sy pc (some i) (some j)))) 0 0 (fun _ => False) := by
  refine Met.ofW (cc := cX9_way) (maxL := 5) (ret := (some .int)) (by decide) rfl ?_
  intro p e s m args below meth c s₁ B hml hv
  obtain ⟨rfl, hG, hP⟩ := hv
  have hx := B.exec
  have hb := B.bytes
  have hr := B.returns
  have hts := atoms_spec (ws := wsX9_way) B.pre
  have hown : s.vm.findClass RX9 = some m.cls := findClass_of_methodNamed B.named
  have hlocks := B.notSynchronized
  have hK := hG.1
  have hN := hG.2
  have hl := lv_entry ([.ref h0, .int (nI i), .int (nI j)]) (n := 5) (Nat.le_of_ble_eq_true rfl)
  rw [lg_entry_eq]
  generalize (lg_sl ([.ref h0, .int (nI i), .int (nI j)]) ++ List.replicate (5 - (lg_sl ([.ref h0, .int (nI i), .int (nI j)])).length) Slot.unset).toArray = ls at hl ⊢
  have hl : lv_has ls 5 [(0, .ref h0), (1, .int (nI i)), (2, .int (nI j))] := hl
  obtain ⟨hn0, h_n, h_sx, h_sy, h_pc, h_la, b_sx, b_sy, b_pc, b_la, h_mk⟩ := id hmp
  obtain ⟨hx_i, hy_i, hm_i, bx_i, by_i, bm_i⟩ := h_mk i hi
  obtain ⟨hx_j, hy_j, hm_j, bx_j, by_j, bm_j⟩ := h_mk j hj
  have bax := fun (p q : Nat) (h1 : p ≤ 39) (h2 : q ≤ 39) => ad_le h1 h2
  refine lv_iload_n hx hb dX9_way_0 rfl (lv_at hl 1 rfl) ?_
  refine lv_if_ge (tgt := 11) hx hb dX9_way_1 (by decide) (fun c_1 => ?_) (fun c_1 => absurd (nI_pos' (by omega)) c_1)
  refine lv_aload_n hx hb dX9_way_11 rfl (lv_at hl 0 rfl) ?_
  refine va_get (D := D) (ci := 9) (v := .ref (n 2)) (C := RX9) (T := TX9) (N := 46) hx hb hts (fun _ h9 => List.mem_cons_of_mem _ (List.mem_append_right _ h9)) hown hK hP 0 rfl rfl 2 (by decide) (hts (.fieldLink RX9 13 "BuoyTenderModel" "stationX" "[I") (by decide +kernel)) (fun _ h9 => h9) rfl dX9_way_12 ?_
  refine lv_iload_n hx hb dX9_way_15 rfl (lv_at hl 1 rfl) ?_
  refine va_iald hx hb hK hP 1 0 rfl rfl (vp_in_nI (by omega) (by decide)) dX9_way_16 ?_
  refine lv_topi (fun z_2 ez_2 => ?_)
  obtain rfl : z_2 = (mav 2) i := ez_2.trans (congrArg (mav 2) (nI_clamp (by omega)))
  refine lv_topi (fun z_3 ez_3 => ?_)
  obtain rfl : z_3 = nI (px i) := ez_3.trans hx_i
  refine lv_iload_n hx hb dX9_way_17 rfl (lv_at hl 2 rfl) ?_
  refine lv_if_ge (tgt := 28) hx hb dX9_way_18 (by decide) (fun c_4 => ?_) (fun c_4 => absurd (nI_pos' (by omega)) c_4)
  refine lv_aload_n hx hb dX9_way_28 rfl (lv_at hl 0 rfl) ?_
  refine va_get (D := D) (ci := 9) (v := .ref (n 2)) (C := RX9) (T := TX9) (N := 46) hx hb hts (fun _ h9 => List.mem_cons_of_mem _ (List.mem_append_right _ h9)) hown hK hP 0 rfl rfl 2 (by decide) (hts (.fieldLink RX9 13 "BuoyTenderModel" "stationX" "[I") (by decide +kernel)) (fun _ h9 => h9) rfl dX9_way_29 ?_
  refine lv_iload_n hx hb dX9_way_32 rfl (lv_at hl 2 rfl) ?_
  refine va_iald hx hb hK hP 1 0 rfl rfl (vp_in_nI (by omega) (by decide)) dX9_way_33 ?_
  refine lv_topi (fun z_5 ez_5 => ?_)
  obtain rfl : z_5 = (mav 2) j := ez_5.trans (congrArg (mav 2) (nI_clamp (by omega)))
  refine lv_topi (fun z_6 ez_6 => ?_)
  obtain rfl : z_6 = nI (px j) := ez_6.trans hx_j
  refine lv_isub hx hb dX9_way_34 ?_
  refine lv_istore_n (lv' := [(3, .int ((nI (px i)) - (nI (px j)))), (0, .ref h0), (1, .int (nI i)), (2, .int (nI j))]) hx hb dX9_way_35 rfl hl (by decide) rfl (fun ls hl => ?_)
  refine lv_iload_n hx hb dX9_way_36 rfl (lv_at hl 2 rfl) ?_
  refine lv_if_ge (tgt := 47) hx hb dX9_way_37 (by decide) (fun c_7 => ?_) (fun c_7 => absurd (nI_pos' (by omega)) c_7)
  refine lv_aload_n hx hb dX9_way_47 rfl (lv_at hl 1 rfl) ?_
  refine va_get (D := D) (ci := 9) (v := .ref (n 3)) (C := RX9) (T := TX9) (N := 46) hx hb hts (fun _ h9 => List.mem_cons_of_mem _ (List.mem_append_right _ h9)) hown hK hP 0 rfl rfl 3 (by decide) (hts (.fieldLink RX9 16 "BuoyTenderModel" "stationY" "[I") (by decide +kernel)) (fun _ h9 => h9) rfl dX9_way_48 ?_
  refine lv_iload_n hx hb dX9_way_51 rfl (lv_at hl 2 rfl) ?_
  refine va_iald hx hb hK hP 2 0 rfl rfl (vp_in_nI (by omega) (by decide)) dX9_way_52 ?_
  refine lv_topi (fun z_8 ez_8 => ?_)
  obtain rfl : z_8 = (mav 3) i := ez_8.trans (congrArg (mav 3) (nI_clamp (by omega)))
  refine lv_topi (fun z_9 ez_9 => ?_)
  obtain rfl : z_9 = nI (py i) := ez_9.trans hy_i
  refine lv_iload_n hx hb dX9_way_53 rfl (lv_at hl 3 rfl) ?_
  refine lv_if_ge (tgt := 64) hx hb dX9_way_54 (by decide) (fun c_10 => ?_) (fun c_10 => absurd (nI_pos' (by omega)) c_10)
  refine lv_aload_n hx hb dX9_way_64 rfl (lv_at hl 1 rfl) ?_
  refine va_get (D := D) (ci := 9) (v := .ref (n 3)) (C := RX9) (T := TX9) (N := 46) hx hb hts (fun _ h9 => List.mem_cons_of_mem _ (List.mem_append_right _ h9)) hown hK hP 0 rfl rfl 3 (by decide) (hts (.fieldLink RX9 16 "BuoyTenderModel" "stationY" "[I") (by decide +kernel)) (fun _ h9 => h9) rfl dX9_way_65 ?_
  refine lv_iload_n hx hb dX9_way_68 rfl (lv_at hl 3 rfl) ?_
  refine va_iald hx hb hK hP 2 0 rfl rfl (vp_in_nI (by omega) (by decide)) dX9_way_69 ?_
  refine lv_topi (fun z_11 ez_11 => ?_)
  obtain rfl : z_11 = (mav 3) j := ez_11.trans (congrArg (mav 3) (nI_clamp (by omega)))
  refine lv_topi (fun z_12 ez_12 => ?_)
  obtain rfl : z_12 = nI (py j) := ez_12.trans hy_j
  refine lv_isub hx hb dX9_way_70 ?_
  refine lv_istore (lv' := [(4, .int ((nI (py i)) - (nI (py j)))), (3, .int ((nI (px i)) - (nI (px j)))), (0, .ref h0), (1, .int (nI i)), (2, .int (nI j))]) hx hb dX9_way_71 hl (by decide) rfl (fun ls hl => ?_)
  refine lv_aload_n hx hb dX9_way_73 rfl (lv_at hl 2 rfl) ?_
  refine va_get (D := D) (ci := 9) (v := .int (mi 26)) (C := RX9) (T := TX9) (N := 46) hx hb hts (fun _ h9 => List.mem_cons_of_mem _ (List.mem_append_right _ h9)) hown hK hP 0 rfl rfl 26 (by decide) (hts (.fieldLink RX9 77 "BuoyTenderModel" "pace" "I") (by decide +kernel)) (fun _ h9 => h9) rfl dX9_way_74 ?_
  refine lv_topi (fun z_13 ez_13 => ?_)
  obtain rfl : z_13 = nI pc := ez_13.trans h_pc
  refine lv_iload_n hx hb dX9_way_77 rfl (lv_at hl 1 rfl) ?_
  refine lv_if_ge (tgt := 86) hx hb dX9_way_78 (by decide) (fun c_14 => ?_) (fun c_14 => ?_)
  · refine lv_iload_n hx hb dX9_way_86 rfl (lv_at hl 1 rfl) ?_
    refine lv_topi (fun z_15 ez_15 => ?_)
    obtain rfl : z_15 = nI (ad (px i) (px j)) := ez_15.trans (ad_pos (by omega) (by omega) c_14)
    refine lv_iload hx hb dX9_way_87 (lv_at hl 0 rfl) ?_
    refine lv_if_ge (tgt := 98) hx hb dX9_way_89 (by decide) (fun c_16 => ?_) (fun c_16 => ?_)
    · refine lv_iload hx hb dX9_way_98 (lv_at hl 0 rfl) ?_
      refine lv_topi (fun z_17 ez_17 => ?_)
      obtain rfl : z_17 = nI (ad (py i) (py j)) := ez_17.trans (ad_pos (by omega) (by omega) c_16)
      refine vp_callSi (va_Run.run (va_runS (As := [.int (nI (ad (px i) (px j))), .int (nI (ad (py i) (py j)))]) (rest := [.int (nI pc)]) ⟨hx, hb, hml, hown, hts⟩ (k_X9_greater l (ad (px i) (px j)) (ad (py i) (py j)) (by unfold ad; omega) (by unfold ad; omega)) (va_cwS 2 hts gX9_way_X9_greater rfl rfl rfl (by decide +kernel) ⟨Nat.le_of_ble_eq_true rfl, Nat.le_of_ble_eq_true rfl⟩) preEq rfl rfl hl.1 rfl (lv_room (Nat.le_of_ble_eq_true rfl)) dX9_way_100 ⟨Nat.le_of_ble_eq_true rfl, Nat.le_of_ble_eq_true rfl⟩)) (fun r_18 h_18 => ?_)
      obtain rfl : r_18 = nI (max (ad (px i) (px j)) (ad (py i) (py j))) := h_18
      refine lv_imul hx hb dX9_way_103 ?_
      refine lv_topi (fun z_19 ez_19 => ?_)
      obtain rfl : z_19 = nI (pc * (max (ad (px i) (px j)) (ad (py i) (py j)))) := ez_19.trans (pk_mul pc (max (ad (px i) (px j)) (ad (py i) (py j))))
      exact W.iret (v := (nI (pc * (max (ad (px i) (px j)) (ad (py i) (py j)))))) hx hb hr (fun t ht hW => ⟨(nI (pc * (max (ad (px i) (px j)) (ad (py i) (py j))))), rfl, rfl, ht⟩) (fun _ h => by cases h) dX9_way_104
    refine lv_iload hx hb dX9_way_92 (lv_at hl 0 rfl) ?_
    refine lv_ineg hx hb dX9_way_94 ?_
    refine lv_goto (tgt := 100) hx hb dX9_way_95 (by decide) ?_
    refine lv_topi (fun z_20 ez_20 => ?_)
    obtain rfl : z_20 = nI (ad (py i) (py j)) := ez_20.trans (ad_neg (by omega) (by omega) c_16)
    refine vp_callSi (va_Run.run (va_runS (As := [.int (nI (ad (px i) (px j))), .int (nI (ad (py i) (py j)))]) (rest := [.int (nI pc)]) ⟨hx, hb, hml, hown, hts⟩ (k_X9_greater l (ad (px i) (px j)) (ad (py i) (py j)) (by unfold ad; omega) (by unfold ad; omega)) (va_cwS 2 hts gX9_way_X9_greater rfl rfl rfl (by decide +kernel) ⟨Nat.le_of_ble_eq_true rfl, Nat.le_of_ble_eq_true rfl⟩) preEq rfl rfl hl.1 rfl (lv_room (Nat.le_of_ble_eq_true rfl)) dX9_way_100 ⟨Nat.le_of_ble_eq_true rfl, Nat.le_of_ble_eq_true rfl⟩)) (fun r_21 h_21 => ?_)
    obtain rfl : r_21 = nI (max (ad (px i) (px j)) (ad (py i) (py j))) := h_21
    refine lv_imul hx hb dX9_way_103 ?_
    refine lv_topi (fun z_22 ez_22 => ?_)
    obtain rfl : z_22 = nI (pc * (max (ad (px i) (px j)) (ad (py i) (py j)))) := ez_22.trans (pk_mul pc (max (ad (px i) (px j)) (ad (py i) (py j))))
    exact W.iret (v := (nI (pc * (max (ad (px i) (px j)) (ad (py i) (py j)))))) hx hb hr (fun t ht hW => ⟨(nI (pc * (max (ad (px i) (px j)) (ad (py i) (py j))))), rfl, rfl, ht⟩) (fun _ h => by cases h) dX9_way_104
  refine lv_iload_n hx hb dX9_way_81 rfl (lv_at hl 1 rfl) ?_
  refine lv_ineg hx hb dX9_way_82 ?_
  refine lv_goto (tgt := 87) hx hb dX9_way_83 (by decide) ?_
  refine lv_topi (fun z_23 ez_23 => ?_)
  obtain rfl : z_23 = nI (ad (px i) (px j)) := ez_23.trans (ad_neg (by omega) (by omega) c_14)
  refine lv_iload hx hb dX9_way_87 (lv_at hl 0 rfl) ?_
  refine lv_if_ge (tgt := 98) hx hb dX9_way_89 (by decide) (fun c_24 => ?_) (fun c_24 => ?_)
  · refine lv_iload hx hb dX9_way_98 (lv_at hl 0 rfl) ?_
    refine lv_topi (fun z_25 ez_25 => ?_)
    obtain rfl : z_25 = nI (ad (py i) (py j)) := ez_25.trans (ad_pos (by omega) (by omega) c_24)
    refine vp_callSi (va_Run.run (va_runS (As := [.int (nI (ad (px i) (px j))), .int (nI (ad (py i) (py j)))]) (rest := [.int (nI pc)]) ⟨hx, hb, hml, hown, hts⟩ (k_X9_greater l (ad (px i) (px j)) (ad (py i) (py j)) (by unfold ad; omega) (by unfold ad; omega)) (va_cwS 2 hts gX9_way_X9_greater rfl rfl rfl (by decide +kernel) ⟨Nat.le_of_ble_eq_true rfl, Nat.le_of_ble_eq_true rfl⟩) preEq rfl rfl hl.1 rfl (lv_room (Nat.le_of_ble_eq_true rfl)) dX9_way_100 ⟨Nat.le_of_ble_eq_true rfl, Nat.le_of_ble_eq_true rfl⟩)) (fun r_26 h_26 => ?_)
    obtain rfl : r_26 = nI (max (ad (px i) (px j)) (ad (py i) (py j))) := h_26
    refine lv_imul hx hb dX9_way_103 ?_
    refine lv_topi (fun z_27 ez_27 => ?_)
    obtain rfl : z_27 = nI (pc * (max (ad (px i) (px j)) (ad (py i) (py j)))) := ez_27.trans (pk_mul pc (max (ad (px i) (px j)) (ad (py i) (py j))))
    exact W.iret (v := (nI (pc * (max (ad (px i) (px j)) (ad (py i) (py j)))))) hx hb hr (fun t ht hW => ⟨(nI (pc * (max (ad (px i) (px j)) (ad (py i) (py j))))), rfl, rfl, ht⟩) (fun _ h => by cases h) dX9_way_104
  refine lv_iload hx hb dX9_way_92 (lv_at hl 0 rfl) ?_
  refine lv_ineg hx hb dX9_way_94 ?_
  refine lv_goto (tgt := 100) hx hb dX9_way_95 (by decide) ?_
  refine lv_topi (fun z_28 ez_28 => ?_)
  obtain rfl : z_28 = nI (ad (py i) (py j)) := ez_28.trans (ad_neg (by omega) (by omega) c_24)
  refine vp_callSi (va_Run.run (va_runS (As := [.int (nI (ad (px i) (px j))), .int (nI (ad (py i) (py j)))]) (rest := [.int (nI pc)]) ⟨hx, hb, hml, hown, hts⟩ (k_X9_greater l (ad (px i) (px j)) (ad (py i) (py j)) (by unfold ad; omega) (by unfold ad; omega)) (va_cwS 2 hts gX9_way_X9_greater rfl rfl rfl (by decide +kernel) ⟨Nat.le_of_ble_eq_true rfl, Nat.le_of_ble_eq_true rfl⟩) preEq rfl rfl hl.1 rfl (lv_room (Nat.le_of_ble_eq_true rfl)) dX9_way_100 ⟨Nat.le_of_ble_eq_true rfl, Nat.le_of_ble_eq_true rfl⟩)) (fun r_29 h_29 => ?_)
  obtain rfl : r_29 = nI (max (ad (px i) (px j)) (ad (py i) (py j))) := h_29
  refine lv_imul hx hb dX9_way_103 ?_
  refine lv_topi (fun z_30 ez_30 => ?_)
  obtain rfl : z_30 = nI (pc * (max (ad (px i) (px j)) (ad (py i) (py j)))) := ez_30.trans (pk_mul pc (max (ad (px i) (px j)) (ad (py i) (py j))))
  exact W.iret (v := (nI (pc * (max (ad (px i) (px j)) (ad (py i) (py j)))))) hx hb hr (fun t ht hW => ⟨(nI (pc * (max (ad (px i) (px j)) (ad (py i) (py j))))), rfl, rfl, ht⟩) (fun _ h => by cases h) dX9_way_104
set_option maxHeartbeats 4000000 in
set_option maxRecDepth 100000 in
/-- the way in minutes -/
theorem k_X9_way_sn (l : Launch) (D : va_G) (cI cJ cZ cM : Nat) (h0 : Nat) (n : Nat → Nat) (mi : Nat → Int32) (mq : Nat → Int32) (mav : Nat → Nat → Int32) (n0 : Nat) (px : Nat → Nat) (py : Nat → Nat) (pm : Nat → Nat) (sx : Nat) (sy : Nat) (pc : Nat) (lst : Nat) (hmp : MPok n0 mi mav px py pm sx sy pc lst) (i : Nat) (hi : i < n0) : Met l yX9_way wsX9_way ({ frames := 1, cells := 0, slots := 0, locals := 21 } : Room) (RO D cI cJ cZ cM [.ref h0, .int (nI i), .int (-1)] [(h0, .inr (9, [.ref (n 0), .int (mi 1), .ref (n 2), .ref (n 3), .ref (n 4), .ref (n 5), .ref (n 6), .int (mi 7), .ref (n 8), .ref (n 9), .ref (n 10), .ref (n 11), .ref (n 12), .ref (n 13), .ref (n 14), .int (mi 15), .int (mi 16), .ref (n 17), .ref (n 18), .ref (n 19), .ref (n 20), .ref (n 21), .ref (n 22), .ref (n 23), .ref (n 24), .ref (n 25), .int (mi 26), .int (mi 27), .int (mi 28), .int (mi 29), .int (mi 30), .int (mi 31), .int (mi 32), .int (mi 33), .ref (n 34), .ref (n 35), .int (mq 36), .int (mq 37), .int (mq 38), .ref (n 39), .ref (n 40), .ref (n 41), .ref (n 42), .int (mq 43), .int (mq 44), .int (mq 45)])), (n 2, .inl (cI, 10, .inl (mav 2))), (n 3, .inl (cI, 10, .inl (mav 3)))]) (vp_Si (fun r => r = nI (wayN px py sx sy pc (some i) none))) 0 0 (fun _ => False) := by
  refine Met.ofW (cc := cX9_way) (maxL := 5) (ret := (some .int)) (by decide) rfl ?_
  intro p e s m args below meth c s₁ B hml hv
  obtain ⟨rfl, hG, hP⟩ := hv
  have hx := B.exec
  have hb := B.bytes
  have hr := B.returns
  have hts := atoms_spec (ws := wsX9_way) B.pre
  have hown : s.vm.findClass RX9 = some m.cls := findClass_of_methodNamed B.named
  have hlocks := B.notSynchronized
  have hK := hG.1
  have hN := hG.2
  have hl := lv_entry ([.ref h0, .int (nI i), .int (-1)]) (n := 5) (Nat.le_of_ble_eq_true rfl)
  rw [lg_entry_eq]
  generalize (lg_sl ([.ref h0, .int (nI i), .int (-1)]) ++ List.replicate (5 - (lg_sl ([.ref h0, .int (nI i), .int (-1)])).length) Slot.unset).toArray = ls at hl ⊢
  have hl : lv_has ls 5 [(0, .ref h0), (1, .int (nI i)), (2, .int (-1))] := hl
  obtain ⟨hn0, h_n, h_sx, h_sy, h_pc, h_la, b_sx, b_sy, b_pc, b_la, h_mk⟩ := id hmp
  obtain ⟨hx_i, hy_i, hm_i, bx_i, by_i, bm_i⟩ := h_mk i hi
  have bax := fun (p q : Nat) (h1 : p ≤ 39) (h2 : q ≤ 39) => ad_le h1 h2
  refine lv_iload_n hx hb dX9_way_0 rfl (lv_at hl 1 rfl) ?_
  refine lv_if_ge (tgt := 11) hx hb dX9_way_1 (by decide) (fun c_1 => ?_) (fun c_1 => absurd (nI_pos' (by omega)) c_1)
  refine lv_aload_n hx hb dX9_way_11 rfl (lv_at hl 0 rfl) ?_
  refine va_get (D := D) (ci := 9) (v := .ref (n 2)) (C := RX9) (T := TX9) (N := 46) hx hb hts (fun _ h9 => List.mem_cons_of_mem _ (List.mem_append_right _ h9)) hown hK hP 0 rfl rfl 2 (by decide) (hts (.fieldLink RX9 13 "BuoyTenderModel" "stationX" "[I") (by decide +kernel)) (fun _ h9 => h9) rfl dX9_way_12 ?_
  refine lv_iload_n hx hb dX9_way_15 rfl (lv_at hl 1 rfl) ?_
  refine va_iald hx hb hK hP 1 0 rfl rfl (vp_in_nI (by omega) (by decide)) dX9_way_16 ?_
  refine lv_topi (fun z_2 ez_2 => ?_)
  obtain rfl : z_2 = (mav 2) i := ez_2.trans (congrArg (mav 2) (nI_clamp (by omega)))
  refine lv_topi (fun z_3 ez_3 => ?_)
  obtain rfl : z_3 = nI (px i) := ez_3.trans hx_i
  refine lv_iload_n hx hb dX9_way_17 rfl (lv_at hl 2 rfl) ?_
  refine lv_if_ge (tgt := 28) hx hb dX9_way_18 (by decide) (fun c_4 => False.elim (by revert c_4; decide)) (fun _ => ?_)
  refine lv_aload_n hx hb dX9_way_21 rfl (lv_at hl 0 rfl) ?_
  refine va_get (D := D) (ci := 9) (v := .int (mi 30)) (C := RX9) (T := TX9) (N := 46) hx hb hts (fun _ h9 => List.mem_cons_of_mem _ (List.mem_append_right _ h9)) hown hK hP 0 rfl rfl 30 (by decide) (hts (.fieldLink RX9 158 "BuoyTenderModel" "shipX" "I") (by decide +kernel)) (fun _ h9 => h9) rfl dX9_way_22 ?_
  refine lv_topi (fun z_5 ez_5 => ?_)
  obtain rfl : z_5 = nI sx := ez_5.trans h_sx
  refine lv_goto (tgt := 34) hx hb dX9_way_25 (by decide) ?_
  refine lv_isub hx hb dX9_way_34 ?_
  refine lv_istore_n (lv' := [(3, .int ((nI (px i)) - (nI sx))), (0, .ref h0), (1, .int (nI i)), (2, .int (-1))]) hx hb dX9_way_35 rfl hl (by decide) rfl (fun ls hl => ?_)
  refine lv_iload_n hx hb dX9_way_36 rfl (lv_at hl 2 rfl) ?_
  refine lv_if_ge (tgt := 47) hx hb dX9_way_37 (by decide) (fun c_6 => ?_) (fun c_6 => absurd (nI_pos' (by omega)) c_6)
  refine lv_aload_n hx hb dX9_way_47 rfl (lv_at hl 1 rfl) ?_
  refine va_get (D := D) (ci := 9) (v := .ref (n 3)) (C := RX9) (T := TX9) (N := 46) hx hb hts (fun _ h9 => List.mem_cons_of_mem _ (List.mem_append_right _ h9)) hown hK hP 0 rfl rfl 3 (by decide) (hts (.fieldLink RX9 16 "BuoyTenderModel" "stationY" "[I") (by decide +kernel)) (fun _ h9 => h9) rfl dX9_way_48 ?_
  refine lv_iload_n hx hb dX9_way_51 rfl (lv_at hl 2 rfl) ?_
  refine va_iald hx hb hK hP 2 0 rfl rfl (vp_in_nI (by omega) (by decide)) dX9_way_52 ?_
  refine lv_topi (fun z_7 ez_7 => ?_)
  obtain rfl : z_7 = (mav 3) i := ez_7.trans (congrArg (mav 3) (nI_clamp (by omega)))
  refine lv_topi (fun z_8 ez_8 => ?_)
  obtain rfl : z_8 = nI (py i) := ez_8.trans hy_i
  refine lv_iload_n hx hb dX9_way_53 rfl (lv_at hl 3 rfl) ?_
  refine lv_if_ge (tgt := 64) hx hb dX9_way_54 (by decide) (fun c_9 => False.elim (by revert c_9; decide)) (fun _ => ?_)
  refine lv_aload_n hx hb dX9_way_57 rfl (lv_at hl 1 rfl) ?_
  refine va_get (D := D) (ci := 9) (v := .int (mi 31)) (C := RX9) (T := TX9) (N := 46) hx hb hts (fun _ h9 => List.mem_cons_of_mem _ (List.mem_append_right _ h9)) hown hK hP 0 rfl rfl 31 (by decide) (hts (.fieldLink RX9 161 "BuoyTenderModel" "shipY" "I") (by decide +kernel)) (fun _ h9 => h9) rfl dX9_way_58 ?_
  refine lv_topi (fun z_10 ez_10 => ?_)
  obtain rfl : z_10 = nI sy := ez_10.trans h_sy
  refine lv_goto (tgt := 70) hx hb dX9_way_61 (by decide) ?_
  refine lv_isub hx hb dX9_way_70 ?_
  refine lv_istore (lv' := [(4, .int ((nI (py i)) - (nI sy))), (3, .int ((nI (px i)) - (nI sx))), (0, .ref h0), (1, .int (nI i)), (2, .int (-1))]) hx hb dX9_way_71 hl (by decide) rfl (fun ls hl => ?_)
  refine lv_aload_n hx hb dX9_way_73 rfl (lv_at hl 2 rfl) ?_
  refine va_get (D := D) (ci := 9) (v := .int (mi 26)) (C := RX9) (T := TX9) (N := 46) hx hb hts (fun _ h9 => List.mem_cons_of_mem _ (List.mem_append_right _ h9)) hown hK hP 0 rfl rfl 26 (by decide) (hts (.fieldLink RX9 77 "BuoyTenderModel" "pace" "I") (by decide +kernel)) (fun _ h9 => h9) rfl dX9_way_74 ?_
  refine lv_topi (fun z_11 ez_11 => ?_)
  obtain rfl : z_11 = nI pc := ez_11.trans h_pc
  refine lv_iload_n hx hb dX9_way_77 rfl (lv_at hl 1 rfl) ?_
  refine lv_if_ge (tgt := 86) hx hb dX9_way_78 (by decide) (fun c_12 => ?_) (fun c_12 => ?_)
  · refine lv_iload_n hx hb dX9_way_86 rfl (lv_at hl 1 rfl) ?_
    refine lv_topi (fun z_13 ez_13 => ?_)
    obtain rfl : z_13 = nI (ad (px i) sx) := ez_13.trans (ad_pos (by omega) (by omega) c_12)
    refine lv_iload hx hb dX9_way_87 (lv_at hl 0 rfl) ?_
    refine lv_if_ge (tgt := 98) hx hb dX9_way_89 (by decide) (fun c_14 => ?_) (fun c_14 => ?_)
    · refine lv_iload hx hb dX9_way_98 (lv_at hl 0 rfl) ?_
      refine lv_topi (fun z_15 ez_15 => ?_)
      obtain rfl : z_15 = nI (ad (py i) sy) := ez_15.trans (ad_pos (by omega) (by omega) c_14)
      refine vp_callSi (va_Run.run (va_runS (As := [.int (nI (ad (px i) sx)), .int (nI (ad (py i) sy))]) (rest := [.int (nI pc)]) ⟨hx, hb, hml, hown, hts⟩ (k_X9_greater l (ad (px i) sx) (ad (py i) sy) (by unfold ad; omega) (by unfold ad; omega)) (va_cwS 2 hts gX9_way_X9_greater rfl rfl rfl (by decide +kernel) ⟨Nat.le_of_ble_eq_true rfl, Nat.le_of_ble_eq_true rfl⟩) preEq rfl rfl hl.1 rfl (lv_room (Nat.le_of_ble_eq_true rfl)) dX9_way_100 ⟨Nat.le_of_ble_eq_true rfl, Nat.le_of_ble_eq_true rfl⟩)) (fun r_16 h_16 => ?_)
      obtain rfl : r_16 = nI (max (ad (px i) sx) (ad (py i) sy)) := h_16
      refine lv_imul hx hb dX9_way_103 ?_
      refine lv_topi (fun z_17 ez_17 => ?_)
      obtain rfl : z_17 = nI (pc * (max (ad (px i) sx) (ad (py i) sy))) := ez_17.trans (pk_mul pc (max (ad (px i) sx) (ad (py i) sy)))
      exact W.iret (v := (nI (pc * (max (ad (px i) sx) (ad (py i) sy))))) hx hb hr (fun t ht hW => ⟨(nI (pc * (max (ad (px i) sx) (ad (py i) sy)))), rfl, rfl, ht⟩) (fun _ h => by cases h) dX9_way_104
    refine lv_iload hx hb dX9_way_92 (lv_at hl 0 rfl) ?_
    refine lv_ineg hx hb dX9_way_94 ?_
    refine lv_goto (tgt := 100) hx hb dX9_way_95 (by decide) ?_
    refine lv_topi (fun z_18 ez_18 => ?_)
    obtain rfl : z_18 = nI (ad (py i) sy) := ez_18.trans (ad_neg (by omega) (by omega) c_14)
    refine vp_callSi (va_Run.run (va_runS (As := [.int (nI (ad (px i) sx)), .int (nI (ad (py i) sy))]) (rest := [.int (nI pc)]) ⟨hx, hb, hml, hown, hts⟩ (k_X9_greater l (ad (px i) sx) (ad (py i) sy) (by unfold ad; omega) (by unfold ad; omega)) (va_cwS 2 hts gX9_way_X9_greater rfl rfl rfl (by decide +kernel) ⟨Nat.le_of_ble_eq_true rfl, Nat.le_of_ble_eq_true rfl⟩) preEq rfl rfl hl.1 rfl (lv_room (Nat.le_of_ble_eq_true rfl)) dX9_way_100 ⟨Nat.le_of_ble_eq_true rfl, Nat.le_of_ble_eq_true rfl⟩)) (fun r_19 h_19 => ?_)
    obtain rfl : r_19 = nI (max (ad (px i) sx) (ad (py i) sy)) := h_19
    refine lv_imul hx hb dX9_way_103 ?_
    refine lv_topi (fun z_20 ez_20 => ?_)
    obtain rfl : z_20 = nI (pc * (max (ad (px i) sx) (ad (py i) sy))) := ez_20.trans (pk_mul pc (max (ad (px i) sx) (ad (py i) sy)))
    exact W.iret (v := (nI (pc * (max (ad (px i) sx) (ad (py i) sy))))) hx hb hr (fun t ht hW => ⟨(nI (pc * (max (ad (px i) sx) (ad (py i) sy)))), rfl, rfl, ht⟩) (fun _ h => by cases h) dX9_way_104
  refine lv_iload_n hx hb dX9_way_81 rfl (lv_at hl 1 rfl) ?_
  refine lv_ineg hx hb dX9_way_82 ?_
  refine lv_goto (tgt := 87) hx hb dX9_way_83 (by decide) ?_
  refine lv_topi (fun z_21 ez_21 => ?_)
  obtain rfl : z_21 = nI (ad (px i) sx) := ez_21.trans (ad_neg (by omega) (by omega) c_12)
  refine lv_iload hx hb dX9_way_87 (lv_at hl 0 rfl) ?_
  refine lv_if_ge (tgt := 98) hx hb dX9_way_89 (by decide) (fun c_22 => ?_) (fun c_22 => ?_)
  · refine lv_iload hx hb dX9_way_98 (lv_at hl 0 rfl) ?_
    refine lv_topi (fun z_23 ez_23 => ?_)
    obtain rfl : z_23 = nI (ad (py i) sy) := ez_23.trans (ad_pos (by omega) (by omega) c_22)
    refine vp_callSi (va_Run.run (va_runS (As := [.int (nI (ad (px i) sx)), .int (nI (ad (py i) sy))]) (rest := [.int (nI pc)]) ⟨hx, hb, hml, hown, hts⟩ (k_X9_greater l (ad (px i) sx) (ad (py i) sy) (by unfold ad; omega) (by unfold ad; omega)) (va_cwS 2 hts gX9_way_X9_greater rfl rfl rfl (by decide +kernel) ⟨Nat.le_of_ble_eq_true rfl, Nat.le_of_ble_eq_true rfl⟩) preEq rfl rfl hl.1 rfl (lv_room (Nat.le_of_ble_eq_true rfl)) dX9_way_100 ⟨Nat.le_of_ble_eq_true rfl, Nat.le_of_ble_eq_true rfl⟩)) (fun r_24 h_24 => ?_)
    obtain rfl : r_24 = nI (max (ad (px i) sx) (ad (py i) sy)) := h_24
    refine lv_imul hx hb dX9_way_103 ?_
    refine lv_topi (fun z_25 ez_25 => ?_)
    obtain rfl : z_25 = nI (pc * (max (ad (px i) sx) (ad (py i) sy))) := ez_25.trans (pk_mul pc (max (ad (px i) sx) (ad (py i) sy)))
    exact W.iret (v := (nI (pc * (max (ad (px i) sx) (ad (py i) sy))))) hx hb hr (fun t ht hW => ⟨(nI (pc * (max (ad (px i) sx) (ad (py i) sy)))), rfl, rfl, ht⟩) (fun _ h => by cases h) dX9_way_104
  refine lv_iload hx hb dX9_way_92 (lv_at hl 0 rfl) ?_
  refine lv_ineg hx hb dX9_way_94 ?_
  refine lv_goto (tgt := 100) hx hb dX9_way_95 (by decide) ?_
  refine lv_topi (fun z_26 ez_26 => ?_)
  obtain rfl : z_26 = nI (ad (py i) sy) := ez_26.trans (ad_neg (by omega) (by omega) c_22)
  refine vp_callSi (va_Run.run (va_runS (As := [.int (nI (ad (px i) sx)), .int (nI (ad (py i) sy))]) (rest := [.int (nI pc)]) ⟨hx, hb, hml, hown, hts⟩ (k_X9_greater l (ad (px i) sx) (ad (py i) sy) (by unfold ad; omega) (by unfold ad; omega)) (va_cwS 2 hts gX9_way_X9_greater rfl rfl rfl (by decide +kernel) ⟨Nat.le_of_ble_eq_true rfl, Nat.le_of_ble_eq_true rfl⟩) preEq rfl rfl hl.1 rfl (lv_room (Nat.le_of_ble_eq_true rfl)) dX9_way_100 ⟨Nat.le_of_ble_eq_true rfl, Nat.le_of_ble_eq_true rfl⟩)) (fun r_27 h_27 => ?_)
  obtain rfl : r_27 = nI (max (ad (px i) sx) (ad (py i) sy)) := h_27
  refine lv_imul hx hb dX9_way_103 ?_
  refine lv_topi (fun z_28 ez_28 => ?_)
  obtain rfl : z_28 = nI (pc * (max (ad (px i) sx) (ad (py i) sy))) := ez_28.trans (pk_mul pc (max (ad (px i) sx) (ad (py i) sy)))
  exact W.iret (v := (nI (pc * (max (ad (px i) sx) (ad (py i) sy))))) hx hb hr (fun t ht hW => ⟨(nI (pc * (max (ad (px i) sx) (ad (py i) sy)))), rfl, rfl, ht⟩) (fun _ h => by cases h) dX9_way_104
set_option maxHeartbeats 4000000 in
set_option maxRecDepth 100000 in
/-- the way in minutes -/
theorem k_X9_way_ns (l : Launch) (D : va_G) (cI cJ cZ cM : Nat) (h0 : Nat) (n : Nat → Nat) (mi : Nat → Int32) (mq : Nat → Int32) (mav : Nat → Nat → Int32) (n0 : Nat) (px : Nat → Nat) (py : Nat → Nat) (pm : Nat → Nat) (sx : Nat) (sy : Nat) (pc : Nat) (lst : Nat) (hmp : MPok n0 mi mav px py pm sx sy pc lst) (j : Nat) (hj : j < n0) : Met l yX9_way wsX9_way ({ frames := 1, cells := 0, slots := 0, locals := 21 } : Room) (RO D cI cJ cZ cM [.ref h0, .int (-1), .int (nI j)] [(h0, .inr (9, [.ref (n 0), .int (mi 1), .ref (n 2), .ref (n 3), .ref (n 4), .ref (n 5), .ref (n 6), .int (mi 7), .ref (n 8), .ref (n 9), .ref (n 10), .ref (n 11), .ref (n 12), .ref (n 13), .ref (n 14), .int (mi 15), .int (mi 16), .ref (n 17), .ref (n 18), .ref (n 19), .ref (n 20), .ref (n 21), .ref (n 22), .ref (n 23), .ref (n 24), .ref (n 25), .int (mi 26), .int (mi 27), .int (mi 28), .int (mi 29), .int (mi 30), .int (mi 31), .int (mi 32), .int (mi 33), .ref (n 34), .ref (n 35), .int (mq 36), .int (mq 37), .int (mq 38), .ref (n 39), .ref (n 40), .ref (n 41), .ref (n 42), .int (mq 43), .int (mq 44), .int (mq 45)])), (n 2, .inl (cI, 10, .inl (mav 2))), (n 3, .inl (cI, 10, .inl (mav 3)))]) (vp_Si (fun r => r = nI (wayN px py sx sy pc none (some j)))) 0 0 (fun _ => False) := by
  refine Met.ofW (cc := cX9_way) (maxL := 5) (ret := (some .int)) (by decide) rfl ?_
  intro p e s m args below meth c s₁ B hml hv
  obtain ⟨rfl, hG, hP⟩ := hv
  have hx := B.exec
  have hb := B.bytes
  have hr := B.returns
  have hts := atoms_spec (ws := wsX9_way) B.pre
  have hown : s.vm.findClass RX9 = some m.cls := findClass_of_methodNamed B.named
  have hlocks := B.notSynchronized
  have hK := hG.1
  have hN := hG.2
  have hl := lv_entry ([.ref h0, .int (-1), .int (nI j)]) (n := 5) (Nat.le_of_ble_eq_true rfl)
  rw [lg_entry_eq]
  generalize (lg_sl ([.ref h0, .int (-1), .int (nI j)]) ++ List.replicate (5 - (lg_sl ([.ref h0, .int (-1), .int (nI j)])).length) Slot.unset).toArray = ls at hl ⊢
  have hl : lv_has ls 5 [(0, .ref h0), (1, .int (-1)), (2, .int (nI j))] := hl
  obtain ⟨hn0, h_n, h_sx, h_sy, h_pc, h_la, b_sx, b_sy, b_pc, b_la, h_mk⟩ := id hmp
  obtain ⟨hx_j, hy_j, hm_j, bx_j, by_j, bm_j⟩ := h_mk j hj
  have bax := fun (p q : Nat) (h1 : p ≤ 39) (h2 : q ≤ 39) => ad_le h1 h2
  refine lv_iload_n hx hb dX9_way_0 rfl (lv_at hl 1 rfl) ?_
  refine lv_if_ge (tgt := 11) hx hb dX9_way_1 (by decide) (fun c_1 => False.elim (by revert c_1; decide)) (fun _ => ?_)
  refine lv_aload_n hx hb dX9_way_4 rfl (lv_at hl 0 rfl) ?_
  refine va_get (D := D) (ci := 9) (v := .int (mi 30)) (C := RX9) (T := TX9) (N := 46) hx hb hts (fun _ h9 => List.mem_cons_of_mem _ (List.mem_append_right _ h9)) hown hK hP 0 rfl rfl 30 (by decide) (hts (.fieldLink RX9 158 "BuoyTenderModel" "shipX" "I") (by decide +kernel)) (fun _ h9 => h9) rfl dX9_way_5 ?_
  refine lv_topi (fun z_2 ez_2 => ?_)
  obtain rfl : z_2 = nI sx := ez_2.trans h_sx
  refine lv_goto (tgt := 17) hx hb dX9_way_8 (by decide) ?_
  refine lv_iload_n hx hb dX9_way_17 rfl (lv_at hl 2 rfl) ?_
  refine lv_if_ge (tgt := 28) hx hb dX9_way_18 (by decide) (fun c_3 => ?_) (fun c_3 => absurd (nI_pos' (by omega)) c_3)
  refine lv_aload_n hx hb dX9_way_28 rfl (lv_at hl 0 rfl) ?_
  refine va_get (D := D) (ci := 9) (v := .ref (n 2)) (C := RX9) (T := TX9) (N := 46) hx hb hts (fun _ h9 => List.mem_cons_of_mem _ (List.mem_append_right _ h9)) hown hK hP 0 rfl rfl 2 (by decide) (hts (.fieldLink RX9 13 "BuoyTenderModel" "stationX" "[I") (by decide +kernel)) (fun _ h9 => h9) rfl dX9_way_29 ?_
  refine lv_iload_n hx hb dX9_way_32 rfl (lv_at hl 2 rfl) ?_
  refine va_iald hx hb hK hP 1 0 rfl rfl (vp_in_nI (by omega) (by decide)) dX9_way_33 ?_
  refine lv_topi (fun z_4 ez_4 => ?_)
  obtain rfl : z_4 = (mav 2) j := ez_4.trans (congrArg (mav 2) (nI_clamp (by omega)))
  refine lv_topi (fun z_5 ez_5 => ?_)
  obtain rfl : z_5 = nI (px j) := ez_5.trans hx_j
  refine lv_isub hx hb dX9_way_34 ?_
  refine lv_istore_n (lv' := [(3, .int ((nI sx) - (nI (px j)))), (0, .ref h0), (1, .int (-1)), (2, .int (nI j))]) hx hb dX9_way_35 rfl hl (by decide) rfl (fun ls hl => ?_)
  refine lv_iload_n hx hb dX9_way_36 rfl (lv_at hl 2 rfl) ?_
  refine lv_if_ge (tgt := 47) hx hb dX9_way_37 (by decide) (fun c_6 => False.elim (by revert c_6; decide)) (fun _ => ?_)
  refine lv_aload_n hx hb dX9_way_40 rfl (lv_at hl 1 rfl) ?_
  refine va_get (D := D) (ci := 9) (v := .int (mi 31)) (C := RX9) (T := TX9) (N := 46) hx hb hts (fun _ h9 => List.mem_cons_of_mem _ (List.mem_append_right _ h9)) hown hK hP 0 rfl rfl 31 (by decide) (hts (.fieldLink RX9 161 "BuoyTenderModel" "shipY" "I") (by decide +kernel)) (fun _ h9 => h9) rfl dX9_way_41 ?_
  refine lv_topi (fun z_7 ez_7 => ?_)
  obtain rfl : z_7 = nI sy := ez_7.trans h_sy
  refine lv_goto (tgt := 53) hx hb dX9_way_44 (by decide) ?_
  refine lv_iload_n hx hb dX9_way_53 rfl (lv_at hl 3 rfl) ?_
  refine lv_if_ge (tgt := 64) hx hb dX9_way_54 (by decide) (fun c_8 => ?_) (fun c_8 => absurd (nI_pos' (by omega)) c_8)
  refine lv_aload_n hx hb dX9_way_64 rfl (lv_at hl 1 rfl) ?_
  refine va_get (D := D) (ci := 9) (v := .ref (n 3)) (C := RX9) (T := TX9) (N := 46) hx hb hts (fun _ h9 => List.mem_cons_of_mem _ (List.mem_append_right _ h9)) hown hK hP 0 rfl rfl 3 (by decide) (hts (.fieldLink RX9 16 "BuoyTenderModel" "stationY" "[I") (by decide +kernel)) (fun _ h9 => h9) rfl dX9_way_65 ?_
  refine lv_iload_n hx hb dX9_way_68 rfl (lv_at hl 3 rfl) ?_
  refine va_iald hx hb hK hP 2 0 rfl rfl (vp_in_nI (by omega) (by decide)) dX9_way_69 ?_
  refine lv_topi (fun z_9 ez_9 => ?_)
  obtain rfl : z_9 = (mav 3) j := ez_9.trans (congrArg (mav 3) (nI_clamp (by omega)))
  refine lv_topi (fun z_10 ez_10 => ?_)
  obtain rfl : z_10 = nI (py j) := ez_10.trans hy_j
  refine lv_isub hx hb dX9_way_70 ?_
  refine lv_istore (lv' := [(4, .int ((nI sy) - (nI (py j)))), (3, .int ((nI sx) - (nI (px j)))), (0, .ref h0), (1, .int (-1)), (2, .int (nI j))]) hx hb dX9_way_71 hl (by decide) rfl (fun ls hl => ?_)
  refine lv_aload_n hx hb dX9_way_73 rfl (lv_at hl 2 rfl) ?_
  refine va_get (D := D) (ci := 9) (v := .int (mi 26)) (C := RX9) (T := TX9) (N := 46) hx hb hts (fun _ h9 => List.mem_cons_of_mem _ (List.mem_append_right _ h9)) hown hK hP 0 rfl rfl 26 (by decide) (hts (.fieldLink RX9 77 "BuoyTenderModel" "pace" "I") (by decide +kernel)) (fun _ h9 => h9) rfl dX9_way_74 ?_
  refine lv_topi (fun z_11 ez_11 => ?_)
  obtain rfl : z_11 = nI pc := ez_11.trans h_pc
  refine lv_iload_n hx hb dX9_way_77 rfl (lv_at hl 1 rfl) ?_
  refine lv_if_ge (tgt := 86) hx hb dX9_way_78 (by decide) (fun c_12 => ?_) (fun c_12 => ?_)
  · refine lv_iload_n hx hb dX9_way_86 rfl (lv_at hl 1 rfl) ?_
    refine lv_topi (fun z_13 ez_13 => ?_)
    obtain rfl : z_13 = nI (ad sx (px j)) := ez_13.trans (ad_pos (by omega) (by omega) c_12)
    refine lv_iload hx hb dX9_way_87 (lv_at hl 0 rfl) ?_
    refine lv_if_ge (tgt := 98) hx hb dX9_way_89 (by decide) (fun c_14 => ?_) (fun c_14 => ?_)
    · refine lv_iload hx hb dX9_way_98 (lv_at hl 0 rfl) ?_
      refine lv_topi (fun z_15 ez_15 => ?_)
      obtain rfl : z_15 = nI (ad sy (py j)) := ez_15.trans (ad_pos (by omega) (by omega) c_14)
      refine vp_callSi (va_Run.run (va_runS (As := [.int (nI (ad sx (px j))), .int (nI (ad sy (py j)))]) (rest := [.int (nI pc)]) ⟨hx, hb, hml, hown, hts⟩ (k_X9_greater l (ad sx (px j)) (ad sy (py j)) (by unfold ad; omega) (by unfold ad; omega)) (va_cwS 2 hts gX9_way_X9_greater rfl rfl rfl (by decide +kernel) ⟨Nat.le_of_ble_eq_true rfl, Nat.le_of_ble_eq_true rfl⟩) preEq rfl rfl hl.1 rfl (lv_room (Nat.le_of_ble_eq_true rfl)) dX9_way_100 ⟨Nat.le_of_ble_eq_true rfl, Nat.le_of_ble_eq_true rfl⟩)) (fun r_16 h_16 => ?_)
      obtain rfl : r_16 = nI (max (ad sx (px j)) (ad sy (py j))) := h_16
      refine lv_imul hx hb dX9_way_103 ?_
      refine lv_topi (fun z_17 ez_17 => ?_)
      obtain rfl : z_17 = nI (pc * (max (ad sx (px j)) (ad sy (py j)))) := ez_17.trans (pk_mul pc (max (ad sx (px j)) (ad sy (py j))))
      exact W.iret (v := (nI (pc * (max (ad sx (px j)) (ad sy (py j)))))) hx hb hr (fun t ht hW => ⟨(nI (pc * (max (ad sx (px j)) (ad sy (py j))))), rfl, rfl, ht⟩) (fun _ h => by cases h) dX9_way_104
    refine lv_iload hx hb dX9_way_92 (lv_at hl 0 rfl) ?_
    refine lv_ineg hx hb dX9_way_94 ?_
    refine lv_goto (tgt := 100) hx hb dX9_way_95 (by decide) ?_
    refine lv_topi (fun z_18 ez_18 => ?_)
    obtain rfl : z_18 = nI (ad sy (py j)) := ez_18.trans (ad_neg (by omega) (by omega) c_14)
    refine vp_callSi (va_Run.run (va_runS (As := [.int (nI (ad sx (px j))), .int (nI (ad sy (py j)))]) (rest := [.int (nI pc)]) ⟨hx, hb, hml, hown, hts⟩ (k_X9_greater l (ad sx (px j)) (ad sy (py j)) (by unfold ad; omega) (by unfold ad; omega)) (va_cwS 2 hts gX9_way_X9_greater rfl rfl rfl (by decide +kernel) ⟨Nat.le_of_ble_eq_true rfl, Nat.le_of_ble_eq_true rfl⟩) preEq rfl rfl hl.1 rfl (lv_room (Nat.le_of_ble_eq_true rfl)) dX9_way_100 ⟨Nat.le_of_ble_eq_true rfl, Nat.le_of_ble_eq_true rfl⟩)) (fun r_19 h_19 => ?_)
    obtain rfl : r_19 = nI (max (ad sx (px j)) (ad sy (py j))) := h_19
    refine lv_imul hx hb dX9_way_103 ?_
    refine lv_topi (fun z_20 ez_20 => ?_)
    obtain rfl : z_20 = nI (pc * (max (ad sx (px j)) (ad sy (py j)))) := ez_20.trans (pk_mul pc (max (ad sx (px j)) (ad sy (py j))))
    exact W.iret (v := (nI (pc * (max (ad sx (px j)) (ad sy (py j)))))) hx hb hr (fun t ht hW => ⟨(nI (pc * (max (ad sx (px j)) (ad sy (py j))))), rfl, rfl, ht⟩) (fun _ h => by cases h) dX9_way_104
  refine lv_iload_n hx hb dX9_way_81 rfl (lv_at hl 1 rfl) ?_
  refine lv_ineg hx hb dX9_way_82 ?_
  refine lv_goto (tgt := 87) hx hb dX9_way_83 (by decide) ?_
  refine lv_topi (fun z_21 ez_21 => ?_)
  obtain rfl : z_21 = nI (ad sx (px j)) := ez_21.trans (ad_neg (by omega) (by omega) c_12)
  refine lv_iload hx hb dX9_way_87 (lv_at hl 0 rfl) ?_
  refine lv_if_ge (tgt := 98) hx hb dX9_way_89 (by decide) (fun c_22 => ?_) (fun c_22 => ?_)
  · refine lv_iload hx hb dX9_way_98 (lv_at hl 0 rfl) ?_
    refine lv_topi (fun z_23 ez_23 => ?_)
    obtain rfl : z_23 = nI (ad sy (py j)) := ez_23.trans (ad_pos (by omega) (by omega) c_22)
    refine vp_callSi (va_Run.run (va_runS (As := [.int (nI (ad sx (px j))), .int (nI (ad sy (py j)))]) (rest := [.int (nI pc)]) ⟨hx, hb, hml, hown, hts⟩ (k_X9_greater l (ad sx (px j)) (ad sy (py j)) (by unfold ad; omega) (by unfold ad; omega)) (va_cwS 2 hts gX9_way_X9_greater rfl rfl rfl (by decide +kernel) ⟨Nat.le_of_ble_eq_true rfl, Nat.le_of_ble_eq_true rfl⟩) preEq rfl rfl hl.1 rfl (lv_room (Nat.le_of_ble_eq_true rfl)) dX9_way_100 ⟨Nat.le_of_ble_eq_true rfl, Nat.le_of_ble_eq_true rfl⟩)) (fun r_24 h_24 => ?_)
    obtain rfl : r_24 = nI (max (ad sx (px j)) (ad sy (py j))) := h_24
    refine lv_imul hx hb dX9_way_103 ?_
    refine lv_topi (fun z_25 ez_25 => ?_)
    obtain rfl : z_25 = nI (pc * (max (ad sx (px j)) (ad sy (py j)))) := ez_25.trans (pk_mul pc (max (ad sx (px j)) (ad sy (py j))))
    exact W.iret (v := (nI (pc * (max (ad sx (px j)) (ad sy (py j)))))) hx hb hr (fun t ht hW => ⟨(nI (pc * (max (ad sx (px j)) (ad sy (py j))))), rfl, rfl, ht⟩) (fun _ h => by cases h) dX9_way_104
  refine lv_iload hx hb dX9_way_92 (lv_at hl 0 rfl) ?_
  refine lv_ineg hx hb dX9_way_94 ?_
  refine lv_goto (tgt := 100) hx hb dX9_way_95 (by decide) ?_
  refine lv_topi (fun z_26 ez_26 => ?_)
  obtain rfl : z_26 = nI (ad sy (py j)) := ez_26.trans (ad_neg (by omega) (by omega) c_22)
  refine vp_callSi (va_Run.run (va_runS (As := [.int (nI (ad sx (px j))), .int (nI (ad sy (py j)))]) (rest := [.int (nI pc)]) ⟨hx, hb, hml, hown, hts⟩ (k_X9_greater l (ad sx (px j)) (ad sy (py j)) (by unfold ad; omega) (by unfold ad; omega)) (va_cwS 2 hts gX9_way_X9_greater rfl rfl rfl (by decide +kernel) ⟨Nat.le_of_ble_eq_true rfl, Nat.le_of_ble_eq_true rfl⟩) preEq rfl rfl hl.1 rfl (lv_room (Nat.le_of_ble_eq_true rfl)) dX9_way_100 ⟨Nat.le_of_ble_eq_true rfl, Nat.le_of_ble_eq_true rfl⟩)) (fun r_27 h_27 => ?_)
  obtain rfl : r_27 = nI (max (ad sx (px j)) (ad sy (py j))) := h_27
  refine lv_imul hx hb dX9_way_103 ?_
  refine lv_topi (fun z_28 ez_28 => ?_)
  obtain rfl : z_28 = nI (pc * (max (ad sx (px j)) (ad sy (py j)))) := ez_28.trans (pk_mul pc (max (ad sx (px j)) (ad sy (py j))))
  exact W.iret (v := (nI (pc * (max (ad sx (px j)) (ad sy (py j)))))) hx hb hr (fun t ht hW => ⟨(nI (pc * (max (ad sx (px j)) (ad sy (py j))))), rfl, rfl, ht⟩) (fun _ h => by cases h) dX9_way_104
set_option maxHeartbeats 4000000 in
set_option maxRecDepth 100000 in
/-- the way in minutes -/
theorem k_X9_way_nn (l : Launch) (D : va_G) (cI cJ cZ cM : Nat) (h0 : Nat) (n : Nat → Nat) (mi : Nat → Int32) (mq : Nat → Int32) (mav : Nat → Nat → Int32) (n0 : Nat) (px : Nat → Nat) (py : Nat → Nat) (pm : Nat → Nat) (sx : Nat) (sy : Nat) (pc : Nat) (lst : Nat) (hmp : MPok n0 mi mav px py pm sx sy pc lst) : Met l yX9_way wsX9_way ({ frames := 1, cells := 0, slots := 0, locals := 21 } : Room) (RO D cI cJ cZ cM [.ref h0, .int (-1), .int (-1)] [(h0, .inr (9, [.ref (n 0), .int (mi 1), .ref (n 2), .ref (n 3), .ref (n 4), .ref (n 5), .ref (n 6), .int (mi 7), .ref (n 8), .ref (n 9), .ref (n 10), .ref (n 11), .ref (n 12), .ref (n 13), .ref (n 14), .int (mi 15), .int (mi 16), .ref (n 17), .ref (n 18), .ref (n 19), .ref (n 20), .ref (n 21), .ref (n 22), .ref (n 23), .ref (n 24), .ref (n 25), .int (mi 26), .int (mi 27), .int (mi 28), .int (mi 29), .int (mi 30), .int (mi 31), .int (mi 32), .int (mi 33), .ref (n 34), .ref (n 35), .int (mq 36), .int (mq 37), .int (mq 38), .ref (n 39), .ref (n 40), .ref (n 41), .ref (n 42), .int (mq 43), .int (mq 44), .int (mq 45)])), (n 2, .inl (cI, 10, .inl (mav 2))), (n 3, .inl (cI, 10, .inl (mav 3)))]) (vp_Si (fun r => r = nI (wayN px py sx sy pc none none))) 0 0 (fun _ => False) := by
  refine Met.ofW (cc := cX9_way) (maxL := 5) (ret := (some .int)) (by decide) rfl ?_
  intro p e s m args below meth c s₁ B hml hv
  obtain ⟨rfl, hG, hP⟩ := hv
  have hx := B.exec
  have hb := B.bytes
  have hr := B.returns
  have hts := atoms_spec (ws := wsX9_way) B.pre
  have hown : s.vm.findClass RX9 = some m.cls := findClass_of_methodNamed B.named
  have hlocks := B.notSynchronized
  have hK := hG.1
  have hN := hG.2
  have hl := lv_entry ([.ref h0, .int (-1), .int (-1)]) (n := 5) (Nat.le_of_ble_eq_true rfl)
  rw [lg_entry_eq]
  generalize (lg_sl ([.ref h0, .int (-1), .int (-1)]) ++ List.replicate (5 - (lg_sl ([.ref h0, .int (-1), .int (-1)])).length) Slot.unset).toArray = ls at hl ⊢
  have hl : lv_has ls 5 [(0, .ref h0), (1, .int (-1)), (2, .int (-1))] := hl
  obtain ⟨hn0, h_n, h_sx, h_sy, h_pc, h_la, b_sx, b_sy, b_pc, b_la, h_mk⟩ := id hmp
  have bax := fun (p q : Nat) (h1 : p ≤ 39) (h2 : q ≤ 39) => ad_le h1 h2
  refine lv_iload_n hx hb dX9_way_0 rfl (lv_at hl 1 rfl) ?_
  refine lv_if_ge (tgt := 11) hx hb dX9_way_1 (by decide) (fun c_1 => False.elim (by revert c_1; decide)) (fun _ => ?_)
  refine lv_aload_n hx hb dX9_way_4 rfl (lv_at hl 0 rfl) ?_
  refine va_get (D := D) (ci := 9) (v := .int (mi 30)) (C := RX9) (T := TX9) (N := 46) hx hb hts (fun _ h9 => List.mem_cons_of_mem _ (List.mem_append_right _ h9)) hown hK hP 0 rfl rfl 30 (by decide) (hts (.fieldLink RX9 158 "BuoyTenderModel" "shipX" "I") (by decide +kernel)) (fun _ h9 => h9) rfl dX9_way_5 ?_
  refine lv_topi (fun z_2 ez_2 => ?_)
  obtain rfl : z_2 = nI sx := ez_2.trans h_sx
  refine lv_goto (tgt := 17) hx hb dX9_way_8 (by decide) ?_
  refine lv_iload_n hx hb dX9_way_17 rfl (lv_at hl 2 rfl) ?_
  refine lv_if_ge (tgt := 28) hx hb dX9_way_18 (by decide) (fun c_3 => False.elim (by revert c_3; decide)) (fun _ => ?_)
  refine lv_aload_n hx hb dX9_way_21 rfl (lv_at hl 0 rfl) ?_
  refine va_get (D := D) (ci := 9) (v := .int (mi 30)) (C := RX9) (T := TX9) (N := 46) hx hb hts (fun _ h9 => List.mem_cons_of_mem _ (List.mem_append_right _ h9)) hown hK hP 0 rfl rfl 30 (by decide) (hts (.fieldLink RX9 158 "BuoyTenderModel" "shipX" "I") (by decide +kernel)) (fun _ h9 => h9) rfl dX9_way_22 ?_
  refine lv_topi (fun z_4 ez_4 => ?_)
  obtain rfl : z_4 = nI sx := ez_4.trans h_sx
  refine lv_goto (tgt := 34) hx hb dX9_way_25 (by decide) ?_
  refine lv_isub hx hb dX9_way_34 ?_
  refine lv_istore_n (lv' := [(3, .int ((nI sx) - (nI sx))), (0, .ref h0), (1, .int (-1)), (2, .int (-1))]) hx hb dX9_way_35 rfl hl (by decide) rfl (fun ls hl => ?_)
  refine lv_iload_n hx hb dX9_way_36 rfl (lv_at hl 2 rfl) ?_
  refine lv_if_ge (tgt := 47) hx hb dX9_way_37 (by decide) (fun c_5 => False.elim (by revert c_5; decide)) (fun _ => ?_)
  refine lv_aload_n hx hb dX9_way_40 rfl (lv_at hl 1 rfl) ?_
  refine va_get (D := D) (ci := 9) (v := .int (mi 31)) (C := RX9) (T := TX9) (N := 46) hx hb hts (fun _ h9 => List.mem_cons_of_mem _ (List.mem_append_right _ h9)) hown hK hP 0 rfl rfl 31 (by decide) (hts (.fieldLink RX9 161 "BuoyTenderModel" "shipY" "I") (by decide +kernel)) (fun _ h9 => h9) rfl dX9_way_41 ?_
  refine lv_topi (fun z_6 ez_6 => ?_)
  obtain rfl : z_6 = nI sy := ez_6.trans h_sy
  refine lv_goto (tgt := 53) hx hb dX9_way_44 (by decide) ?_
  refine lv_iload_n hx hb dX9_way_53 rfl (lv_at hl 3 rfl) ?_
  refine lv_if_ge (tgt := 64) hx hb dX9_way_54 (by decide) (fun c_7 => False.elim (by revert c_7; decide)) (fun _ => ?_)
  refine lv_aload_n hx hb dX9_way_57 rfl (lv_at hl 1 rfl) ?_
  refine va_get (D := D) (ci := 9) (v := .int (mi 31)) (C := RX9) (T := TX9) (N := 46) hx hb hts (fun _ h9 => List.mem_cons_of_mem _ (List.mem_append_right _ h9)) hown hK hP 0 rfl rfl 31 (by decide) (hts (.fieldLink RX9 161 "BuoyTenderModel" "shipY" "I") (by decide +kernel)) (fun _ h9 => h9) rfl dX9_way_58 ?_
  refine lv_topi (fun z_8 ez_8 => ?_)
  obtain rfl : z_8 = nI sy := ez_8.trans h_sy
  refine lv_goto (tgt := 70) hx hb dX9_way_61 (by decide) ?_
  refine lv_isub hx hb dX9_way_70 ?_
  refine lv_istore (lv' := [(4, .int ((nI sy) - (nI sy))), (3, .int ((nI sx) - (nI sx))), (0, .ref h0), (1, .int (-1)), (2, .int (-1))]) hx hb dX9_way_71 hl (by decide) rfl (fun ls hl => ?_)
  refine lv_aload_n hx hb dX9_way_73 rfl (lv_at hl 2 rfl) ?_
  refine va_get (D := D) (ci := 9) (v := .int (mi 26)) (C := RX9) (T := TX9) (N := 46) hx hb hts (fun _ h9 => List.mem_cons_of_mem _ (List.mem_append_right _ h9)) hown hK hP 0 rfl rfl 26 (by decide) (hts (.fieldLink RX9 77 "BuoyTenderModel" "pace" "I") (by decide +kernel)) (fun _ h9 => h9) rfl dX9_way_74 ?_
  refine lv_topi (fun z_9 ez_9 => ?_)
  obtain rfl : z_9 = nI pc := ez_9.trans h_pc
  refine lv_iload_n hx hb dX9_way_77 rfl (lv_at hl 1 rfl) ?_
  refine lv_if_ge (tgt := 86) hx hb dX9_way_78 (by decide) (fun c_10 => ?_) (fun c_10 => ?_)
  · refine lv_iload_n hx hb dX9_way_86 rfl (lv_at hl 1 rfl) ?_
    refine lv_topi (fun z_11 ez_11 => ?_)
    obtain rfl : z_11 = nI (ad sx sx) := ez_11.trans (ad_pos (by omega) (by omega) c_10)
    refine lv_iload hx hb dX9_way_87 (lv_at hl 0 rfl) ?_
    refine lv_if_ge (tgt := 98) hx hb dX9_way_89 (by decide) (fun c_12 => ?_) (fun c_12 => ?_)
    · refine lv_iload hx hb dX9_way_98 (lv_at hl 0 rfl) ?_
      refine lv_topi (fun z_13 ez_13 => ?_)
      obtain rfl : z_13 = nI (ad sy sy) := ez_13.trans (ad_pos (by omega) (by omega) c_12)
      refine vp_callSi (va_Run.run (va_runS (As := [.int (nI (ad sx sx)), .int (nI (ad sy sy))]) (rest := [.int (nI pc)]) ⟨hx, hb, hml, hown, hts⟩ (k_X9_greater l (ad sx sx) (ad sy sy) (by unfold ad; omega) (by unfold ad; omega)) (va_cwS 2 hts gX9_way_X9_greater rfl rfl rfl (by decide +kernel) ⟨Nat.le_of_ble_eq_true rfl, Nat.le_of_ble_eq_true rfl⟩) preEq rfl rfl hl.1 rfl (lv_room (Nat.le_of_ble_eq_true rfl)) dX9_way_100 ⟨Nat.le_of_ble_eq_true rfl, Nat.le_of_ble_eq_true rfl⟩)) (fun r_14 h_14 => ?_)
      obtain rfl : r_14 = nI (max (ad sx sx) (ad sy sy)) := h_14
      refine lv_imul hx hb dX9_way_103 ?_
      refine lv_topi (fun z_15 ez_15 => ?_)
      obtain rfl : z_15 = nI (pc * (max (ad sx sx) (ad sy sy))) := ez_15.trans (pk_mul pc (max (ad sx sx) (ad sy sy)))
      exact W.iret (v := (nI (pc * (max (ad sx sx) (ad sy sy))))) hx hb hr (fun t ht hW => ⟨(nI (pc * (max (ad sx sx) (ad sy sy)))), rfl, rfl, ht⟩) (fun _ h => by cases h) dX9_way_104
    refine lv_iload hx hb dX9_way_92 (lv_at hl 0 rfl) ?_
    refine lv_ineg hx hb dX9_way_94 ?_
    refine lv_goto (tgt := 100) hx hb dX9_way_95 (by decide) ?_
    refine lv_topi (fun z_16 ez_16 => ?_)
    obtain rfl : z_16 = nI (ad sy sy) := ez_16.trans (ad_neg (by omega) (by omega) c_12)
    refine vp_callSi (va_Run.run (va_runS (As := [.int (nI (ad sx sx)), .int (nI (ad sy sy))]) (rest := [.int (nI pc)]) ⟨hx, hb, hml, hown, hts⟩ (k_X9_greater l (ad sx sx) (ad sy sy) (by unfold ad; omega) (by unfold ad; omega)) (va_cwS 2 hts gX9_way_X9_greater rfl rfl rfl (by decide +kernel) ⟨Nat.le_of_ble_eq_true rfl, Nat.le_of_ble_eq_true rfl⟩) preEq rfl rfl hl.1 rfl (lv_room (Nat.le_of_ble_eq_true rfl)) dX9_way_100 ⟨Nat.le_of_ble_eq_true rfl, Nat.le_of_ble_eq_true rfl⟩)) (fun r_17 h_17 => ?_)
    obtain rfl : r_17 = nI (max (ad sx sx) (ad sy sy)) := h_17
    refine lv_imul hx hb dX9_way_103 ?_
    refine lv_topi (fun z_18 ez_18 => ?_)
    obtain rfl : z_18 = nI (pc * (max (ad sx sx) (ad sy sy))) := ez_18.trans (pk_mul pc (max (ad sx sx) (ad sy sy)))
    exact W.iret (v := (nI (pc * (max (ad sx sx) (ad sy sy))))) hx hb hr (fun t ht hW => ⟨(nI (pc * (max (ad sx sx) (ad sy sy)))), rfl, rfl, ht⟩) (fun _ h => by cases h) dX9_way_104
  refine lv_iload_n hx hb dX9_way_81 rfl (lv_at hl 1 rfl) ?_
  refine lv_ineg hx hb dX9_way_82 ?_
  refine lv_goto (tgt := 87) hx hb dX9_way_83 (by decide) ?_
  refine lv_topi (fun z_19 ez_19 => ?_)
  obtain rfl : z_19 = nI (ad sx sx) := ez_19.trans (ad_neg (by omega) (by omega) c_10)
  refine lv_iload hx hb dX9_way_87 (lv_at hl 0 rfl) ?_
  refine lv_if_ge (tgt := 98) hx hb dX9_way_89 (by decide) (fun c_20 => ?_) (fun c_20 => ?_)
  · refine lv_iload hx hb dX9_way_98 (lv_at hl 0 rfl) ?_
    refine lv_topi (fun z_21 ez_21 => ?_)
    obtain rfl : z_21 = nI (ad sy sy) := ez_21.trans (ad_pos (by omega) (by omega) c_20)
    refine vp_callSi (va_Run.run (va_runS (As := [.int (nI (ad sx sx)), .int (nI (ad sy sy))]) (rest := [.int (nI pc)]) ⟨hx, hb, hml, hown, hts⟩ (k_X9_greater l (ad sx sx) (ad sy sy) (by unfold ad; omega) (by unfold ad; omega)) (va_cwS 2 hts gX9_way_X9_greater rfl rfl rfl (by decide +kernel) ⟨Nat.le_of_ble_eq_true rfl, Nat.le_of_ble_eq_true rfl⟩) preEq rfl rfl hl.1 rfl (lv_room (Nat.le_of_ble_eq_true rfl)) dX9_way_100 ⟨Nat.le_of_ble_eq_true rfl, Nat.le_of_ble_eq_true rfl⟩)) (fun r_22 h_22 => ?_)
    obtain rfl : r_22 = nI (max (ad sx sx) (ad sy sy)) := h_22
    refine lv_imul hx hb dX9_way_103 ?_
    refine lv_topi (fun z_23 ez_23 => ?_)
    obtain rfl : z_23 = nI (pc * (max (ad sx sx) (ad sy sy))) := ez_23.trans (pk_mul pc (max (ad sx sx) (ad sy sy)))
    exact W.iret (v := (nI (pc * (max (ad sx sx) (ad sy sy))))) hx hb hr (fun t ht hW => ⟨(nI (pc * (max (ad sx sx) (ad sy sy)))), rfl, rfl, ht⟩) (fun _ h => by cases h) dX9_way_104
  refine lv_iload hx hb dX9_way_92 (lv_at hl 0 rfl) ?_
  refine lv_ineg hx hb dX9_way_94 ?_
  refine lv_goto (tgt := 100) hx hb dX9_way_95 (by decide) ?_
  refine lv_topi (fun z_24 ez_24 => ?_)
  obtain rfl : z_24 = nI (ad sy sy) := ez_24.trans (ad_neg (by omega) (by omega) c_20)
  refine vp_callSi (va_Run.run (va_runS (As := [.int (nI (ad sx sx)), .int (nI (ad sy sy))]) (rest := [.int (nI pc)]) ⟨hx, hb, hml, hown, hts⟩ (k_X9_greater l (ad sx sx) (ad sy sy) (by unfold ad; omega) (by unfold ad; omega)) (va_cwS 2 hts gX9_way_X9_greater rfl rfl rfl (by decide +kernel) ⟨Nat.le_of_ble_eq_true rfl, Nat.le_of_ble_eq_true rfl⟩) preEq rfl rfl hl.1 rfl (lv_room (Nat.le_of_ble_eq_true rfl)) dX9_way_100 ⟨Nat.le_of_ble_eq_true rfl, Nat.le_of_ble_eq_true rfl⟩)) (fun r_25 h_25 => ?_)
  obtain rfl : r_25 = nI (max (ad sx sx) (ad sy sy)) := h_25
  refine lv_imul hx hb dX9_way_103 ?_
  refine lv_topi (fun z_26 ez_26 => ?_)
  obtain rfl : z_26 = nI (pc * (max (ad sx sx) (ad sy sy))) := ez_26.trans (pk_mul pc (max (ad sx sx) (ad sy sy)))
  exact W.iret (v := (nI (pc * (max (ad sx sx) (ad sy sy))))) hx hb hr (fun t ht hW => ⟨(nI (pc * (max (ad sx sx) (ad sy sy)))), rfl, rfl, ht⟩) (fun _ h => by cases h) dX9_way_104
/-- the way, for any two: a mark or the ship -/
theorem k_X9_way (l : Launch) (D : va_G) (cI cJ cZ cM : Nat) (h0 : Nat) (n : Nat → Nat) (mi : Nat → Int32) (mq : Nat → Int32) (mav : Nat → Nat → Int32) (n0 : Nat) (px : Nat → Nat) (py : Nat → Nat) (pm : Nat → Nat) (sx : Nat) (sy : Nat) (pc : Nat) (lst : Nat) (hmp : MPok n0 mi mav px py pm sx sy pc lst) (a b : Option Nat) (ha : ∀ i, a = some i → i < n0) (hb : ∀ i, b = some i → i < n0) : Met l yX9_way wsX9_way ({ frames := 1, cells := 0, slots := 0, locals := 21 } : Room) (RO D cI cJ cZ cM [.ref h0, .int (encO a), .int (encO b)] [(h0, .inr (9, [.ref (n 0), .int (mi 1), .ref (n 2), .ref (n 3), .ref (n 4), .ref (n 5), .ref (n 6), .int (mi 7), .ref (n 8), .ref (n 9), .ref (n 10), .ref (n 11), .ref (n 12), .ref (n 13), .ref (n 14), .int (mi 15), .int (mi 16), .ref (n 17), .ref (n 18), .ref (n 19), .ref (n 20), .ref (n 21), .ref (n 22), .ref (n 23), .ref (n 24), .ref (n 25), .int (mi 26), .int (mi 27), .int (mi 28), .int (mi 29), .int (mi 30), .int (mi 31), .int (mi 32), .int (mi 33), .ref (n 34), .ref (n 35), .int (mq 36), .int (mq 37), .int (mq 38), .ref (n 39), .ref (n 40), .ref (n 41), .ref (n 42), .int (mq 43), .int (mq 44), .int (mq 45)])), (n 2, .inl (cI, 10, .inl (mav 2))), (n 3, .inl (cI, 10, .inl (mav 3)))]) (vp_Si (fun r => r = nI (wayN px py sx sy pc a b))) 0 0 (fun _ => False) := by
  cases a with
  | none =>
    cases b with
    | none => exact k_X9_way_nn l D cI cJ cZ cM h0 n mi mq mav n0 px py pm sx sy pc lst hmp
    | some j => exact k_X9_way_ns l D cI cJ cZ cM h0 n mi mq mav n0 px py pm sx sy pc lst hmp j (hb j rfl)
  | some i =>
    cases b with
    | none => exact k_X9_way_sn l D cI cJ cZ cM h0 n mi mq mav n0 px py pm sx sy pc lst hmp i (ha i rfl)
    | some j => exact k_X9_way_ss l D cI cJ cZ cM h0 n mi mq mav n0 px py pm sx sy pc lst hmp i (ha i rfl) j (hb j rfl)
set_option maxHeartbeats 4000000 in
set_option maxRecDepth 100000 in
/-- X9_begins: the loop at 2 -/
theorem lp_X9_begins {p : Program} {l : Launch} {e : Env} {s : State} {m : MethodId} {args : Array Value} {below : List Frame} {meth : Method} {c : Code} {Q : State → Prop} {D : va_G} {cI cJ cZ cM : Nat} {h0 : Nat} {n : Nat → Nat} {mi : Nat → Int32} {mq : Nat → Int32} {mav : Nat → Nat → Int32} {k : Nat} {t0 : Nat} {n0 : Nat} {px : Nat → Nat} {py : Nat → Nat} {pm : Nat → Nat} {H : Heap} (hx : p.tables.exec = Jvm.exec) (hb : c.code = cX9_begins) (hml : c.maxLocals = 5) (hts : ∀ w ∈ wsX9_begins, w.before args s = true) (hown : s.vm.findClass RX9 = some m.cls) (hG : GK D cI cJ cZ cM s) (hP : va_P D vwCl [(h0, .inr (9, [.ref (n 0), .int (mi 1), .ref (n 2), .ref (n 3), .ref (n 4), .ref (n 5), .ref (n 6), .int (mi 7), .ref (n 8), .ref (n 9), .ref (n 10), .ref (n 11), .ref (n 12), .ref (n 13), .ref (n 14), .int (mi 15), .int (mi 16), .ref (n 17), .ref (n 18), .ref (n 19), .ref (n 20), .ref (n 21), .ref (n 22), .ref (n 23), .ref (n 24), .ref (n 25), .int (mi 26), .int (mi 27), .int (mi 28), .int (mi 29), .int (mi 30), .int (mi 31), .int (mi 32), .int (mi 33), .ref (n 34), .ref (n 35), .int (mq 36), .int (mq 37), .int (mq 38), .ref (n 39), .ref (n 40), .ref (n 41), .ref (n 42), .int (mq 43), .int (mq 44), .int (mq 45)])), (n 0, .inl (cI, 1600, .inl (mav 0))), (n 2, .inl (cI, 10, .inl (mav 2))), (n 3, .inl (cI, 10, .inl (mav 3))), (n 24, .inl (cI, 24, .inl (mav 24))), (n 25, .inl (cI, 24, .inl (mav 25)))] H) (h_mk : ∀ i, i < n0 → mav 2 i = nI (px i) ∧ mav 3 i = nI (py i) ∧ mav 21 i = nI (pm i) ∧ px i ≤ 39 ∧ py i ≤ 39 ∧ pm i ≤ 600) (hn0 : n0 ≤ 10) (hk : k < n0) :
    ∀ (k9 : Nat) (t : Nat), (t0 ≤ t) → (t < 100000) → (∀ j, t0 ≤ j → j < t → ¬ opM_ mi mav px py k (j / 60)) → 1440 - t < k9 → ∀ (ls : Array Slot), lv_has ls 5 [(3, .int (nI t)), (0, .ref h0), (1, .int (nI k)), (2, .int (nI t0))] → (∀  (ls : Array Slot), (∀ j, t0 ≤ j → j < 1440 → ¬ opM_ mi mav px py k (j / 60)) → lv_has ls 5 [(0, .ref h0), (1, .int (nI k)), (2, .int (nI t0))] → W p l e (headSpec wsX9_begins ({ frames := 0, cells := 0, slots := 0, locals := 0 } : Room)).room s m args below meth c H [] 0 0 Q (F0 m 79 ls [])) → (∀ (t : Nat) (ls : Array Slot), (t0 ≤ t) → (t < 1440) → (opM_ mi mav px py k (t / 60)) → (∀ j, t0 ≤ j → j < t → ¬ opM_ mi mav px py k (j / 60)) → lv_has ls 5 [(0, .ref h0), (1, .int (nI k)), (2, .int (nI t0))] → W p l e (headSpec wsX9_begins ({ frames := 0, cells := 0, slots := 0, locals := 0 } : Room)).room s m args below meth c H [] 0 0 Q (F0 m 66 ls [.int (nI t)])) → W p l e (headSpec wsX9_begins ({ frames := 0, cells := 0, slots := 0, locals := 0 } : Room)).room s m args below meth c H [] 0 0 Q (F0 m 2 ls []) := by
  have hK := hG.1
  have hN := hG.2
  intro k9
  induction k9 with
  | zero => intro t ht hb9 hno hfu; exact absurd hfu (Nat.not_lt_zero _)
  | succ k9 ih =>
    intro t ht hb9 hno hfu ls hl kk0 kk1
    obtain ⟨hx_k, hy_k, hm_k, bx_k, by_k, bm_k⟩ := h_mk k hk
    rcases Nat.lt_or_ge t 1440 with hlt | hge
    · refine lv_iload_n hx hb dX9_begins_2 rfl (lv_at hl 0 rfl) ?_
      refine lv_sipush (v := 1440) hx hb dX9_begins_3 (by decide) ?_
      refine lv_icmp_ge (tgt := 79) hx hb dX9_begins_6 (by decide) (fun c_1 => absurd c_1 (nI_ge hlt (by decide))) (fun c_1 => ?_)
      refine lv_iload_n hx hb dX9_begins_9 rfl (lv_at hl 0 rfl) ?_
      refine lv_bipush (v := 60) hx hb dX9_begins_10 (by decide) ?_
      refine lv_idiv hx hb dX9_begins_12 (by decide) ?_
      refine lv_topi (fun z_2 ez_2 => ?_)
      obtain rfl : z_2 = nI (t / 60) := ez_2.trans (pk_div (by omega) (by decide) (by decide))
      refine lv_istore (lv' := [(4, .int (nI (t / 60))), (3, .int (nI t)), (0, .ref h0), (1, .int (nI k)), (2, .int (nI t0))]) hx hb dX9_begins_13 hl (by decide) rfl (fun ls hl => ?_)
      refine lv_aload_n hx hb dX9_begins_15 rfl (lv_at hl 2 rfl) ?_
      refine va_get (D := D) (ci := 9) (v := .ref (n 0)) (C := RX9) (T := TX9) (N := 46) hx hb hts (fun _ h9 => List.mem_cons_of_mem _ (List.mem_append_right _ h9)) hown hK hP 0 rfl rfl 0 (by decide) (hts (.fieldLink RX9 7 "BuoyTenderModel" "depth" "[I") (by decide +kernel)) (fun _ h9 => h9) rfl dX9_begins_16 ?_
      refine lv_bipush (v := 40) hx hb dX9_begins_19 (by decide) ?_
      refine lv_aload_n hx hb dX9_begins_21 rfl (lv_at hl 2 rfl) ?_
      refine va_get (D := D) (ci := 9) (v := .ref (n 2)) (C := RX9) (T := TX9) (N := 46) hx hb hts (fun _ h9 => List.mem_cons_of_mem _ (List.mem_append_right _ h9)) hown hK hP 0 rfl rfl 2 (by decide) (hts (.fieldLink RX9 13 "BuoyTenderModel" "stationX" "[I") (by decide +kernel)) (fun _ h9 => h9) rfl dX9_begins_22 ?_
      refine lv_iload_n hx hb dX9_begins_25 rfl (lv_at hl 3 rfl) ?_
      refine va_iald hx hb hK hP 2 0 rfl rfl (vp_in_nI (by omega) (by decide)) dX9_begins_26 ?_
      refine lv_topi (fun z_3 ez_3 => ?_)
      obtain rfl : z_3 = (mav 2) k := ez_3.trans (congrArg (mav 2) (nI_clamp (by omega)))
      refine lv_topi (fun z_4 ez_4 => ?_)
      obtain rfl : z_4 = nI (px k) := ez_4.trans hx_k
      refine lv_imul hx hb dX9_begins_27 ?_
      refine lv_topi (fun z_5 ez_5 => ?_)
      obtain rfl : z_5 = nI (40 * (px k)) := ez_5.trans (pk_mul 40 (px k))
      refine lv_aload_n hx hb dX9_begins_28 rfl (lv_at hl 2 rfl) ?_
      refine va_get (D := D) (ci := 9) (v := .ref (n 3)) (C := RX9) (T := TX9) (N := 46) hx hb hts (fun _ h9 => List.mem_cons_of_mem _ (List.mem_append_right _ h9)) hown hK hP 0 rfl rfl 3 (by decide) (hts (.fieldLink RX9 16 "BuoyTenderModel" "stationY" "[I") (by decide +kernel)) (fun _ h9 => h9) rfl dX9_begins_29 ?_
      refine lv_iload_n hx hb dX9_begins_32 rfl (lv_at hl 3 rfl) ?_
      refine va_iald hx hb hK hP 3 0 rfl rfl (vp_in_nI (by omega) (by decide)) dX9_begins_33 ?_
      refine lv_topi (fun z_6 ez_6 => ?_)
      obtain rfl : z_6 = (mav 3) k := ez_6.trans (congrArg (mav 3) (nI_clamp (by omega)))
      refine lv_topi (fun z_7 ez_7 => ?_)
      obtain rfl : z_7 = nI (py k) := ez_7.trans hy_k
      refine lv_iadd hx hb dX9_begins_34 ?_
      refine lv_topi (fun z_8 ez_8 => ?_)
      obtain rfl : z_8 = nI ((40 * (px k)) + (py k)) := ez_8.trans (nI_add (40 * (px k)) (py k))
      refine va_iald hx hb hK hP 1 0 rfl rfl (vp_in_nI (by omega) (by decide)) dX9_begins_35 ?_
      refine lv_topi (fun z_9 ez_9 => ?_)
      obtain rfl : z_9 = (mav 0) ((40 * (px k)) + (py k)) := ez_9.trans (congrArg (mav 0) (nI_clamp (by omega)))
      refine lv_aload_n hx hb dX9_begins_36 rfl (lv_at hl 2 rfl) ?_
      refine va_get (D := D) (ci := 9) (v := .ref (n 24)) (C := RX9) (T := TX9) (N := 46) hx hb hts (fun _ h9 => List.mem_cons_of_mem _ (List.mem_append_right _ h9)) hown hK hP 0 rfl rfl 24 (by decide) (hts (.fieldLink RX9 71 "BuoyTenderModel" "tide" "[I") (by decide +kernel)) (fun _ h9 => h9) rfl dX9_begins_37 ?_
      refine lv_iload hx hb dX9_begins_40 (lv_at hl 0 rfl) ?_
      refine va_iald hx hb hK hP 4 0 rfl rfl (vp_in_nI (by omega) (by decide)) dX9_begins_42 ?_
      refine lv_topi (fun z_10 ez_10 => ?_)
      obtain rfl : z_10 = (mav 24) (t / 60) := ez_10.trans (congrArg (mav 24) (nI_clamp (by omega)))
      refine lv_iadd hx hb dX9_begins_43 ?_
      refine lv_aload_n hx hb dX9_begins_44 rfl (lv_at hl 2 rfl) ?_
      refine va_get (D := D) (ci := 9) (v := .int (mi 27)) (C := RX9) (T := TX9) (N := 46) hx hb hts (fun _ h9 => List.mem_cons_of_mem _ (List.mem_append_right _ h9)) hown hK hP 0 rfl rfl 27 (by decide) (hts (.fieldLink RX9 152 "BuoyTenderModel" "draught" "I") (by decide +kernel)) (fun _ h9 => h9) rfl dX9_begins_45 ?_
      refine lv_icmp_lt (tgt := 67) hx hb dX9_begins_48 (by decide) (fun c_11 => ?_) (fun c_11 => ?_)
      · refine lv_bipush (v := 60) hx hb dX9_begins_67 (by decide) ?_
        refine lv_iload hx hb dX9_begins_69 (lv_at hl 0 rfl) ?_
        refine lv_imul hx hb dX9_begins_71 ?_
        refine lv_topi (fun z_12 ez_12 => ?_)
        obtain rfl : z_12 = nI (60 * (t / 60)) := ez_12.trans (pk_mul 60 (t / 60))
        refine lv_bipush (v := 60) hx hb dX9_begins_72 (by decide) ?_
        refine lv_iadd hx hb dX9_begins_74 ?_
        refine lv_topi (fun z_13 ez_13 => ?_)
        obtain rfl : z_13 = nI ((60 * (t / 60)) + 60) := ez_13.trans (nI_add (60 * (t / 60)) 60)
        refine lv_istore_n (lv' := [(3, .int (nI ((60 * (t / 60)) + 60))), (4, .int (nI (t / 60))), (0, .ref h0), (1, .int (nI k)), (2, .int (nI t0))]) hx hb dX9_begins_75 rfl hl (by decide) rfl (fun ls hl => ?_)
        refine lv_goto (tgt := 2) hx hb dX9_begins_76 (by decide) ?_
        exact ih ((60 * (t / 60)) + 60) (by omega) (by omega) (fun j g1 g2 => (Nat.lt_or_ge j t).elim (hno j g1) (fun q => by rw [show j / 60 = t / 60 by omega]; exact (fun q => Int32.not_lt.mpr q.1 c_11))) (by omega) _ (lv_sub hl [0, 2, 3, 4] rfl) kk0 kk1
      refine lv_aload_n hx hb dX9_begins_51 rfl (lv_at hl 2 rfl) ?_
      refine va_get (D := D) (ci := 9) (v := .ref (n 25)) (C := RX9) (T := TX9) (N := 46) hx hb hts (fun _ h9 => List.mem_cons_of_mem _ (List.mem_append_right _ h9)) hown hK hP 0 rfl rfl 25 (by decide) (hts (.fieldLink RX9 74 "BuoyTenderModel" "wind" "[I") (by decide +kernel)) (fun _ h9 => h9) rfl dX9_begins_52 ?_
      refine lv_iload hx hb dX9_begins_55 (lv_at hl 0 rfl) ?_
      refine va_iald hx hb hK hP 5 0 rfl rfl (vp_in_nI (by omega) (by decide)) dX9_begins_57 ?_
      refine lv_topi (fun z_14 ez_14 => ?_)
      obtain rfl : z_14 = (mav 25) (t / 60) := ez_14.trans (congrArg (mav 25) (nI_clamp (by omega)))
      refine lv_aload_n hx hb dX9_begins_58 rfl (lv_at hl 2 rfl) ?_
      refine va_get (D := D) (ci := 9) (v := .int (mi 28)) (C := RX9) (T := TX9) (N := 46) hx hb hts (fun _ h9 => List.mem_cons_of_mem _ (List.mem_append_right _ h9)) hown hK hP 0 rfl rfl 28 (by decide) (hts (.fieldLink RX9 81 "BuoyTenderModel" "mostWind" "I") (by decide +kernel)) (fun _ h9 => h9) rfl dX9_begins_59 ?_
      refine lv_icmp_gt (tgt := 67) hx hb dX9_begins_62 (by decide) (fun c_15 => ?_) (fun c_15 => ?_)
      · refine lv_bipush (v := 60) hx hb dX9_begins_67 (by decide) ?_
        refine lv_iload hx hb dX9_begins_69 (lv_at hl 0 rfl) ?_
        refine lv_imul hx hb dX9_begins_71 ?_
        refine lv_topi (fun z_16 ez_16 => ?_)
        obtain rfl : z_16 = nI (60 * (t / 60)) := ez_16.trans (pk_mul 60 (t / 60))
        refine lv_bipush (v := 60) hx hb dX9_begins_72 (by decide) ?_
        refine lv_iadd hx hb dX9_begins_74 ?_
        refine lv_topi (fun z_17 ez_17 => ?_)
        obtain rfl : z_17 = nI ((60 * (t / 60)) + 60) := ez_17.trans (nI_add (60 * (t / 60)) 60)
        refine lv_istore_n (lv' := [(3, .int (nI ((60 * (t / 60)) + 60))), (4, .int (nI (t / 60))), (0, .ref h0), (1, .int (nI k)), (2, .int (nI t0))]) hx hb dX9_begins_75 rfl hl (by decide) rfl (fun ls hl => ?_)
        refine lv_goto (tgt := 2) hx hb dX9_begins_76 (by decide) ?_
        exact ih ((60 * (t / 60)) + 60) (by omega) (by omega) (fun j g1 g2 => (Nat.lt_or_ge j t).elim (hno j g1) (fun q => by rw [show j / 60 = t / 60 by omega]; exact (fun q => Int32.not_lt.mpr q.2 c_15))) (by omega) _ (lv_sub hl [0, 2, 3, 4] rfl) kk0 kk1
      refine lv_iload_n hx hb dX9_begins_65 rfl (lv_at hl 1 rfl) ?_
      exact kk1 t _ ht hlt ⟨Int32.not_lt.mp c_11, Int32.not_lt.mp c_15⟩ hno (lv_sub hl [2, 3, 4] rfl)
    · refine lv_iload_n hx hb dX9_begins_2 rfl (lv_at hl 0 rfl) ?_
      refine lv_sipush (v := 1440) hx hb dX9_begins_3 (by decide) ?_
      refine lv_icmp_ge (tgt := 79) hx hb dX9_begins_6 (by decide) (fun c_18 => ?_) (fun c_18 => absurd (nI_le hge (by omega)) c_18)
      exact kk0  _ (fun j g1 g2 => hno j g1 (by omega)) (lv_sub hl [1, 2, 3] rfl)
set_option maxHeartbeats 4000000 in
set_option maxRecDepth 100000 in
/-- the first minute at which it may begin -/
theorem k_X9_begins (l : Launch) (D : va_G) (cI cJ cZ cM : Nat) (h0 : Nat) (n : Nat → Nat) (mi : Nat → Int32) (mq : Nat → Int32) (mav : Nat → Nat → Int32) (n0 : Nat) (px : Nat → Nat) (py : Nat → Nat) (pm : Nat → Nat) (sx : Nat) (sy : Nat) (pc : Nat) (lst : Nat) (hmp : MPok n0 mi mav px py pm sx sy pc lst) (k : Nat) (hk : k < n0) (t0 : Nat) (ht0 : t0 < 90000) : Met l yX9_begins wsX9_begins ({ frames := 0, cells := 0, slots := 0, locals := 0 } : Room) (RO D cI cJ cZ cM [.ref h0, .int (nI k), .int (nI t0)] [(h0, .inr (9, [.ref (n 0), .int (mi 1), .ref (n 2), .ref (n 3), .ref (n 4), .ref (n 5), .ref (n 6), .int (mi 7), .ref (n 8), .ref (n 9), .ref (n 10), .ref (n 11), .ref (n 12), .ref (n 13), .ref (n 14), .int (mi 15), .int (mi 16), .ref (n 17), .ref (n 18), .ref (n 19), .ref (n 20), .ref (n 21), .ref (n 22), .ref (n 23), .ref (n 24), .ref (n 25), .int (mi 26), .int (mi 27), .int (mi 28), .int (mi 29), .int (mi 30), .int (mi 31), .int (mi 32), .int (mi 33), .ref (n 34), .ref (n 35), .int (mq 36), .int (mq 37), .int (mq 38), .ref (n 39), .ref (n 40), .ref (n 41), .ref (n 42), .int (mq 43), .int (mq 44), .int (mq 45)])), (n 0, .inl (cI, 1600, .inl (mav 0))), (n 2, .inl (cI, 10, .inl (mav 2))), (n 3, .inl (cI, 10, .inl (mav 3))), (n 24, .inl (cI, 24, .inl (mav 24))), (n 25, .inl (cI, 24, .inl (mav 25)))]) (vp_Si (fun r => r = encO (bgF (opM_ mi mav px py) k t0))) 0 0 (fun _ => False) := by
  refine Met.ofW (cc := cX9_begins) (maxL := 5) (ret := (some .int)) (by decide) rfl ?_
  intro p e s m args below meth c s₁ B hml hv
  obtain ⟨rfl, hG, hP⟩ := hv
  have hx := B.exec
  have hb := B.bytes
  have hr := B.returns
  have hts := atoms_spec (ws := wsX9_begins) B.pre
  have hown : s.vm.findClass RX9 = some m.cls := findClass_of_methodNamed B.named
  have hlocks := B.notSynchronized
  have hK := hG.1
  have hN := hG.2
  have hl := lv_entry ([.ref h0, .int (nI k), .int (nI t0)]) (n := 5) (Nat.le_of_ble_eq_true rfl)
  rw [lg_entry_eq]
  generalize (lg_sl ([.ref h0, .int (nI k), .int (nI t0)]) ++ List.replicate (5 - (lg_sl ([.ref h0, .int (nI k), .int (nI t0)])).length) Slot.unset).toArray = ls at hl ⊢
  have hl : lv_has ls 5 [(0, .ref h0), (1, .int (nI k)), (2, .int (nI t0))] := hl
  obtain ⟨hn0, h_n, h_sx, h_sy, h_pc, h_la, b_sx, b_sy, b_pc, b_la, h_mk⟩ := id hmp
  refine lv_iload_n hx hb dX9_begins_0 rfl (lv_at hl 2 rfl) ?_
  refine lv_istore_n (lv' := [(3, .int (nI t0)), (0, .ref h0), (1, .int (nI k)), (2, .int (nI t0))]) hx hb dX9_begins_1 rfl hl (by decide) rfl (fun ls hl => ?_)
  have hPl := hP.sub (ws' := [(h0, .inr (9, [.ref (n 0), .int (mi 1), .ref (n 2), .ref (n 3), .ref (n 4), .ref (n 5), .ref (n 6), .int (mi 7), .ref (n 8), .ref (n 9), .ref (n 10), .ref (n 11), .ref (n 12), .ref (n 13), .ref (n 14), .int (mi 15), .int (mi 16), .ref (n 17), .ref (n 18), .ref (n 19), .ref (n 20), .ref (n 21), .ref (n 22), .ref (n 23), .ref (n 24), .ref (n 25), .int (mi 26), .int (mi 27), .int (mi 28), .int (mi 29), .int (mi 30), .int (mi 31), .int (mi 32), .int (mi 33), .ref (n 34), .ref (n 35), .int (mq 36), .int (mq 37), .int (mq 38), .ref (n 39), .ref (n 40), .ref (n 41), .ref (n 42), .int (mq 43), .int (mq 44), .int (mq 45)])), (n 0, .inl (cI, 1600, .inl (mav 0))), (n 2, .inl (cI, 10, .inl (mav 2))), (n 3, .inl (cI, 10, .inl (mav 3))), (n 24, .inl (cI, 24, .inl (mav 24))), (n 25, .inl (cI, 24, .inl (mav 25)))]) [0, 1, 2, 3, 4, 5] rfl
  refine lp_X9_begins hx hb hml hts hown hG hPl h_mk hn0 hk (1440 + 1) t0 (Nat.le_refl _) (by omega) (fun j g1 g2 => absurd g2 (by omega)) (by omega) _ (lv_sub hl [0, 1, 2, 3] rfl) (fun  ls e_1_0 hl => ?_) (fun t_2 ls e_2_0 e_2_1 e_2_2 e_2_3 hl => ?_)
  · refine lv_iconst (v := (-1)) hx hb dX9_begins_79 (by decide) ?_
    exact W.iret (v := (-1)) hx hb hr (fun t ht hW => ⟨(-1), rfl, (by rw [bgP_uniq (bgF_P _ _ _) (Or.inl ⟨rfl, e_1_0⟩)]; rfl), ht⟩) (fun _ h => by cases h) dX9_begins_80
  exact W.iret (v := (nI t_2)) hx hb hr (fun t ht hW => ⟨(nI t_2), rfl, (by rw [bgP_uniq (bgF_P _ _ _) (Or.inr ⟨_, rfl, e_2_0, e_2_1, e_2_2, e_2_3⟩)]; rfl), ht⟩) (fun _ h => by cases h) dX9_begins_66
