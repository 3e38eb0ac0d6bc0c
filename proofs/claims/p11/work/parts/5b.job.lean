set_option maxHeartbeats 4000000 in
set_option maxRecDepth 100000 in
/-- a mark that there is -/
theorem k_X8_known_y (l : Launch) (D : va_G) (cI cJ cZ cM : Nat) (h0 : Nat) (a : Nat → Nat) (iv : Nat → Int32) (ma : Nat → Nat → Nat) (n0 : Nat) (fM : Nat → Option Nat) (hn0 : n0 ≤ 10) (hfM : ∀ i, i < 10 → (i < n0 → fM i = some (ma i 0)) ∧ (n0 ≤ i → fM i = none)) (h_n : iv 0 = nI n0) (i_ : Nat) (hi_ : i_ < n0) : Met l yX8_known wsX8_known ({ frames := 0, cells := 0, slots := 0, locals := 0 } : Room) (RO D cI cJ cZ cM [.ref h0, .int (nI i_)] [(h0, .inr (8, [.ref (a 1), .ref (a 2), .ref (a 3), .ref (a 4), .ref (a 5), .ref (a 6), .ref (a 7), .ref (a 8), .int (iv 0), .int (iv 1), .int (iv 2), .int (iv 3)])), (a 2, .inl (cM, 10, .inr (.inr (.inr (.inr fM)))))]) (va_Sq (fun r => r = some (ma i_ 0))) 0 0 (fun _ => False) := by
  refine Met.ofW (cc := cX8_known) (maxL := 2) (ret := (some (.object "BuoyTender$Mark"))) (by decide) rfl ?_
  intro p e s m args below meth c s₁ B hml hv
  obtain ⟨rfl, hG, hP⟩ := hv
  have hx := B.exec
  have hb := B.bytes
  have hr := B.returns
  have hts := atoms_spec (ws := wsX8_known) B.pre
  have hown : s.vm.findClass RX8 = some m.cls := findClass_of_methodNamed B.named
  have hlocks := B.notSynchronized
  have hK := hG.1
  have hN := hG.2
  have hl := lv_entry ([.ref h0, .int (nI i_)]) (n := 2) (Nat.le_of_ble_eq_true rfl)
  rw [lg_entry_eq]
  generalize (lg_sl ([.ref h0, .int (nI i_)]) ++ List.replicate (2 - (lg_sl ([.ref h0, .int (nI i_)])).length) Slot.unset).toArray = ls at hl ⊢
  have hl : lv_has ls 2 [(0, .ref h0), (1, .int (nI i_))] := hl
  refine lv_iload_n hx hb dX8_known_0 rfl (lv_at hl 1 rfl) ?_
  refine lv_if_lt (tgt := 30) hx hb dX8_known_1 (by decide) (fun c_1 => absurd c_1 (nI_pos (by omega))) (fun c_1 => ?_)
  refine lv_iload_n hx hb dX8_known_4 rfl (lv_at hl 1 rfl) ?_
  refine lv_aload_n hx hb dX8_known_5 rfl (lv_at hl 0 rfl) ?_
  refine va_get (D := D) (ci := 8) (v := .int (iv 0)) (C := RX8) (T := TX8) (N := 12) hx hb hts (fun _ h9 => List.mem_cons_of_mem _ (List.mem_append_right _ h9)) hown hK hP 0 rfl rfl 8 (by decide) (hts (.fieldLink RX8 69 "BuoyTender" "markCount" "I") (by decide +kernel)) (fun _ h9 => h9) rfl dX8_known_6 ?_
  refine lv_topi (fun z_2 ez_2 => ?_)
  obtain rfl : z_2 = nI n0 := ez_2.trans h_n
  refine lv_icmp_ge (tgt := 30) hx hb dX8_known_9 (by decide) (fun c_3 => absurd c_3 (nI_ge hi_ (by omega))) (fun c_3 => ?_)
  refine lv_iload_n hx hb dX8_known_12 rfl (lv_at hl 1 rfl) ?_
  refine lv_aload_n hx hb dX8_known_13 rfl (lv_at hl 0 rfl) ?_
  refine va_get (D := D) (ci := 8) (v := .ref (a 2)) (C := RX8) (T := TX8) (N := 12) hx hb hts (fun _ h9 => List.mem_cons_of_mem _ (List.mem_append_right _ h9)) hown hK hP 0 rfl rfl 1 (by decide) (hts (.fieldLink RX8 15 "BuoyTender" "marks" "[LBuoyTender$Mark;") (by decide +kernel)) (fun _ h9 => h9) rfl dX8_known_14 ?_
  refine va_alen (v := 10) hx hb hK hP 1 3 rfl rfl rfl dX8_known_17 ?_
  refine lv_icmp_ge (tgt := 30) hx hb dX8_known_18 (by decide) (fun c_4 => absurd c_4 (nI_ge (show i_ < 10 by omega) (by decide))) (fun c_4 => ?_)
  refine lv_aload_n hx hb dX8_known_21 rfl (lv_at hl 0 rfl) ?_
  refine va_get (D := D) (ci := 8) (v := .ref (a 2)) (C := RX8) (T := TX8) (N := 12) hx hb hts (fun _ h9 => List.mem_cons_of_mem _ (List.mem_append_right _ h9)) hown hK hP 0 rfl rfl 1 (by decide) (hts (.fieldLink RX8 15 "BuoyTender" "marks" "[LBuoyTender$Mark;") (by decide +kernel)) (fun _ h9 => h9) rfl dX8_known_22 ?_
  refine lv_iload_n hx hb dX8_known_25 rfl (lv_at hl 1 rfl) ?_
  refine va_aldq hx hb hK hP 1 3 rfl rfl (vp_in_nI (by omega) (by decide)) dX8_known_26 ?_
  refine lv_goto (tgt := 31) hx hb dX8_known_27 (by decide) ?_
  exact W.aret hx hb hr (Or.inl ⟨_, rfl⟩) (va_rf_or _) (fun t ht hW => ⟨fM (nI i_).toNatClampNeg, rfl, (by rw [nI_clamp (by omega)]; exact (hfM i_ (by omega)).1 hi_), ht⟩) (fun _ h => by cases h) dX8_known_31
set_option maxHeartbeats 4000000 in
set_option maxRecDepth 100000 in
/-- no such mark -/
theorem k_X8_known_n (l : Launch) (D : va_G) (cI cJ cZ cM : Nat) (h0 : Nat) (a : Nat → Nat) (iv : Nat → Int32) (ma : Nat → Nat → Nat) (n0 : Nat) (fM : Nat → Option Nat) (hn0 : n0 ≤ 10) (hfM : ∀ i, i < 10 → (i < n0 → fM i = some (ma i 0)) ∧ (n0 ≤ i → fM i = none)) (h_n : iv 0 = nI n0) (x1 : Int32) (hno : ¬ isM n0 x1) : Met l yX8_known wsX8_known ({ frames := 0, cells := 0, slots := 0, locals := 0 } : Room) (RO D cI cJ cZ cM [.ref h0, .int x1] [(h0, .inr (8, [.ref (a 1), .ref (a 2), .ref (a 3), .ref (a 4), .ref (a 5), .ref (a 6), .ref (a 7), .ref (a 8), .int (iv 0), .int (iv 1), .int (iv 2), .int (iv 3)])), (a 2, .inl (cM, 10, .inr (.inr (.inr (.inr fM)))))]) (va_Sq (fun r => r = none)) 0 0 (fun _ => False) := by
  refine Met.ofW (cc := cX8_known) (maxL := 2) (ret := (some (.object "BuoyTender$Mark"))) (by decide) rfl ?_
  intro p e s m args below meth c s₁ B hml hv
  obtain ⟨rfl, hG, hP⟩ := hv
  have hx := B.exec
  have hb := B.bytes
  have hr := B.returns
  have hts := atoms_spec (ws := wsX8_known) B.pre
  have hown : s.vm.findClass RX8 = some m.cls := findClass_of_methodNamed B.named
  have hlocks := B.notSynchronized
  have hK := hG.1
  have hN := hG.2
  have hl := lv_entry ([.ref h0, .int x1]) (n := 2) (Nat.le_of_ble_eq_true rfl)
  rw [lg_entry_eq]
  generalize (lg_sl ([.ref h0, .int x1]) ++ List.replicate (2 - (lg_sl ([.ref h0, .int x1])).length) Slot.unset).toArray = ls at hl ⊢
  have hl : lv_has ls 2 [(0, .ref h0), (1, .int x1)] := hl
  refine lv_iload_n hx hb dX8_known_0 rfl (lv_at hl 1 rfl) ?_
  refine lv_if_lt (tgt := 30) hx hb dX8_known_1 (by decide) (fun c_1 => ?_) (fun c_1 => ?_)
  · refine lv_null hx hb dX8_known_30 ?_
    exact W.aret hx hb hr (Or.inl ⟨_, rfl⟩) (Or.inl rfl) (fun t ht hW => ⟨none, rfl, rfl, ht⟩) (fun _ h => by cases h) dX8_known_31
  refine lv_iload_n hx hb dX8_known_4 rfl (lv_at hl 1 rfl) ?_
  refine lv_aload_n hx hb dX8_known_5 rfl (lv_at hl 0 rfl) ?_
  refine va_get (D := D) (ci := 8) (v := .int (iv 0)) (C := RX8) (T := TX8) (N := 12) hx hb hts (fun _ h9 => List.mem_cons_of_mem _ (List.mem_append_right _ h9)) hown hK hP 0 rfl rfl 8 (by decide) (hts (.fieldLink RX8 69 "BuoyTender" "markCount" "I") (by decide +kernel)) (fun _ h9 => h9) rfl dX8_known_6 ?_
  refine lv_topi (fun z_2 ez_2 => ?_)
  obtain rfl : z_2 = nI n0 := ez_2.trans h_n
  refine lv_icmp_ge (tgt := 30) hx hb dX8_known_9 (by decide) (fun c_3 => ?_) (fun c_3 => (hno (isM_of c_1 c_3 (by omega))).elim)
  refine lv_null hx hb dX8_known_30 ?_
  exact W.aret hx hb hr (Or.inl ⟨_, rfl⟩) (Or.inl rfl) (fun t ht hW => ⟨none, rfl, rfl, ht⟩) (fun _ h => by cases h) dX8_known_31
set_option maxHeartbeats 4000000 in
set_option maxRecDepth 100000 in
/-- X8_job -/
theorem k_X8_job (l : Launch) (D : va_G) (cI cJ cZ cM : Nat) (h0 : Nat) (a : Nat → Nat) (iv : Nat → Int32) (av : Nat → Nat → Int32) (ma : Nat → Nat → Nat) (mv : Nat → Nat → Int32) (mso : Nat → Nat → Int64) (mrs : Nat → Nat → Int32) (n0 : Nat) (fM : Nat → Option Nat) (hn0 : n0 ≤ 10) (hfM : ∀ i, i < 10 → (i < n0 → fM i = some (ma i 0)) ∧ (n0 ≤ i → fM i = none)) (h_n : iv 0 = nI n0) (x1 : Int32) (x2 : Int32) (x3 : Int32) (x4 : Int32) (sz : Nat) : Met l yX8_job wsX8_job ({ frames := 1, cells := 0, slots := 0, locals := 22 } : Room) (RW D cI cJ cZ cM [.ref h0, .int x1, .int x2, .int x3, .int x4] ([(h0, .inr (8, [.ref (a 1), .ref (a 2), .ref (a 3), .ref (a 4), .ref (a 5), .ref (a 6), .ref (a 7), .ref (a 8), .int (iv 0), .int (iv 1), .int (iv 2), .int (iv 3)])), (a 2, .inl (cM, 10, .inr (.inr (.inr (.inr fM)))))] ++ MG cI cJ ma mv mso mrs n0) sz) (va_Qi (S := Int32 × (Nat → Nat → Int32)) (fun r u => (r = 1 ∧ (isM n0 x1 ∧ (0 ≤ x2 ∧ x2 ≤ 600) ∧ (0 ≤ x3 ∧ x3 ≤ 1000) ∧ (0 ≤ x4 ∧ x4 ≤ 1000)) ∧ ∃ i, i < n0 ∧ x1 = nI i ∧ u = (0, mup (mup (mup mv i 3 x2) i 4 x3) i 5 x4)) ∨ (r = 0 ∧ ¬ (isM n0 x1 ∧ (0 ≤ x2 ∧ x2 ≤ 600) ∧ (0 ≤ x3 ∧ x3 ≤ 1000) ∧ (0 ≤ x4 ∧ x4 ≤ 1000)) ∧ u = (iv 3, mv))) (BB D (fun u => [(h0, .inr (8, [.ref (a 1), .ref (a 2), .ref (a 3), .ref (a 4), .ref (a 5), .ref (a 6), .ref (a 7), .ref (a 8), .int (iv 0), .int (iv 1), .int (iv 2), .int u.1])), (a 2, .inl (cM, 10, .inr (.inr (.inr (.inr fM)))))] ++ MG cI cJ ma u.2 mso mrs n0) (va_A ([(h0, .inr (8, [.ref (a 1), .ref (a 2), .ref (a 3), .ref (a 4), .ref (a 5), .ref (a 6), .ref (a 7), .ref (a 8), .int (iv 0), .int (iv 1), .int (iv 2), .int (iv 3)])), (a 2, .inl (cM, 10, .inr (.inr (.inr (.inr fM)))))] ++ MG cI cJ ma mv mso mrs n0) sz)) (va_A ([(h0, .inr (8, [.ref (a 1), .ref (a 2), .ref (a 3), .ref (a 4), .ref (a 5), .ref (a 6), .ref (a 7), .ref (a 8), .int (iv 0), .int (iv 1), .int (iv 2), .int (iv 3)])), (a 2, .inl (cM, 10, .inr (.inr (.inr (.inr fM)))))] ++ MG cI cJ ma mv mso mrs n0) sz)) 0 0 (va_A ([(h0, .inr (8, [.ref (a 1), .ref (a 2), .ref (a 3), .ref (a 4), .ref (a 5), .ref (a 6), .ref (a 7), .ref (a 8), .int (iv 0), .int (iv 1), .int (iv 2), .int (iv 3)])), (a 2, .inl (cM, 10, .inr (.inr (.inr (.inr fM)))))] ++ MG cI cJ ma mv mso mrs n0) sz) := by
  refine Met.ofW (cc := cX8_job) (maxL := 6) (ret := (some .boolean)) (by decide) rfl ?_
  intro p e s m args below meth c s₁ B hml hv
  obtain ⟨rfl, hsz, hG, hP, hD0⟩ := hv
  have hx := B.exec
  have hb := B.bytes
  have hr := B.returns
  have hts := atoms_spec (ws := wsX8_job) B.pre
  have hown : s.vm.findClass RX8 = some m.cls := findClass_of_methodNamed B.named
  have hlocks := B.notSynchronized
  have hK := hG.1
  have hN := hG.2
  subst hsz
  have hD := hD0.self (sz := s.heap.size)
  generalize hAe : va_A ([(h0, .inr (8, [.ref (a 1), .ref (a 2), .ref (a 3), .ref (a 4), .ref (a 5), .ref (a 6), .ref (a 7), .ref (a 8), .int (iv 0), .int (iv 1), .int (iv 2), .int (iv 3)])), (a 2, .inl (cM, 10, .inr (.inr (.inr (.inr fM)))))] ++ MG cI cJ ma mv mso mrs n0) s.heap.size = A at hD ⊢
  have hA : ∀ q : Nat, s.heap.size ≤ q → A q := fun q h => by rw [← hAe]; exact Or.inr h
  have hS : va_S A s.heap s.heap [] := va_S.rf
  have hP : va_P D vwCl ([(h0, .inr (8, [.ref (a 1), .ref (a 2), .ref (a 3), .ref (a 4), .ref (a 5), .ref (a 6), .ref (a 7), .ref (a 8), .int (iv 0), .int (iv 1), .int (iv 2), .int (iv 3)])), (a 2, .inl (cM, 10, .inr (.inr (.inr (.inr fM)))))] ++ MG cI cJ ma mv mso mrs n0) s.heap := hP
  have hl := lv_entry ([.ref h0, .int x1, .int x2, .int x3, .int x4]) (n := 6) (Nat.le_of_ble_eq_true rfl)
  rw [lg_entry_eq]
  generalize (lg_sl ([.ref h0, .int x1, .int x2, .int x3, .int x4]) ++ List.replicate (6 - (lg_sl ([.ref h0, .int x1, .int x2, .int x3, .int x4])).length) Slot.unset).toArray = ls at hl ⊢
  have hl : lv_has ls 6 [(0, .ref h0), (1, .int x1), (2, .int x2), (3, .int x3), (4, .int x4)] := hl
  refine lv_aload_n hx hb dX8_job_0 rfl (lv_at hl 0 rfl) ?_
  refine lv_iload_n hx hb dX8_job_1 rfl (lv_at hl 1 rfl) ?_
  rcases Classical.em (isM n0 x1) with ⟨m1_, hm1_, rfl⟩ | hno_1
  · have hl : lv_has ls 6 [(0, .ref h0), (1, .int (nI m1_)), (2, .int x2), (3, .int x3), (4, .int x4)] := hl
    have hPc := hP.sub (ws' := [(h0, .inr (8, [.ref (a 1), .ref (a 2), .ref (a 3), .ref (a 4), .ref (a 5), .ref (a 6), .ref (a 7), .ref (a 8), .int (iv 0), .int (iv 1), .int (iv 2), .int (iv 3)])), (a 2, .inl (cM, 10, .inr (.inr (.inr (.inr fM)))))]) [0, 1] rfl
    refine va_csq (va_Run.run (va_runV (As := [.int (nI m1_)]) (rest := []) ⟨hx, hb, hml, hown, hts⟩ (k_X8_known_y l D cI cJ cZ cM h0 a iv ma n0 fM hn0 hfM h_n m1_ hm1_) (cwV 1 hts gX8_job_X8_known rfl rfl rfl (by decide +kernel) ⟨Nat.le_of_ble_eq_true rfl, Nat.le_of_ble_eq_true rfl⟩) (ro_V hG hPc (va_recv hK hPc (ci := 8) (q0 := 0) rfl rfl)) rfl rfl hl.1 rfl (lv_room (Nat.le_of_ble_eq_true rfl)) dX8_job_2 ⟨Nat.le_of_ble_eq_true rfl, Nat.le_of_ble_eq_true rfl⟩)) (fun r_1 h_1 => ?_)
    obtain rfl : r_1 = some (ma m1_ 0) := h_1
    refine W.eq (g2 := F0 m 5 ls [.ref (ma m1_ 0)]) rfl ?_
    refine lv_astore (lv' := [(5, .ref (ma m1_ 0)), (0, .ref h0), (1, .int (nI m1_)), (2, .int x2), (3, .int x3), (4, .int x4)]) hx hb dX8_job_5 hl (by decide) rfl (fun ls hl => ?_)
    refine lv_aload hx hb dX8_job_7 (lv_at hl 0 rfl) ?_
    refine lv_ifnull hx hb dX8_job_9 ?_
    refine lv_iload_n hx hb dX8_job_12 rfl (lv_at hl 3 rfl) ?_
    refine lv_iconst (v := 0) hx hb dX8_job_13 (by decide) ?_
    refine lv_sipush (v := 600) hx hb dX8_job_14 (by decide) ?_
    refine vp_callSi (va_Run.run (va_runS (As := [.int x2, .int 0, .int 600]) (rest := []) ⟨hx, hb, hml, hown, hts⟩ (k_X8_within l x2 0 600) (va_cwS 3 hts gX8_job_X8_within rfl rfl rfl (by decide +kernel) ⟨Nat.le_of_ble_eq_true rfl, Nat.le_of_ble_eq_true rfl⟩) preEq rfl rfl hl.1 rfl (lv_room (Nat.le_of_ble_eq_true rfl)) dX8_job_17 ⟨Nat.le_of_ble_eq_true rfl, Nat.le_of_ble_eq_true rfl⟩)) (fun r_2 h_2 => ?_)
    rcases h_2 with ⟨rfl, h_2⟩ | ⟨rfl, h_2⟩
    · refine lv_if_eq (tgt := 46) hx hb dX8_job_20 (by decide) (fun c_3 => False.elim (by revert c_3; decide)) (fun _ => ?_)
      refine lv_iload_n hx hb dX8_job_23 rfl (lv_at hl 4 rfl) ?_
      refine lv_iconst (v := 0) hx hb dX8_job_24 (by decide) ?_
      refine lv_sipush (v := 1000) hx hb dX8_job_25 (by decide) ?_
      refine vp_callSi (va_Run.run (va_runS (As := [.int x3, .int 0, .int 1000]) (rest := []) ⟨hx, hb, hml, hown, hts⟩ (k_X8_within l x3 0 1000) (va_cwS 3 hts gX8_job_X8_within rfl rfl rfl (by decide +kernel) ⟨Nat.le_of_ble_eq_true rfl, Nat.le_of_ble_eq_true rfl⟩) preEq rfl rfl hl.1 rfl (lv_room (Nat.le_of_ble_eq_true rfl)) dX8_job_28 ⟨Nat.le_of_ble_eq_true rfl, Nat.le_of_ble_eq_true rfl⟩)) (fun r_4 h_4 => ?_)
      rcases h_4 with ⟨rfl, h_4⟩ | ⟨rfl, h_4⟩
      · refine lv_if_eq (tgt := 46) hx hb dX8_job_31 (by decide) (fun c_5 => False.elim (by revert c_5; decide)) (fun _ => ?_)
        refine lv_iload hx hb dX8_job_34 (lv_at hl 5 rfl) ?_
        refine lv_iconst (v := 0) hx hb dX8_job_36 (by decide) ?_
        refine lv_sipush (v := 1000) hx hb dX8_job_37 (by decide) ?_
        refine vp_callSi (va_Run.run (va_runS (As := [.int x4, .int 0, .int 1000]) (rest := []) ⟨hx, hb, hml, hown, hts⟩ (k_X8_within l x4 0 1000) (va_cwS 3 hts gX8_job_X8_within rfl rfl rfl (by decide +kernel) ⟨Nat.le_of_ble_eq_true rfl, Nat.le_of_ble_eq_true rfl⟩) preEq rfl rfl hl.1 rfl (lv_room (Nat.le_of_ble_eq_true rfl)) dX8_job_40 ⟨Nat.le_of_ble_eq_true rfl, Nat.le_of_ble_eq_true rfl⟩)) (fun r_6 h_6 => ?_)
        rcases h_6 with ⟨rfl, h_6⟩ | ⟨rfl, h_6⟩
        · refine lv_if_ne (tgt := 48) hx hb dX8_job_43 (by decide) (fun _ => ?_) (fun c_7 => False.elim (by revert c_7; decide))
          refine lv_aload hx hb dX8_job_48 (lv_at hl 0 rfl) ?_
          refine lv_iload_n hx hb dX8_job_50 rfl (lv_at hl 3 rfl) ?_
          refine va_putN (D := D) (ci := 1) (v := .int x2) (ty := (tyX1 6)) (C := RX1) (T := TX1) (N := 9) hx hb hts (fun _ h9 => List.mem_cons_of_mem _ (List.mem_append_left _ (List.mem_append_right _ h9))) tyX1 tyX1_ok nmX1 hown hK hP hD hS (2 + (6 * m1_ + 0)) (mg_x0 rfl hm1_) rfl 6 (by decide) (va_Nw.use rfl (hN.1 (RX8, 218, "BuoyTender$Mark", "minutes", "I", "BuoyTender") (by decide +kernel))) (fun _ h9 => h9) rfl (by decide +kernel) rfl rfl (Nat.le_of_ble_eq_true rfl) dX8_job_51 (fun H locs hP hD hS => ?_)
          have eS9 := mg_set (cI := cI) (cJ := cJ) (ma := ma) (mv := mv) (mv' := (mup mv m1_ 3 x2)) (mso := mso) (mso' := mso) (mrs := mrs) (mrs' := mrs) (X := [(h0, .inr (8, [.ref (a 1), .ref (a 2), .ref (a 3), .ref (a 4), .ref (a 5), .ref (a 6), .ref (a 7), .ref (a 8), .int (iv 0), .int (iv 1), .int (iv 2), .int (iv 3)])), (a 2, .inl (cM, 10, .inr (.inr (.inr (.inr fM)))))]) (N := 2) (n := n0) (i := m1_) (k := 0) (c := (ma m1_ 0, .inr (1, [.int (mv m1_ 0), .int (mv m1_ 1), .int (mv m1_ 2), .ref (ma m1_ 1), .ref (ma m1_ 3), .ref (ma m1_ 4), .int x2, .int (mv m1_ 4), .int (mv m1_ 5)]))) rfl hm1_ (by decide) (fun j hj => ⟨fun q => mup_j hj, rfl, rfl⟩) (by simp [MKc, mup])
          have hP : va_P D vwCl ((([(h0, .inr (8, [.ref (a 1), .ref (a 2), .ref (a 3), .ref (a 4), .ref (a 5), .ref (a 6), .ref (a 7), .ref (a 8), .int (iv 0), .int (iv 1), .int (iv 2), .int (iv 3)])), (a 2, .inl (cM, 10, .inr (.inr (.inr (.inr fM)))))] : va_W) ++ MG cI cJ ma mv mso mrs n0).set (2 + (6 * m1_ + 0)) (ma m1_ 0, .inr (1, [.int (mv m1_ 0), .int (mv m1_ 1), .int (mv m1_ 2), .ref (ma m1_ 1), .ref (ma m1_ 3), .ref (ma m1_ 4), .int x2, .int (mv m1_ 4), .int (mv m1_ 5)]))) H := hP
          have hD : va_D A ((([(h0, .inr (8, [.ref (a 1), .ref (a 2), .ref (a 3), .ref (a 4), .ref (a 5), .ref (a 6), .ref (a 7), .ref (a 8), .int (iv 0), .int (iv 1), .int (iv 2), .int (iv 3)])), (a 2, .inl (cM, 10, .inr (.inr (.inr (.inr fM)))))] : va_W) ++ MG cI cJ ma mv mso mrs n0).set (2 + (6 * m1_ + 0)) (ma m1_ 0, .inr (1, [.int (mv m1_ 0), .int (mv m1_ 1), .int (mv m1_ 2), .ref (ma m1_ 1), .ref (ma m1_ 3), .ref (ma m1_ 4), .int x2, .int (mv m1_ 4), .int (mv m1_ 5)]))) := hD
          rw [eS9] at hP hD
          have hP : va_P D vwCl ([(h0, .inr (8, [.ref (a 1), .ref (a 2), .ref (a 3), .ref (a 4), .ref (a 5), .ref (a 6), .ref (a 7), .ref (a 8), .int (iv 0), .int (iv 1), .int (iv 2), .int (iv 3)])), (a 2, .inl (cM, 10, .inr (.inr (.inr (.inr fM)))))] ++ MG cI cJ ma (mup mv m1_ 3 x2) mso mrs n0) H := hP
          have hD : va_D A ([(h0, .inr (8, [.ref (a 1), .ref (a 2), .ref (a 3), .ref (a 4), .ref (a 5), .ref (a 6), .ref (a 7), .ref (a 8), .int (iv 0), .int (iv 1), .int (iv 2), .int (iv 3)])), (a 2, .inl (cM, 10, .inr (.inr (.inr (.inr fM)))))] ++ MG cI cJ ma (mup mv m1_ 3 x2) mso mrs n0) := hD
          refine lv_aload hx hb dX8_job_54 (lv_at hl 0 rfl) ?_
          refine lv_iload_n hx hb dX8_job_56 rfl (lv_at hl 4 rfl) ?_
          refine va_putN (D := D) (ci := 1) (v := .int x3) (ty := (tyX1 7)) (C := RX1) (T := TX1) (N := 9) hx hb hts (fun _ h9 => List.mem_cons_of_mem _ (List.mem_append_left _ (List.mem_append_right _ h9))) tyX1 tyX1_ok nmX1 hown hK hP hD hS (2 + (6 * m1_ + 0)) (mg_x0 rfl hm1_) rfl 7 (by decide) (va_Nw.use rfl (hN.1 (RX8, 221, "BuoyTender$Mark", "load", "I", "BuoyTender") (by decide +kernel))) (fun _ h9 => h9) rfl (by decide +kernel) rfl rfl (Nat.le_of_ble_eq_true rfl) dX8_job_57 (fun H locs hP hD hS => ?_)
          have eS9 := mg_set (cI := cI) (cJ := cJ) (ma := ma) (mv := (mup mv m1_ 3 x2)) (mv' := (mup (mup mv m1_ 3 x2) m1_ 4 x3)) (mso := mso) (mso' := mso) (mrs := mrs) (mrs' := mrs) (X := [(h0, .inr (8, [.ref (a 1), .ref (a 2), .ref (a 3), .ref (a 4), .ref (a 5), .ref (a 6), .ref (a 7), .ref (a 8), .int (iv 0), .int (iv 1), .int (iv 2), .int (iv 3)])), (a 2, .inl (cM, 10, .inr (.inr (.inr (.inr fM)))))]) (N := 2) (n := n0) (i := m1_) (k := 0) (c := (ma m1_ 0, .inr (1, [.int ((mup mv m1_ 3 x2) m1_ 0), .int ((mup mv m1_ 3 x2) m1_ 1), .int ((mup mv m1_ 3 x2) m1_ 2), .ref (ma m1_ 1), .ref (ma m1_ 3), .ref (ma m1_ 4), .int ((mup mv m1_ 3 x2) m1_ 3), .int x3, .int ((mup mv m1_ 3 x2) m1_ 5)]))) rfl hm1_ (by decide) (fun j hj => ⟨fun q => mup_j hj, rfl, rfl⟩) (by simp [MKc, mup])
          have hP : va_P D vwCl ((([(h0, .inr (8, [.ref (a 1), .ref (a 2), .ref (a 3), .ref (a 4), .ref (a 5), .ref (a 6), .ref (a 7), .ref (a 8), .int (iv 0), .int (iv 1), .int (iv 2), .int (iv 3)])), (a 2, .inl (cM, 10, .inr (.inr (.inr (.inr fM)))))] : va_W) ++ MG cI cJ ma (mup mv m1_ 3 x2) mso mrs n0).set (2 + (6 * m1_ + 0)) (ma m1_ 0, .inr (1, [.int ((mup mv m1_ 3 x2) m1_ 0), .int ((mup mv m1_ 3 x2) m1_ 1), .int ((mup mv m1_ 3 x2) m1_ 2), .ref (ma m1_ 1), .ref (ma m1_ 3), .ref (ma m1_ 4), .int ((mup mv m1_ 3 x2) m1_ 3), .int x3, .int ((mup mv m1_ 3 x2) m1_ 5)]))) H := hP
          have hD : va_D A ((([(h0, .inr (8, [.ref (a 1), .ref (a 2), .ref (a 3), .ref (a 4), .ref (a 5), .ref (a 6), .ref (a 7), .ref (a 8), .int (iv 0), .int (iv 1), .int (iv 2), .int (iv 3)])), (a 2, .inl (cM, 10, .inr (.inr (.inr (.inr fM)))))] : va_W) ++ MG cI cJ ma (mup mv m1_ 3 x2) mso mrs n0).set (2 + (6 * m1_ + 0)) (ma m1_ 0, .inr (1, [.int ((mup mv m1_ 3 x2) m1_ 0), .int ((mup mv m1_ 3 x2) m1_ 1), .int ((mup mv m1_ 3 x2) m1_ 2), .ref (ma m1_ 1), .ref (ma m1_ 3), .ref (ma m1_ 4), .int ((mup mv m1_ 3 x2) m1_ 3), .int x3, .int ((mup mv m1_ 3 x2) m1_ 5)]))) := hD
          rw [eS9] at hP hD
          have hP : va_P D vwCl ([(h0, .inr (8, [.ref (a 1), .ref (a 2), .ref (a 3), .ref (a 4), .ref (a 5), .ref (a 6), .ref (a 7), .ref (a 8), .int (iv 0), .int (iv 1), .int (iv 2), .int (iv 3)])), (a 2, .inl (cM, 10, .inr (.inr (.inr (.inr fM)))))] ++ MG cI cJ ma (mup (mup mv m1_ 3 x2) m1_ 4 x3) mso mrs n0) H := hP
          have hD : va_D A ([(h0, .inr (8, [.ref (a 1), .ref (a 2), .ref (a 3), .ref (a 4), .ref (a 5), .ref (a 6), .ref (a 7), .ref (a 8), .int (iv 0), .int (iv 1), .int (iv 2), .int (iv 3)])), (a 2, .inl (cM, 10, .inr (.inr (.inr (.inr fM)))))] ++ MG cI cJ ma (mup (mup mv m1_ 3 x2) m1_ 4 x3) mso mrs n0) := hD
          refine lv_aload hx hb dX8_job_60 (lv_at hl 0 rfl) ?_
          refine lv_iload hx hb dX8_job_62 (lv_at hl 5 rfl) ?_
          refine va_putN (D := D) (ci := 1) (v := .int x4) (ty := (tyX1 8)) (C := RX1) (T := TX1) (N := 9) hx hb hts (fun _ h9 => List.mem_cons_of_mem _ (List.mem_append_left _ (List.mem_append_right _ h9))) tyX1 tyX1_ok nmX1 hown hK hP hD hS (2 + (6 * m1_ + 0)) (mg_x0 rfl hm1_) rfl 8 (by decide) (va_Nw.use rfl (hN.1 (RX8, 224, "BuoyTender$Mark", "weight", "I", "BuoyTender") (by decide +kernel))) (fun _ h9 => h9) rfl (by decide +kernel) rfl rfl (Nat.le_of_ble_eq_true rfl) dX8_job_64 (fun H locs hP hD hS => ?_)
          have eS9 := mg_set (cI := cI) (cJ := cJ) (ma := ma) (mv := (mup (mup mv m1_ 3 x2) m1_ 4 x3)) (mv' := (mup (mup (mup mv m1_ 3 x2) m1_ 4 x3) m1_ 5 x4)) (mso := mso) (mso' := mso) (mrs := mrs) (mrs' := mrs) (X := [(h0, .inr (8, [.ref (a 1), .ref (a 2), .ref (a 3), .ref (a 4), .ref (a 5), .ref (a 6), .ref (a 7), .ref (a 8), .int (iv 0), .int (iv 1), .int (iv 2), .int (iv 3)])), (a 2, .inl (cM, 10, .inr (.inr (.inr (.inr fM)))))]) (N := 2) (n := n0) (i := m1_) (k := 0) (c := (ma m1_ 0, .inr (1, [.int ((mup (mup mv m1_ 3 x2) m1_ 4 x3) m1_ 0), .int ((mup (mup mv m1_ 3 x2) m1_ 4 x3) m1_ 1), .int ((mup (mup mv m1_ 3 x2) m1_ 4 x3) m1_ 2), .ref (ma m1_ 1), .ref (ma m1_ 3), .ref (ma m1_ 4), .int ((mup (mup mv m1_ 3 x2) m1_ 4 x3) m1_ 3), .int ((mup (mup mv m1_ 3 x2) m1_ 4 x3) m1_ 4), .int x4]))) rfl hm1_ (by decide) (fun j hj => ⟨fun q => mup_j hj, rfl, rfl⟩) (by simp [MKc, mup])
          have hP : va_P D vwCl ((([(h0, .inr (8, [.ref (a 1), .ref (a 2), .ref (a 3), .ref (a 4), .ref (a 5), .ref (a 6), .ref (a 7), .ref (a 8), .int (iv 0), .int (iv 1), .int (iv 2), .int (iv 3)])), (a 2, .inl (cM, 10, .inr (.inr (.inr (.inr fM)))))] : va_W) ++ MG cI cJ ma (mup (mup mv m1_ 3 x2) m1_ 4 x3) mso mrs n0).set (2 + (6 * m1_ + 0)) (ma m1_ 0, .inr (1, [.int ((mup (mup mv m1_ 3 x2) m1_ 4 x3) m1_ 0), .int ((mup (mup mv m1_ 3 x2) m1_ 4 x3) m1_ 1), .int ((mup (mup mv m1_ 3 x2) m1_ 4 x3) m1_ 2), .ref (ma m1_ 1), .ref (ma m1_ 3), .ref (ma m1_ 4), .int ((mup (mup mv m1_ 3 x2) m1_ 4 x3) m1_ 3), .int ((mup (mup mv m1_ 3 x2) m1_ 4 x3) m1_ 4), .int x4]))) H := hP
          have hD : va_D A ((([(h0, .inr (8, [.ref (a 1), .ref (a 2), .ref (a 3), .ref (a 4), .ref (a 5), .ref (a 6), .ref (a 7), .ref (a 8), .int (iv 0), .int (iv 1), .int (iv 2), .int (iv 3)])), (a 2, .inl (cM, 10, .inr (.inr (.inr (.inr fM)))))] : va_W) ++ MG cI cJ ma (mup (mup mv m1_ 3 x2) m1_ 4 x3) mso mrs n0).set (2 + (6 * m1_ + 0)) (ma m1_ 0, .inr (1, [.int ((mup (mup mv m1_ 3 x2) m1_ 4 x3) m1_ 0), .int ((mup (mup mv m1_ 3 x2) m1_ 4 x3) m1_ 1), .int ((mup (mup mv m1_ 3 x2) m1_ 4 x3) m1_ 2), .ref (ma m1_ 1), .ref (ma m1_ 3), .ref (ma m1_ 4), .int ((mup (mup mv m1_ 3 x2) m1_ 4 x3) m1_ 3), .int ((mup (mup mv m1_ 3 x2) m1_ 4 x3) m1_ 4), .int x4]))) := hD
          rw [eS9] at hP hD
          have hP : va_P D vwCl ([(h0, .inr (8, [.ref (a 1), .ref (a 2), .ref (a 3), .ref (a 4), .ref (a 5), .ref (a 6), .ref (a 7), .ref (a 8), .int (iv 0), .int (iv 1), .int (iv 2), .int (iv 3)])), (a 2, .inl (cM, 10, .inr (.inr (.inr (.inr fM)))))] ++ MG cI cJ ma (mup (mup (mup mv m1_ 3 x2) m1_ 4 x3) m1_ 5 x4) mso mrs n0) H := hP
          have hD : va_D A ([(h0, .inr (8, [.ref (a 1), .ref (a 2), .ref (a 3), .ref (a 4), .ref (a 5), .ref (a 6), .ref (a 7), .ref (a 8), .int (iv 0), .int (iv 1), .int (iv 2), .int (iv 3)])), (a 2, .inl (cM, 10, .inr (.inr (.inr (.inr fM)))))] ++ MG cI cJ ma (mup (mup (mup mv m1_ 3 x2) m1_ 4 x3) m1_ 5 x4) mso mrs n0) := hD
          refine lv_aload_n hx hb dX8_job_67 rfl (lv_at hl 1 rfl) ?_
          refine lv_iconst (v := 0) hx hb dX8_job_68 (by decide) ?_
          refine va_put (D := D) (ci := 8) (v := .int 0) (ty := (tyX8 11)) (C := RX8) (T := TX8) (N := 12) hx hb hts (fun _ h9 => List.mem_cons_of_mem _ (List.mem_append_right _ h9)) tyX8 tyX8_ok nmX8 hown hK hP hD hS 0 rfl rfl 11 (by decide) (hts (.fieldLink RX8 65 "BuoyTender" "planned" "Z") (by decide +kernel)) (fun _ h9 => h9) rfl (by decide +kernel) rfl rfl (Nat.le_of_ble_eq_true rfl) dX8_job_69 (fun H locs hP hD hS => ?_)
          have hP : va_P D vwCl ([(h0, .inr (8, [.ref (a 1), .ref (a 2), .ref (a 3), .ref (a 4), .ref (a 5), .ref (a 6), .ref (a 7), .ref (a 8), .int (iv 0), .int (iv 1), .int (iv 2), .int 0])), (a 2, .inl (cM, 10, .inr (.inr (.inr (.inr fM)))))] ++ MG cI cJ ma (mup (mup (mup mv m1_ 3 x2) m1_ 4 x3) m1_ 5 x4) mso mrs n0) H := hP
          have hD : va_D A ([(h0, .inr (8, [.ref (a 1), .ref (a 2), .ref (a 3), .ref (a 4), .ref (a 5), .ref (a 6), .ref (a 7), .ref (a 8), .int (iv 0), .int (iv 1), .int (iv 2), .int 0])), (a 2, .inl (cM, 10, .inr (.inr (.inr (.inr fM)))))] ++ MG cI cJ ma (mup (mup (mup mv m1_ 3 x2) m1_ 4 x3) m1_ 5 x4) mso mrs n0) := hD
          refine lv_iconst (v := 1) hx hb dX8_job_72 (by decide) ?_
          have hP9 := hP.part (cx := [(h0, .inr (8, [.ref (a 1), .ref (a 2), .ref (a 3), .ref (a 4), .ref (a 5), .ref (a 6), .ref (a 7), .ref (a 8), .int (iv 0), .int (iv 1), .int (iv 2), .int 0])), (a 2, .inl (cM, 10, .inr (.inr (.inr (.inr fM)))))]) [0, 1] rfl
          have hD9 := hD.part (cx := [(h0, .inr (8, [.ref (a 1), .ref (a 2), .ref (a 3), .ref (a 4), .ref (a 5), .ref (a 6), .ref (a 7), .ref (a 8), .int (iv 0), .int (iv 1), .int (iv 2), .int 0])), (a 2, .inl (cM, 10, .inr (.inr (.inr (.inr fM)))))]) [0, 1] (by decide) rfl
          exact W.zret (v := 1) hx hb hr rfl (fun t ht hW => ⟨⟨1, (0, mup (mup (mup mv m1_ 3 x2) m1_ 4 x3) m1_ 5 x4), rfl, (Or.inl ⟨rfl, ⟨⟨m1_, hm1_, rfl⟩, h_2, h_4, h_6⟩, _, hm1_, rfl, rfl⟩), ⟨by rw [ht]; exact hP9, hD9⟩⟩, hS.F ht⟩) hS.2.2 dX8_job_73
        refine lv_if_ne (tgt := 48) hx hb dX8_job_43 (by decide) (fun c_8 => False.elim (by revert c_8; decide)) (fun _ => ?_)
        refine lv_iconst (v := 0) hx hb dX8_job_46 (by decide) ?_
        have hP9 := hP.part (cx := [(h0, .inr (8, [.ref (a 1), .ref (a 2), .ref (a 3), .ref (a 4), .ref (a 5), .ref (a 6), .ref (a 7), .ref (a 8), .int (iv 0), .int (iv 1), .int (iv 2), .int (iv 3)])), (a 2, .inl (cM, 10, .inr (.inr (.inr (.inr fM)))))]) [0, 1] rfl
        have hD9 := hD.part (cx := [(h0, .inr (8, [.ref (a 1), .ref (a 2), .ref (a 3), .ref (a 4), .ref (a 5), .ref (a 6), .ref (a 7), .ref (a 8), .int (iv 0), .int (iv 1), .int (iv 2), .int (iv 3)])), (a 2, .inl (cM, 10, .inr (.inr (.inr (.inr fM)))))]) [0, 1] (by decide) rfl
        exact W.zret (v := 0) hx hb hr rfl (fun t ht hW => ⟨⟨0, (iv 3, mv), rfl, (Or.inr ⟨rfl, fun h9 => h_6 (h9.2.2.2), rfl⟩), ⟨by rw [ht]; exact hP9, hD9⟩⟩, hS.F ht⟩) hS.2.2 dX8_job_47
      refine lv_if_eq (tgt := 46) hx hb dX8_job_31 (by decide) (fun _ => ?_) (fun c_9 => False.elim (by revert c_9; decide))
      refine lv_iconst (v := 0) hx hb dX8_job_46 (by decide) ?_
      have hP9 := hP.part (cx := [(h0, .inr (8, [.ref (a 1), .ref (a 2), .ref (a 3), .ref (a 4), .ref (a 5), .ref (a 6), .ref (a 7), .ref (a 8), .int (iv 0), .int (iv 1), .int (iv 2), .int (iv 3)])), (a 2, .inl (cM, 10, .inr (.inr (.inr (.inr fM)))))]) [0, 1] rfl
      have hD9 := hD.part (cx := [(h0, .inr (8, [.ref (a 1), .ref (a 2), .ref (a 3), .ref (a 4), .ref (a 5), .ref (a 6), .ref (a 7), .ref (a 8), .int (iv 0), .int (iv 1), .int (iv 2), .int (iv 3)])), (a 2, .inl (cM, 10, .inr (.inr (.inr (.inr fM)))))]) [0, 1] (by decide) rfl
      exact W.zret (v := 0) hx hb hr rfl (fun t ht hW => ⟨⟨0, (iv 3, mv), rfl, (Or.inr ⟨rfl, fun h9 => h_4 (h9.2.2.1), rfl⟩), ⟨by rw [ht]; exact hP9, hD9⟩⟩, hS.F ht⟩) hS.2.2 dX8_job_47
    refine lv_if_eq (tgt := 46) hx hb dX8_job_20 (by decide) (fun _ => ?_) (fun c_10 => False.elim (by revert c_10; decide))
    refine lv_iconst (v := 0) hx hb dX8_job_46 (by decide) ?_
    have hP9 := hP.part (cx := [(h0, .inr (8, [.ref (a 1), .ref (a 2), .ref (a 3), .ref (a 4), .ref (a 5), .ref (a 6), .ref (a 7), .ref (a 8), .int (iv 0), .int (iv 1), .int (iv 2), .int (iv 3)])), (a 2, .inl (cM, 10, .inr (.inr (.inr (.inr fM)))))]) [0, 1] rfl
    have hD9 := hD.part (cx := [(h0, .inr (8, [.ref (a 1), .ref (a 2), .ref (a 3), .ref (a 4), .ref (a 5), .ref (a 6), .ref (a 7), .ref (a 8), .int (iv 0), .int (iv 1), .int (iv 2), .int (iv 3)])), (a 2, .inl (cM, 10, .inr (.inr (.inr (.inr fM)))))]) [0, 1] (by decide) rfl
    exact W.zret (v := 0) hx hb hr rfl (fun t ht hW => ⟨⟨0, (iv 3, mv), rfl, (Or.inr ⟨rfl, fun h9 => h_2 (h9.2.1), rfl⟩), ⟨by rw [ht]; exact hP9, hD9⟩⟩, hS.F ht⟩) hS.2.2 dX8_job_47
  · have hPc := hP.sub (ws' := [(h0, .inr (8, [.ref (a 1), .ref (a 2), .ref (a 3), .ref (a 4), .ref (a 5), .ref (a 6), .ref (a 7), .ref (a 8), .int (iv 0), .int (iv 1), .int (iv 2), .int (iv 3)])), (a 2, .inl (cM, 10, .inr (.inr (.inr (.inr fM)))))]) [0, 1] rfl
    refine va_csq (va_Run.run (va_runV (As := [.int x1]) (rest := []) ⟨hx, hb, hml, hown, hts⟩ (k_X8_known_n l D cI cJ cZ cM h0 a iv ma n0 fM hn0 hfM h_n x1 hno_1) (cwV 1 hts gX8_job_X8_known rfl rfl rfl (by decide +kernel) ⟨Nat.le_of_ble_eq_true rfl, Nat.le_of_ble_eq_true rfl⟩) (ro_V hG hPc (va_recv hK hPc (ci := 8) (q0 := 0) rfl rfl)) rfl rfl hl.1 rfl (lv_room (Nat.le_of_ble_eq_true rfl)) dX8_job_2 ⟨Nat.le_of_ble_eq_true rfl, Nat.le_of_ble_eq_true rfl⟩)) (fun r_1 h_1 => ?_)
    obtain rfl : r_1 = none := h_1
    refine W.eq (g2 := F0 m 5 ls [.null]) rfl ?_
    refine lv_astoreN (lv' := [(5, .null), (0, .ref h0), (1, .int x1), (2, .int x2), (3, .int x3), (4, .int x4)]) hx hb dX8_job_5 hl (by decide) rfl (fun ls hl => ?_)
    refine lv_aloadN hx hb dX8_job_7 (lv_at hl 0 rfl) ?_
    refine lv_ifnullN (tgt := 46) hx hb dX8_job_9 (by decide) ?_
    refine lv_iconst (v := 0) hx hb dX8_job_46 (by decide) ?_
    have hP9 := hP.part (cx := [(h0, .inr (8, [.ref (a 1), .ref (a 2), .ref (a 3), .ref (a 4), .ref (a 5), .ref (a 6), .ref (a 7), .ref (a 8), .int (iv 0), .int (iv 1), .int (iv 2), .int (iv 3)])), (a 2, .inl (cM, 10, .inr (.inr (.inr (.inr fM)))))]) [0, 1] rfl
    have hD9 := hD.part (cx := [(h0, .inr (8, [.ref (a 1), .ref (a 2), .ref (a 3), .ref (a 4), .ref (a 5), .ref (a 6), .ref (a 7), .ref (a 8), .int (iv 0), .int (iv 1), .int (iv 2), .int (iv 3)])), (a 2, .inl (cM, 10, .inr (.inr (.inr (.inr fM)))))]) [0, 1] (by decide) rfl
    exact W.zret (v := 0) hx hb hr rfl (fun t ht hW => ⟨⟨0, (iv 3, mv), rfl, (Or.inr ⟨rfl, fun h9 => hno_1 (h9.1), rfl⟩), ⟨by rw [ht]; exact hP9, hD9⟩⟩, hS.F ht⟩) hS.2.2 dX8_job_47
