theorem keep_1 (mv : Nat → Nat → Int32) (i : Nat) (x : Int32) : keepM 14 15 mv (mup mv i 14 x) := fun j q h => by
  rw [mup_k (by omega)]
theorem rm_upd {mv : Nat → Nat → Int32} {n0 m v : Nat} {x : Int32} (h : ∀ i, i < n0 → ∃ q, q ≤ 8 ∧ mv i 14 = nI q) (hv : v ≤ 8) (hx : x = nI v) : ∀ i, i < n0 → ∃ q, q ≤ 8 ∧ mup mv m 14 x i 14 = nI q := fun i hi => by
  by_cases e : i = m
  · exact ⟨v, hv, by rw [e, mup_s]; exact hx⟩
  · obtain ⟨q, h1, h2⟩ := h i hi
    exact ⟨q, h1, by rw [mup_j e]; exact h2⟩
set_option maxHeartbeats 4000000 in
set_option maxRecDepth 100000 in
/-- X8_light -/
theorem k_X8_light (l : Launch) (D : va_G) (cI cJ cZ cM : Nat) (h0 : Nat) (a : Nat → Nat) (iv : Nat → Int32) (av : Nat → Nat → Int32) (ma : Nat → Nat → Nat) (mv : Nat → Nat → Int32) (mso : Nat → Nat → Int64) (mrs : Nat → Nat → Int32) (n0 : Nat) (fM : Nat → Option Nat) (hn0 : n0 ≤ 10) (hfM : ∀ i, i < 10 → (i < n0 → fM i = some (ma i 0)) ∧ (n0 ≤ i → fM i = none)) (h_n : iv 0 = nI n0) (b9 : Nat) (e19 : iv 19 = nI b9) (hb9 : b9 ≤ 8) (hrm : ∀ i, i < n0 → ∃ q, q ≤ 8 ∧ mv i 14 = nI q) (x1 : Int32) (x2 : Int32) (x3 : Int32) (sz : Nat) : Met l yX8_light wsX8_light ({ frames := 3, cells := 0, slots := 0, locals := 69 } : Room) (RW D cI cJ cZ cM [.ref h0, .int x1, .int x2, .int x3] ([(h0, .inr (8, [.ref (a 1), .ref (a 2), .ref (a 3), .ref (a 4), .ref (a 5), .ref (a 6), .ref (a 7), .ref (a 8), .int (iv 0), .int (iv 1), .int (iv 2), .int (iv 3)])), (a 2, .inl (cM, 10, .inr (.inr (.inr (.inr fM))))), (a 8, .inr (3, [.ref (a 15), .int (iv 19)])), (a 15, .inl (cI, 8, .inl (av 15)))] ++ MG cI cJ ma mv mso mrs n0) sz) (va_Qi (S := Int32 × (Nat → Int32) × (Nat → Nat → Int32) × (Nat → Nat → Int32)) (fun r u => (∃ q, q ≤ 8 ∧ u.1 = nI q) ∧ keepM 14 15 mv u.2.2.1 ∧ ∀ i, i < n0 → ∃ q, q ≤ 8 ∧ u.2.2.1 i 14 = nI q) (BB D (fun u => [(h0, .inr (8, [.ref (a 1), .ref (a 2), .ref (a 3), .ref (a 4), .ref (a 5), .ref (a 6), .ref (a 7), .ref (a 8), .int (iv 0), .int (iv 1), .int (iv 2), .int (iv 3)])), (a 2, .inl (cM, 10, .inr (.inr (.inr (.inr fM))))), (a 8, .inr (3, [.ref (a 15), .int u.1])), (a 15, .inl (cI, 8, .inl u.2.1))] ++ MG cI cJ ma u.2.2.1 mso u.2.2.2 n0) (va_A ([(h0, .inr (8, [.ref (a 1), .ref (a 2), .ref (a 3), .ref (a 4), .ref (a 5), .ref (a 6), .ref (a 7), .ref (a 8), .int (iv 0), .int (iv 1), .int (iv 2), .int (iv 3)])), (a 2, .inl (cM, 10, .inr (.inr (.inr (.inr fM))))), (a 8, .inr (3, [.ref (a 15), .int (iv 19)])), (a 15, .inl (cI, 8, .inl (av 15)))] ++ MG cI cJ ma mv mso mrs n0) sz)) (va_A ([(h0, .inr (8, [.ref (a 1), .ref (a 2), .ref (a 3), .ref (a 4), .ref (a 5), .ref (a 6), .ref (a 7), .ref (a 8), .int (iv 0), .int (iv 1), .int (iv 2), .int (iv 3)])), (a 2, .inl (cM, 10, .inr (.inr (.inr (.inr fM))))), (a 8, .inr (3, [.ref (a 15), .int (iv 19)])), (a 15, .inl (cI, 8, .inl (av 15)))] ++ MG cI cJ ma mv mso mrs n0) sz)) 0 0 (va_A ([(h0, .inr (8, [.ref (a 1), .ref (a 2), .ref (a 3), .ref (a 4), .ref (a 5), .ref (a 6), .ref (a 7), .ref (a 8), .int (iv 0), .int (iv 1), .int (iv 2), .int (iv 3)])), (a 2, .inl (cM, 10, .inr (.inr (.inr (.inr fM))))), (a 8, .inr (3, [.ref (a 15), .int (iv 19)])), (a 15, .inl (cI, 8, .inl (av 15)))] ++ MG cI cJ ma mv mso mrs n0) sz) := by
  refine Met.ofW (cc := cX8_light) (maxL := 5) (ret := (some .boolean)) (by decide) rfl ?_
  intro p e s m args below meth c s₁ B hml hv
  obtain ⟨rfl, hsz, hG, hP, hD0⟩ := hv
  have hx := B.exec
  have hb := B.bytes
  have hr := B.returns
  have hts := atoms_spec (ws := wsX8_light) B.pre
  have hown : s.vm.findClass RX8 = some m.cls := findClass_of_methodNamed B.named
  have hlocks := B.notSynchronized
  have hK := hG.1
  have hN := hG.2
  subst hsz
  have hD := hD0.self (sz := s.heap.size)
  generalize hAe : va_A ([(h0, .inr (8, [.ref (a 1), .ref (a 2), .ref (a 3), .ref (a 4), .ref (a 5), .ref (a 6), .ref (a 7), .ref (a 8), .int (iv 0), .int (iv 1), .int (iv 2), .int (iv 3)])), (a 2, .inl (cM, 10, .inr (.inr (.inr (.inr fM))))), (a 8, .inr (3, [.ref (a 15), .int (iv 19)])), (a 15, .inl (cI, 8, .inl (av 15)))] ++ MG cI cJ ma mv mso mrs n0) s.heap.size = A at hD ⊢
  have hA : ∀ q : Nat, s.heap.size ≤ q → A q := fun q h => by rw [← hAe]; exact Or.inr h
  have hS : va_S A s.heap s.heap [] := va_S.rf
  have hP : va_P D vwCl ([(h0, .inr (8, [.ref (a 1), .ref (a 2), .ref (a 3), .ref (a 4), .ref (a 5), .ref (a 6), .ref (a 7), .ref (a 8), .int (iv 0), .int (iv 1), .int (iv 2), .int (iv 3)])), (a 2, .inl (cM, 10, .inr (.inr (.inr (.inr fM))))), (a 8, .inr (3, [.ref (a 15), .int (iv 19)])), (a 15, .inl (cI, 8, .inl (av 15)))] ++ MG cI cJ ma mv mso mrs n0) s.heap := hP
  have hl := lv_entry ([.ref h0, .int x1, .int x2, .int x3]) (n := 5) (Nat.le_of_ble_eq_true rfl)
  rw [lg_entry_eq]
  generalize (lg_sl ([.ref h0, .int x1, .int x2, .int x3]) ++ List.replicate (5 - (lg_sl ([.ref h0, .int x1, .int x2, .int x3])).length) Slot.unset).toArray = ls at hl ⊢
  have hl : lv_has ls 5 [(0, .ref h0), (1, .int x1), (2, .int x2), (3, .int x3)] := hl
  refine lv_aload_n hx hb dX8_light_0 rfl (lv_at hl 0 rfl) ?_
  refine lv_iload_n hx hb dX8_light_1 rfl (lv_at hl 1 rfl) ?_
  rcases Classical.em (isM n0 x1) with ⟨m1_, hm1_, rfl⟩ | hno_1
  · have hl : lv_has ls 5 [(0, .ref h0), (1, .int (nI m1_)), (2, .int x2), (3, .int x3)] := hl
    have hPc := hP.sub (ws' := [(h0, .inr (8, [.ref (a 1), .ref (a 2), .ref (a 3), .ref (a 4), .ref (a 5), .ref (a 6), .ref (a 7), .ref (a 8), .int (iv 0), .int (iv 1), .int (iv 2), .int (iv 3)])), (a 2, .inl (cM, 10, .inr (.inr (.inr (.inr fM)))))]) [0, 1] rfl
    refine va_csq (va_Run.run (va_runV (As := [.int (nI m1_)]) (rest := []) ⟨hx, hb, hml, hown, hts⟩ (k_X8_known_y l D cI cJ cZ cM h0 a iv ma n0 fM hn0 hfM h_n m1_ hm1_) (cwV 1 hts gX8_light_X8_known rfl rfl rfl (by decide +kernel) ⟨Nat.le_of_ble_eq_true rfl, Nat.le_of_ble_eq_true rfl⟩) (ro_V hG hPc (va_recv hK hPc (ci := 8) (q0 := 0) rfl rfl)) rfl rfl hl.1 rfl (lv_room (Nat.le_of_ble_eq_true rfl)) dX8_light_2 ⟨Nat.le_of_ble_eq_true rfl, Nat.le_of_ble_eq_true rfl⟩)) (fun r_1 h_1 => ?_)
    obtain rfl : r_1 = some (ma m1_ 0) := h_1
    refine W.eq (g2 := F0 m 5 ls [.ref (ma m1_ 0)]) rfl ?_
    refine lv_astore (lv' := [(4, .ref (ma m1_ 0)), (0, .ref h0), (1, .int (nI m1_)), (2, .int x2), (3, .int x3)]) hx hb dX8_light_5 hl (by decide) rfl (fun ls hl => ?_)
    refine lv_aload hx hb dX8_light_7 (lv_at hl 0 rfl) ?_
    refine lv_ifnonnull (tgt := 14) hx hb dX8_light_9 (by decide) ?_
    refine lv_iload_n hx hb dX8_light_14 rfl (lv_at hl 3 rfl) ?_
    refine lv_if_ne (tgt := 28) hx hb dX8_light_15 (by decide) (fun c_2 => ?_) (fun c_2 => ?_)
    · refine lv_aload_n hx hb dX8_light_28 rfl (lv_at hl 1 rfl) ?_
      refine va_get (D := D) (ci := 8) (v := .ref (a 8)) (C := RX8) (T := TX8) (N := 12) hx hb hts (fun _ h9 => List.mem_cons_of_mem _ (List.mem_append_left _ (List.mem_append_right _ h9))) hown hK hP 0 rfl rfl 7 (by decide) (hts (.fieldLink RX8 53 "BuoyTender" "proposed" "LBuoyTender$Rhythm;") (by decide +kernel)) (fun _ h9 => h9) rfl dX8_light_29 ?_
      refine lv_iload_n hx hb dX8_light_32 rfl (lv_at hl 3 rfl) ?_
      refine lv_iload_n hx hb dX8_light_33 rfl (lv_at hl 4 rfl) ?_
      have hPc := hP.sub (ws' := [(a 8, .inr (3, [.ref (a 15), .int (iv 19)])), (a 15, .inl (cI, 8, .inl (av 15)))]) [2, 3] rfl
      have hDc := hD.sub (ws' := [(a 8, .inr (3, [.ref (a 15), .int (iv 19)])), (a 15, .inl (cI, 8, .inl (av 15)))]) [2, 3] (by decide) rfl
      have hFc := va_free (wc := [(a 8, .inr (3, [.ref (a 15), .int (iv 19)])), (a 15, .inl (cI, 8, .inl (av 15)))]) hD hS hA [2, 3] rfl
      refine va_calli (va_runVN (As := [.int x2, .int x3]) (rest := []) ⟨hx, hb, hml, hown, hts⟩ (k_X3_read l D cI cJ cZ cM a iv av b9 e19 hb9 x2 x3 _) ⟨(va_cnB 2 hts gX8_light_X3_read_n163 rfl rfl rfl (hN.2.1 (RX8, 163, yX3_read, "BuoyTender") (by decide +kernel)) (hts (.initialized RX3) (by decide +kernel)) (by decide +kernel) ⟨Nat.le_of_ble_eq_true rfl, Nat.le_of_ble_eq_true rfl⟩), hts (.instanceMethod yX3_read) (by decide +kernel), hts (.selects RX3 yX3_read yX3_read) (by decide +kernel)⟩ (rw_V hG hPc hDc (va_recv hK hPc (ci := 3) (q0 := 0) rfl rfl)) rfl rfl hl.1 rfl (lv_room (Nat.le_of_ble_eq_true rfl)) dX8_light_34 ⟨Nat.le_of_ble_eq_true rfl, Nat.le_of_ble_eq_true rfl⟩) hS (fun q _ h => hFc q h) hFc (fun r_3 u_3 t_3 H1 locs ht hvm hw hB hz1 hk1 hS => ?_)
      obtain ⟨i19_3, f15_3⟩ := u_3
      obtain ⟨hP1, hD1⟩ := hB
      rw [ht] at hP1
      obtain ⟨hP, hD⟩ := va_joinQ (wr := [(h0, .inr (8, [.ref (a 1), .ref (a 2), .ref (a 3), .ref (a 4), .ref (a 5), .ref (a 6), .ref (a 7), .ref (a 8), .int (iv 0), .int (iv 1), .int (iv 2), .int (iv 3)])), (a 2, .inl (cM, 10, .inr (.inr (.inr (.inr fM)))))]) (w1 := [(a 8, .inr (3, [.ref (a 15), .int i19_3])), (a 15, .inl (cI, 8, .inl f15_3))]) hP hD [2, 3] [0, 1] rfl rfl (by decide) (by decide) hk1 hFc hP1 hD1
      generalize H1 = H at hP hS ⊢
      have hP : va_P D vwCl ([(h0, .inr (8, [.ref (a 1), .ref (a 2), .ref (a 3), .ref (a 4), .ref (a 5), .ref (a 6), .ref (a 7), .ref (a 8), .int (iv 0), .int (iv 1), .int (iv 2), .int (iv 3)])), (a 2, .inl (cM, 10, .inr (.inr (.inr (.inr fM))))), (a 8, .inr (3, [.ref (a 15), .int i19_3])), (a 15, .inl (cI, 8, .inl f15_3))] ++ MG cI cJ ma mv mso mrs n0) H := hP
      have hD : va_D A ([(h0, .inr (8, [.ref (a 1), .ref (a 2), .ref (a 3), .ref (a 4), .ref (a 5), .ref (a 6), .ref (a 7), .ref (a 8), .int (iv 0), .int (iv 1), .int (iv 2), .int (iv 3)])), (a 2, .inl (cM, 10, .inr (.inr (.inr (.inr fM))))), (a 8, .inr (3, [.ref (a 15), .int i19_3])), (a 15, .inl (cI, 8, .inl f15_3))] ++ MG cI cJ ma mv mso mrs n0) := hD
      obtain ⟨hr9, q9, hq9, eq9⟩ := hw
      have eq9 : i19_3 = nI q9 := eq9
      rcases hr9 with rfl | rfl
      · refine lv_if_eq (tgt := 50) hx hb dX8_light_37 (by decide) (fun _ => ?_) (fun c_4 => False.elim (by revert c_4; decide))
        refine lv_iconst (v := 0) hx hb dX8_light_50 (by decide) ?_
        have hP9 := hP.part (cx := [(h0, .inr (8, [.ref (a 1), .ref (a 2), .ref (a 3), .ref (a 4), .ref (a 5), .ref (a 6), .ref (a 7), .ref (a 8), .int (iv 0), .int (iv 1), .int (iv 2), .int (iv 3)])), (a 2, .inl (cM, 10, .inr (.inr (.inr (.inr fM))))), (a 8, .inr (3, [.ref (a 15), .int i19_3])), (a 15, .inl (cI, 8, .inl f15_3))]) [0, 1, 2, 3] rfl
        have hD9 := hD.part (cx := [(h0, .inr (8, [.ref (a 1), .ref (a 2), .ref (a 3), .ref (a 4), .ref (a 5), .ref (a 6), .ref (a 7), .ref (a 8), .int (iv 0), .int (iv 1), .int (iv 2), .int (iv 3)])), (a 2, .inl (cM, 10, .inr (.inr (.inr (.inr fM))))), (a 8, .inr (3, [.ref (a 15), .int i19_3])), (a 15, .inl (cI, 8, .inl f15_3))]) [0, 1, 2, 3] (by decide) rfl
        exact W.zret (v := 0) hx hb hr rfl (fun t ht hW => ⟨⟨0, (i19_3, f15_3, mv, mrs), rfl, ⟨⟨_, hq9, eq9⟩, keep_0 _, hrm⟩, ⟨by rw [ht]; exact hP9, hD9⟩⟩, hS.F ht⟩) hS.2.2 dX8_light_51
      refine lv_if_eq (tgt := 50) hx hb dX8_light_37 (by decide) (fun c_5 => False.elim (by revert c_5; decide)) (fun _ => ?_)
      refine lv_aload_n hx hb dX8_light_40 rfl (lv_at hl 1 rfl) ?_
      refine lv_iload_n hx hb dX8_light_41 rfl (lv_at hl 2 rfl) ?_
      refine lv_aload hx hb dX8_light_42 (lv_at hl 0 rfl) ?_
      have hPc := hP.part (cx := [(h0, .inr (8, [.ref (a 1), .ref (a 2), .ref (a 3), .ref (a 4), .ref (a 5), .ref (a 6), .ref (a 7), .ref (a 8), .int (iv 0), .int (iv 1), .int (iv 2), .int (iv 3)])), (a 2, .inl (cM, 10, .inr (.inr (.inr (.inr fM))))), (a 8, .inr (3, [.ref (a 15), .int i19_3])), (a 15, .inl (cI, 8, .inl f15_3))]) [0, 1, 2, 3] rfl
      refine vp_callSi (va_Run.run (va_runV (As := [.int (nI m1_), .ref (ma m1_ 0)]) (rest := []) ⟨hx, hb, hml, hown, hts⟩ (k_X8_clashesNearby l D cI cJ cZ cM h0 a (upd iv 19 i19_3) (vset av 15 f15_3) ma mv mso mrs n0 fM hn0 hfM h_n m1_ hm1_ q9 (show ((upd iv 19 i19_3)) 19 = nI q9 from eq9) hq9) (cwV 2 hts gX8_light_X8_clashesNearby rfl rfl rfl (by decide +kernel) ⟨Nat.le_of_ble_eq_true rfl, Nat.le_of_ble_eq_true rfl⟩) (ro_V hG hPc (va_recv hK hPc (ci := 8) (q0 := 0) rfl rfl)) rfl rfl hl.1 rfl (lv_room (Nat.le_of_ble_eq_true rfl)) dX8_light_44 ⟨Nat.le_of_ble_eq_true rfl, Nat.le_of_ble_eq_true rfl⟩)) (fun r_6 h_6 => ?_)
      rcases h_6 with rfl | rfl
      · refine lv_if_eq (tgt := 52) hx hb dX8_light_47 (by decide) (fun _ => ?_) (fun c_7 => False.elim (by revert c_7; decide))
        refine lv_aload hx hb dX8_light_52 (lv_at hl 0 rfl) ?_
        refine va_getN (D := D) (ci := 1) (v := .ref (ma m1_ 4)) (C := RX1) (T := TX1) (N := 9) hx hb hts (fun _ h9 => List.mem_cons_of_mem _ (List.mem_append_left _ (List.mem_append_left _ (List.mem_append_right _ h9)))) hown hK hP (4 + (6 * m1_ + 0)) (mg_x0 rfl hm1_) rfl 5 (by decide) (va_Nw.use rfl (hN.1 (RX8, 157, "BuoyTender$Mark", "rhythm", "LBuoyTender$Rhythm;", "BuoyTender") (by decide +kernel))) (fun _ h9 => h9) rfl dX8_light_54 ?_
        refine lv_aload_n hx hb dX8_light_57 rfl (lv_at hl 1 rfl) ?_
        refine va_get (D := D) (ci := 8) (v := .ref (a 8)) (C := RX8) (T := TX8) (N := 12) hx hb hts (fun _ h9 => List.mem_cons_of_mem _ (List.mem_append_left _ (List.mem_append_right _ h9))) hown hK hP 0 rfl rfl 7 (by decide) (hts (.fieldLink RX8 53 "BuoyTender" "proposed" "LBuoyTender$Rhythm;") (by decide +kernel)) (fun _ h9 => h9) rfl dX8_light_58 ?_
        have hq0 : va_P D vwCl [(a 8, .inr (3, [.ref (a 15), .int i19_3]))] _ := vaP_1 (k := 2) hP rfl
        have hq1 : va_P D vwCl [(a 15, .inl (cI, 8, .inl f15_3))] _ := vaP_1 (k := 3) hP rfl
        have hq2 : va_P D vwCl [(ma m1_ 4, .inr (3, [.ref (ma m1_ 5), .int (mv m1_ 14)]))] _ := vaP_1 (k := (4 + (6 * m1_ + 4))) hP (mg_x4 rfl hm1_)
        have hq3 : va_P D vwCl [(ma m1_ 5, .inl (cI, 8, .inl (mrs m1_)))] _ := vaP_1 (k := (4 + (6 * m1_ + 5))) hP (mg_x5 rfl hm1_)
        have hPc := (va_P.app (va_P.app (va_P.app hq0 hq1) hq2) hq3)
        have hPc : va_P D vwCl [(a 8, .inr (3, [.ref (a 15), .int i19_3])), (a 15, .inl (cI, 8, .inl f15_3)), (ma m1_ 4, .inr (3, [.ref (ma m1_ 5), .int (mv m1_ 14)])), (ma m1_ 5, .inl (cI, 8, .inl (mrs m1_)))] _ := hPc
        have hmp9 : ([2, 3, 4 + (6 * m1_ + 4), 4 + (6 * m1_ + 5)] : List Nat).map (fun i => (([(h0, .inr (8, [.ref (a 1), .ref (a 2), .ref (a 3), .ref (a 4), .ref (a 5), .ref (a 6), .ref (a 7), .ref (a 8), .int (iv 0), .int (iv 1), .int (iv 2), .int (iv 3)])), (a 2, .inl (cM, 10, .inr (.inr (.inr (.inr fM))))), (a 8, .inr (3, [.ref (a 15), .int i19_3])), (a 15, .inl (cI, 8, .inl f15_3))] : va_W) ++ MG cI cJ ma mv mso mrs n0)[i]?) = ([(a 8, .inr (3, [.ref (a 15), .int i19_3])), (a 15, .inl (cI, 8, .inl f15_3)), (ma m1_ 4, .inr (3, [.ref (ma m1_ 5), .int (mv m1_ 14)])), (ma m1_ 5, .inl (cI, 8, .inl (mrs m1_)))] : va_W).map some := (by simp only [List.map_cons, List.map_nil]; rw [mg_x4 (X := [(h0, .inr (8, [.ref (a 1), .ref (a 2), .ref (a 3), .ref (a 4), .ref (a 5), .ref (a 6), .ref (a 7), .ref (a 8), .int (iv 0), .int (iv 1), .int (iv 2), .int (iv 3)])), (a 2, .inl (cM, 10, .inr (.inr (.inr (.inr fM))))), (a 8, .inr (3, [.ref (a 15), .int i19_3])), (a 15, .inl (cI, 8, .inl f15_3))]) (N := 4) rfl hm1_, mg_x5 (X := [(h0, .inr (8, [.ref (a 1), .ref (a 2), .ref (a 3), .ref (a 4), .ref (a 5), .ref (a 6), .ref (a 7), .ref (a 8), .int (iv 0), .int (iv 1), .int (iv 2), .int (iv 3)])), (a 2, .inl (cM, 10, .inr (.inr (.inr (.inr fM))))), (a 8, .inr (3, [.ref (a 15), .int i19_3])), (a 15, .inl (cI, 8, .inl f15_3))]) (N := 4) rfl hm1_] <;> rfl)
        have hDc := vaD_at hD [2, 3, 4 + (6 * m1_ + 4), 4 + (6 * m1_ + 5)] (by simp <;> omega) hmp9
        have hFc := va_free hD hS hA [2, 3, 4 + (6 * m1_ + 4), 4 + (6 * m1_ + 5)] hmp9
        refine va_callv (va_runVN (As := [.ref (a 8)]) (rest := []) ⟨hx, hb, hml, hown, hts⟩ (k_X3_copyFrom l D cI cJ cZ cM (ma m1_ 4) (ma m1_ 5) (mv m1_ 14) (mrs m1_) (a 8) (a 15) i19_3 f15_3 _) ⟨(va_cnB 1 hts gX8_light_X3_copyFrom_n170 rfl rfl rfl (hN.2.1 (RX8, 170, yX3_copyFrom, "BuoyTender") (by decide +kernel)) (hts (.initialized RX3) (by decide +kernel)) (by decide +kernel) ⟨Nat.le_of_ble_eq_true rfl, Nat.le_of_ble_eq_true rfl⟩), hts (.instanceMethod yX3_copyFrom) (by decide +kernel), hts (.selects RX3 yX3_copyFrom yX3_copyFrom) (by decide +kernel)⟩ (rw_V hG hPc hDc (va_recv hK hPc (ci := 3) (q0 := 2) rfl rfl)) rfl rfl hl.1 rfl (lv_room (Nat.le_of_ble_eq_true rfl)) dX8_light_61 ⟨Nat.le_of_ble_eq_true rfl, Nat.le_of_ble_eq_true rfl⟩) hS (fun q _ h => hFc q h) hFc (fun u_8 t_8 H1 locs ht hvm hw hB hz1 hk1 hS => ?_)
        obtain ⟨hP1, hD1⟩ := hB
        rw [ht] at hP1
        have hMK : MKc cI cJ ma (mup mv m1_ 14 i19_3) mso (rup mrs m1_ (va_cpy f15_3 (mrs m1_) (0 : Int32).toNatClampNeg (0 : Int32).toNatClampNeg (8 : Int32).toNatClampNeg)) m1_ = [(ma m1_ 0, .inr (1, [.int (mv m1_ 0), .int (mv m1_ 1), .int (mv m1_ 2), .ref (ma m1_ 1), .ref (ma m1_ 3), .ref (ma m1_ 4), .int (mv m1_ 3), .int (mv m1_ 4), .int (mv m1_ 5)])), (ma m1_ 1, .inr (5, [.ref (ma m1_ 2), .int (mv m1_ 6), .int (mv m1_ 7), .int (mv m1_ 8)])), (ma m1_ 2, .inl (cJ, 40, .inr (.inl (mso m1_)))), (ma m1_ 3, .inr (0, [.int (mv m1_ 9), .int (mv m1_ 10), .int (mv m1_ 11), .int (mv m1_ 12), .int (mv m1_ 13)])), (ma m1_ 4, .inr (3, [.ref (ma m1_ 5), .int i19_3])), (ma m1_ 5, .inl (cI, 8, .inl (va_cpy f15_3 (mrs m1_) (0 : Int32).toNatClampNeg (0 : Int32).toNatClampNeg (8 : Int32).toNatClampNeg)))] := by simp [MKc, mup, rup]
        obtain ⟨hP, hD⟩ := mg_rep (X := [(h0, .inr (8, [.ref (a 1), .ref (a 2), .ref (a 3), .ref (a 4), .ref (a 5), .ref (a 6), .ref (a 7), .ref (a 8), .int (iv 0), .int (iv 1), .int (iv 2), .int (iv 3)])), (a 2, .inl (cM, 10, .inr (.inr (.inr (.inr fM))))), (a 8, .inr (3, [.ref (a 15), .int i19_3])), (a 15, .inl (cI, 8, .inl f15_3))]) (mv' := (mup mv m1_ 14 i19_3)) (mso' := mso) (mrs' := (rup mrs m1_ (va_cpy f15_3 (mrs m1_) (0 : Int32).toNatClampNeg (0 : Int32).toNatClampNeg (8 : Int32).toNatClampNeg))) (wx := [(a 8, .inr (3, [.ref (a 15), .int i19_3])), (a 15, .inl (cI, 8, .inl f15_3))]) (wm := [(ma m1_ 4, .inr (3, [.ref (ma m1_ 5), .int (mv m1_ 14)])), (ma m1_ 5, .inl (cI, 8, .inl (mrs m1_)))]) (w1 := [(ma m1_ 4, .inr (3, [.ref (ma m1_ 5), .int i19_3])), (ma m1_ 5, .inl (cI, 8, .inl (va_cpy f15_3 (mrs m1_) (0 : Int32).toNatClampNeg (0 : Int32).toNatClampNeg (8 : Int32).toNatClampNeg)))]) hP hD rfl hm1_ [2, 3] [4, 5] rfl rfl (by rw [hMK]; rfl) (fun j hj => ⟨fun q => by simp [mup, hj], by simp [rup, hj], by simp [rup, hj]⟩) (fun r hr hn => by rw [hMK]; rcases (show r = 0 ∨ r = 1 ∨ r = 2 ∨ r = 3 ∨ r = 4 ∨ r = 5 by omega) with rfl | rfl | rfl | rfl | rfl | rfl <;> first | rfl | exact absurd (by decide) hn) hk1 hP1
        generalize H1 = H at hP hS ⊢
        have hP : va_P D vwCl ([(h0, .inr (8, [.ref (a 1), .ref (a 2), .ref (a 3), .ref (a 4), .ref (a 5), .ref (a 6), .ref (a 7), .ref (a 8), .int (iv 0), .int (iv 1), .int (iv 2), .int (iv 3)])), (a 2, .inl (cM, 10, .inr (.inr (.inr (.inr fM))))), (a 8, .inr (3, [.ref (a 15), .int i19_3])), (a 15, .inl (cI, 8, .inl f15_3))] ++ MG cI cJ ma (mup mv m1_ 14 i19_3) mso (rup mrs m1_ (va_cpy f15_3 (mrs m1_) (0 : Int32).toNatClampNeg (0 : Int32).toNatClampNeg (8 : Int32).toNatClampNeg)) n0) H := hP
        have hD : va_D A ([(h0, .inr (8, [.ref (a 1), .ref (a 2), .ref (a 3), .ref (a 4), .ref (a 5), .ref (a 6), .ref (a 7), .ref (a 8), .int (iv 0), .int (iv 1), .int (iv 2), .int (iv 3)])), (a 2, .inl (cM, 10, .inr (.inr (.inr (.inr fM))))), (a 8, .inr (3, [.ref (a 15), .int i19_3])), (a 15, .inl (cI, 8, .inl f15_3))] ++ MG cI cJ ma (mup mv m1_ 14 i19_3) mso (rup mrs m1_ (va_cpy f15_3 (mrs m1_) (0 : Int32).toNatClampNeg (0 : Int32).toNatClampNeg (8 : Int32).toNatClampNeg)) n0) := hD
        refine lv_iconst (v := 1) hx hb dX8_light_64 (by decide) ?_
        have hP9 := hP.part (cx := [(h0, .inr (8, [.ref (a 1), .ref (a 2), .ref (a 3), .ref (a 4), .ref (a 5), .ref (a 6), .ref (a 7), .ref (a 8), .int (iv 0), .int (iv 1), .int (iv 2), .int (iv 3)])), (a 2, .inl (cM, 10, .inr (.inr (.inr (.inr fM))))), (a 8, .inr (3, [.ref (a 15), .int i19_3])), (a 15, .inl (cI, 8, .inl f15_3))]) [0, 1, 2, 3] rfl
        have hD9 := hD.part (cx := [(h0, .inr (8, [.ref (a 1), .ref (a 2), .ref (a 3), .ref (a 4), .ref (a 5), .ref (a 6), .ref (a 7), .ref (a 8), .int (iv 0), .int (iv 1), .int (iv 2), .int (iv 3)])), (a 2, .inl (cM, 10, .inr (.inr (.inr (.inr fM))))), (a 8, .inr (3, [.ref (a 15), .int i19_3])), (a 15, .inl (cI, 8, .inl f15_3))]) [0, 1, 2, 3] (by decide) rfl
        exact W.zret (v := 1) hx hb hr rfl (fun t ht hW => ⟨⟨1, (i19_3, f15_3, mup mv m1_ 14 i19_3, rup mrs m1_ (va_cpy f15_3 (mrs m1_) (0 : Int32).toNatClampNeg (0 : Int32).toNatClampNeg (8 : Int32).toNatClampNeg)), rfl, ⟨⟨_, hq9, eq9⟩, keep_1 _ _ _, rm_upd (v := q9) hrm hq9 eq9⟩, ⟨by rw [ht]; exact hP9, hD9⟩⟩, hS.F ht⟩) hS.2.2 dX8_light_65
      refine lv_if_eq (tgt := 52) hx hb dX8_light_47 (by decide) (fun c_9 => False.elim (by revert c_9; decide)) (fun _ => ?_)
      refine lv_iconst (v := 0) hx hb dX8_light_50 (by decide) ?_
      have hP9 := hP.part (cx := [(h0, .inr (8, [.ref (a 1), .ref (a 2), .ref (a 3), .ref (a 4), .ref (a 5), .ref (a 6), .ref (a 7), .ref (a 8), .int (iv 0), .int (iv 1), .int (iv 2), .int (iv 3)])), (a 2, .inl (cM, 10, .inr (.inr (.inr (.inr fM))))), (a 8, .inr (3, [.ref (a 15), .int i19_3])), (a 15, .inl (cI, 8, .inl f15_3))]) [0, 1, 2, 3] rfl
      have hD9 := hD.part (cx := [(h0, .inr (8, [.ref (a 1), .ref (a 2), .ref (a 3), .ref (a 4), .ref (a 5), .ref (a 6), .ref (a 7), .ref (a 8), .int (iv 0), .int (iv 1), .int (iv 2), .int (iv 3)])), (a 2, .inl (cM, 10, .inr (.inr (.inr (.inr fM))))), (a 8, .inr (3, [.ref (a 15), .int i19_3])), (a 15, .inl (cI, 8, .inl f15_3))]) [0, 1, 2, 3] (by decide) rfl
      exact W.zret (v := 0) hx hb hr rfl (fun t ht hW => ⟨⟨0, (i19_3, f15_3, mv, mrs), rfl, ⟨⟨_, hq9, eq9⟩, keep_0 _, hrm⟩, ⟨by rw [ht]; exact hP9, hD9⟩⟩, hS.F ht⟩) hS.2.2 dX8_light_51
    refine lv_aload hx hb dX8_light_18 (lv_at hl 0 rfl) ?_
    refine va_getN (D := D) (ci := 1) (v := .ref (ma m1_ 4)) (C := RX1) (T := TX1) (N := 9) hx hb hts (fun _ h9 => List.mem_cons_of_mem _ (List.mem_append_left _ (List.mem_append_left _ (List.mem_append_right _ h9)))) hown hK hP (4 + (6 * m1_ + 0)) (mg_x0 rfl hm1_) rfl 5 (by decide) (va_Nw.use rfl (hN.1 (RX8, 157, "BuoyTender$Mark", "rhythm", "LBuoyTender$Rhythm;", "BuoyTender") (by decide +kernel))) (fun _ h9 => h9) rfl dX8_light_20 ?_
    have hq0 : va_P D vwCl [(ma m1_ 4, .inr (3, [.ref (ma m1_ 5), .int (mv m1_ 14)]))] _ := vaP_1 (k := (4 + (6 * m1_ + 4))) hP (mg_x4 rfl hm1_)
    have hq1 : va_P D vwCl [(ma m1_ 5, .inl (cI, 8, .inl (mrs m1_)))] _ := vaP_1 (k := (4 + (6 * m1_ + 5))) hP (mg_x5 rfl hm1_)
    have hPc := (va_P.app hq0 hq1)
    have hPc : va_P D vwCl [(ma m1_ 4, .inr (3, [.ref (ma m1_ 5), .int (mv m1_ 14)])), (ma m1_ 5, .inl (cI, 8, .inl (mrs m1_)))] _ := hPc
    have hmp9 : ([4 + (6 * m1_ + 4), 4 + (6 * m1_ + 5)] : List Nat).map (fun i => (([(h0, .inr (8, [.ref (a 1), .ref (a 2), .ref (a 3), .ref (a 4), .ref (a 5), .ref (a 6), .ref (a 7), .ref (a 8), .int (iv 0), .int (iv 1), .int (iv 2), .int (iv 3)])), (a 2, .inl (cM, 10, .inr (.inr (.inr (.inr fM))))), (a 8, .inr (3, [.ref (a 15), .int (iv 19)])), (a 15, .inl (cI, 8, .inl (av 15)))] : va_W) ++ MG cI cJ ma mv mso mrs n0)[i]?) = ([(ma m1_ 4, .inr (3, [.ref (ma m1_ 5), .int (mv m1_ 14)])), (ma m1_ 5, .inl (cI, 8, .inl (mrs m1_)))] : va_W).map some := (by simp only [List.map_cons, List.map_nil]; rw [mg_x4 (X := [(h0, .inr (8, [.ref (a 1), .ref (a 2), .ref (a 3), .ref (a 4), .ref (a 5), .ref (a 6), .ref (a 7), .ref (a 8), .int (iv 0), .int (iv 1), .int (iv 2), .int (iv 3)])), (a 2, .inl (cM, 10, .inr (.inr (.inr (.inr fM))))), (a 8, .inr (3, [.ref (a 15), .int (iv 19)])), (a 15, .inl (cI, 8, .inl (av 15)))]) (N := 4) rfl hm1_, mg_x5 (X := [(h0, .inr (8, [.ref (a 1), .ref (a 2), .ref (a 3), .ref (a 4), .ref (a 5), .ref (a 6), .ref (a 7), .ref (a 8), .int (iv 0), .int (iv 1), .int (iv 2), .int (iv 3)])), (a 2, .inl (cM, 10, .inr (.inr (.inr (.inr fM))))), (a 8, .inr (3, [.ref (a 15), .int (iv 19)])), (a 15, .inl (cI, 8, .inl (av 15)))]) (N := 4) rfl hm1_] <;> rfl)
    have hDc := vaD_at hD [4 + (6 * m1_ + 4), 4 + (6 * m1_ + 5)] (by simp <;> omega) hmp9
    have hFc := va_free hD hS hA [4 + (6 * m1_ + 4), 4 + (6 * m1_ + 5)] hmp9
    refine va_callv (va_runVN (As := []) (rest := []) ⟨hx, hb, hml, hown, hts⟩ (k_X3_goDark l D cI cJ cZ cM (ma m1_ 4) (ma m1_ 5) (mv m1_ 14) (mrs m1_) _) ⟨(va_cnB 0 hts gX8_light_X3_goDark_n160 rfl rfl rfl (hN.2.1 (RX8, 160, yX3_goDark, "BuoyTender") (by decide +kernel)) (hts (.initialized RX3) (by decide +kernel)) (by decide +kernel) ⟨Nat.le_of_ble_eq_true rfl, Nat.le_of_ble_eq_true rfl⟩), hts (.instanceMethod yX3_goDark) (by decide +kernel), hts (.selects RX3 yX3_goDark yX3_goDark) (by decide +kernel)⟩ (rw_V hG hPc hDc (va_recv hK hPc (ci := 3) (q0 := 0) rfl rfl)) rfl rfl hl.1 rfl (lv_room (Nat.le_of_ble_eq_true rfl)) dX8_light_23 ⟨Nat.le_of_ble_eq_true rfl, Nat.le_of_ble_eq_true rfl⟩) hS (fun q _ h => hFc q h) hFc (fun u_10 t_10 H1 locs ht hvm hw hB hz1 hk1 hS => ?_)
    obtain ⟨hP1, hD1⟩ := hB
    rw [ht] at hP1
    have hMK : MKc cI cJ ma (mup mv m1_ 14 0) mso mrs m1_ = [(ma m1_ 0, .inr (1, [.int (mv m1_ 0), .int (mv m1_ 1), .int (mv m1_ 2), .ref (ma m1_ 1), .ref (ma m1_ 3), .ref (ma m1_ 4), .int (mv m1_ 3), .int (mv m1_ 4), .int (mv m1_ 5)])), (ma m1_ 1, .inr (5, [.ref (ma m1_ 2), .int (mv m1_ 6), .int (mv m1_ 7), .int (mv m1_ 8)])), (ma m1_ 2, .inl (cJ, 40, .inr (.inl (mso m1_)))), (ma m1_ 3, .inr (0, [.int (mv m1_ 9), .int (mv m1_ 10), .int (mv m1_ 11), .int (mv m1_ 12), .int (mv m1_ 13)])), (ma m1_ 4, .inr (3, [.ref (ma m1_ 5), .int 0])), (ma m1_ 5, .inl (cI, 8, .inl (mrs m1_)))] := by simp [MKc, mup, rup]
    obtain ⟨hP, hD⟩ := mg_rep (X := [(h0, .inr (8, [.ref (a 1), .ref (a 2), .ref (a 3), .ref (a 4), .ref (a 5), .ref (a 6), .ref (a 7), .ref (a 8), .int (iv 0), .int (iv 1), .int (iv 2), .int (iv 3)])), (a 2, .inl (cM, 10, .inr (.inr (.inr (.inr fM))))), (a 8, .inr (3, [.ref (a 15), .int (iv 19)])), (a 15, .inl (cI, 8, .inl (av 15)))]) (mv' := (mup mv m1_ 14 0)) (mso' := mso) (mrs' := mrs) (wx := []) (wm := [(ma m1_ 4, .inr (3, [.ref (ma m1_ 5), .int (mv m1_ 14)])), (ma m1_ 5, .inl (cI, 8, .inl (mrs m1_)))]) (w1 := [(ma m1_ 4, .inr (3, [.ref (ma m1_ 5), .int 0])), (ma m1_ 5, .inl (cI, 8, .inl (mrs m1_)))]) hP hD rfl hm1_ [] [4, 5] rfl rfl (by rw [hMK]; rfl) (fun j hj => ⟨fun q => by simp [mup, hj], by simp [rup, hj], by simp [rup, hj]⟩) (fun r hr hn => by rw [hMK]; rcases (show r = 0 ∨ r = 1 ∨ r = 2 ∨ r = 3 ∨ r = 4 ∨ r = 5 by omega) with rfl | rfl | rfl | rfl | rfl | rfl <;> first | rfl | exact absurd (by decide) hn) hk1 hP1
    generalize H1 = H at hP hS ⊢
    have hP : va_P D vwCl ([(h0, .inr (8, [.ref (a 1), .ref (a 2), .ref (a 3), .ref (a 4), .ref (a 5), .ref (a 6), .ref (a 7), .ref (a 8), .int (iv 0), .int (iv 1), .int (iv 2), .int (iv 3)])), (a 2, .inl (cM, 10, .inr (.inr (.inr (.inr fM))))), (a 8, .inr (3, [.ref (a 15), .int (iv 19)])), (a 15, .inl (cI, 8, .inl (av 15)))] ++ MG cI cJ ma (mup mv m1_ 14 0) mso mrs n0) H := hP
    have hD : va_D A ([(h0, .inr (8, [.ref (a 1), .ref (a 2), .ref (a 3), .ref (a 4), .ref (a 5), .ref (a 6), .ref (a 7), .ref (a 8), .int (iv 0), .int (iv 1), .int (iv 2), .int (iv 3)])), (a 2, .inl (cM, 10, .inr (.inr (.inr (.inr fM))))), (a 8, .inr (3, [.ref (a 15), .int (iv 19)])), (a 15, .inl (cI, 8, .inl (av 15)))] ++ MG cI cJ ma (mup mv m1_ 14 0) mso mrs n0) := hD
    refine lv_iconst (v := 1) hx hb dX8_light_26 (by decide) ?_
    have hP9 := hP.part (cx := [(h0, .inr (8, [.ref (a 1), .ref (a 2), .ref (a 3), .ref (a 4), .ref (a 5), .ref (a 6), .ref (a 7), .ref (a 8), .int (iv 0), .int (iv 1), .int (iv 2), .int (iv 3)])), (a 2, .inl (cM, 10, .inr (.inr (.inr (.inr fM))))), (a 8, .inr (3, [.ref (a 15), .int (iv 19)])), (a 15, .inl (cI, 8, .inl (av 15)))]) [0, 1, 2, 3] rfl
    have hD9 := hD.part (cx := [(h0, .inr (8, [.ref (a 1), .ref (a 2), .ref (a 3), .ref (a 4), .ref (a 5), .ref (a 6), .ref (a 7), .ref (a 8), .int (iv 0), .int (iv 1), .int (iv 2), .int (iv 3)])), (a 2, .inl (cM, 10, .inr (.inr (.inr (.inr fM))))), (a 8, .inr (3, [.ref (a 15), .int (iv 19)])), (a 15, .inl (cI, 8, .inl (av 15)))]) [0, 1, 2, 3] (by decide) rfl
    exact W.zret (v := 1) hx hb hr rfl (fun t ht hW => ⟨⟨1, (iv 19, av 15, mup mv m1_ 14 0, mrs), rfl, ⟨⟨_, hb9, e19⟩, keep_1 _ _ _, rm_upd (v := 0) hrm (by decide) rfl⟩, ⟨by rw [ht]; exact hP9, hD9⟩⟩, hS.F ht⟩) hS.2.2 dX8_light_27
  · have hPc := hP.sub (ws' := [(h0, .inr (8, [.ref (a 1), .ref (a 2), .ref (a 3), .ref (a 4), .ref (a 5), .ref (a 6), .ref (a 7), .ref (a 8), .int (iv 0), .int (iv 1), .int (iv 2), .int (iv 3)])), (a 2, .inl (cM, 10, .inr (.inr (.inr (.inr fM)))))]) [0, 1] rfl
    refine va_csq (va_Run.run (va_runV (As := [.int x1]) (rest := []) ⟨hx, hb, hml, hown, hts⟩ (k_X8_known_n l D cI cJ cZ cM h0 a iv ma n0 fM hn0 hfM h_n x1 hno_1) (cwV 1 hts gX8_light_X8_known rfl rfl rfl (by decide +kernel) ⟨Nat.le_of_ble_eq_true rfl, Nat.le_of_ble_eq_true rfl⟩) (ro_V hG hPc (va_recv hK hPc (ci := 8) (q0 := 0) rfl rfl)) rfl rfl hl.1 rfl (lv_room (Nat.le_of_ble_eq_true rfl)) dX8_light_2 ⟨Nat.le_of_ble_eq_true rfl, Nat.le_of_ble_eq_true rfl⟩)) (fun r_1 h_1 => ?_)
    obtain rfl : r_1 = none := h_1
    refine W.eq (g2 := F0 m 5 ls [.null]) rfl ?_
    refine lv_astoreN (lv' := [(4, .null), (0, .ref h0), (1, .int x1), (2, .int x2), (3, .int x3)]) hx hb dX8_light_5 hl (by decide) rfl (fun ls hl => ?_)
    refine lv_aloadN hx hb dX8_light_7 (lv_at hl 0 rfl) ?_
    refine lv_ifnonnullN hx hb dX8_light_9 ?_
    refine lv_iconst (v := 0) hx hb dX8_light_12 (by decide) ?_
    have hP9 := hP.part (cx := [(h0, .inr (8, [.ref (a 1), .ref (a 2), .ref (a 3), .ref (a 4), .ref (a 5), .ref (a 6), .ref (a 7), .ref (a 8), .int (iv 0), .int (iv 1), .int (iv 2), .int (iv 3)])), (a 2, .inl (cM, 10, .inr (.inr (.inr (.inr fM))))), (a 8, .inr (3, [.ref (a 15), .int (iv 19)])), (a 15, .inl (cI, 8, .inl (av 15)))]) [0, 1, 2, 3] rfl
    have hD9 := hD.part (cx := [(h0, .inr (8, [.ref (a 1), .ref (a 2), .ref (a 3), .ref (a 4), .ref (a 5), .ref (a 6), .ref (a 7), .ref (a 8), .int (iv 0), .int (iv 1), .int (iv 2), .int (iv 3)])), (a 2, .inl (cM, 10, .inr (.inr (.inr (.inr fM))))), (a 8, .inr (3, [.ref (a 15), .int (iv 19)])), (a 15, .inl (cI, 8, .inl (av 15)))]) [0, 1, 2, 3] (by decide) rfl
    exact W.zret (v := 0) hx hb hr rfl (fun t ht hW => ⟨⟨0, (iv 19, av 15, mv, mrs), rfl, ⟨⟨_, hb9, e19⟩, keep_0 _, hrm⟩, ⟨by rw [ht]; exact hP9, hD9⟩⟩, hS.F ht⟩) hS.2.2 dX8_light_13
set_option maxHeartbeats 4000000 in
set_option maxRecDepth 100000 in
/-- X8_near -/
theorem k_X8_near (l : Launch) (D : va_G) (cI cJ cZ cM : Nat) (h0 : Nat) (a : Nat → Nat) (iv : Nat → Int32) (av : Nat → Nat → Int32) (ma : Nat → Nat → Nat) (mv : Nat → Nat → Int32) (mso : Nat → Nat → Int64) (mrs : Nat → Nat → Int32) (n0 : Nat) (fM : Nat → Option Nat) (hn0 : n0 ≤ 10) (hfM : ∀ i, i < 10 → (i < n0 → fM i = some (ma i 0)) ∧ (n0 ≤ i → fM i = none)) (h_n : iv 0 = nI n0) (hrm : ∀ i, i < n0 → ∃ q, q ≤ 8 ∧ mv i 14 = nI q) (x1 : Int32) (sz : Nat) : Met l yX8_near wsX8_near ({ frames := 3, cells := 0, slots := 0, locals := 70 } : Room) (RW D cI cJ cZ cM [.ref h0, .int x1] ([(h0, .inr (8, [.ref (a 1), .ref (a 2), .ref (a 3), .ref (a 4), .ref (a 5), .ref (a 6), .ref (a 7), .ref (a 8), .int (iv 0), .int (iv 1), .int (iv 2), .int (iv 3)])), (a 2, .inl (cM, 10, .inr (.inr (.inr (.inr fM)))))] ++ MG cI cJ ma mv mso mrs n0) sz) (va_Qi (S := Int32) (fun r u => True) (BB D (fun u => [(h0, .inr (8, [.ref (a 1), .ref (a 2), .ref (a 3), .ref (a 4), .ref (a 5), .ref (a 6), .ref (a 7), .ref (a 8), .int (iv 0), .int (iv 1), .int u, .int (iv 3)])), (a 2, .inl (cM, 10, .inr (.inr (.inr (.inr fM)))))] ++ MG cI cJ ma mv mso mrs n0) (va_A ([(h0, .inr (8, [.ref (a 1), .ref (a 2), .ref (a 3), .ref (a 4), .ref (a 5), .ref (a 6), .ref (a 7), .ref (a 8), .int (iv 0), .int (iv 1), .int (iv 2), .int (iv 3)])), (a 2, .inl (cM, 10, .inr (.inr (.inr (.inr fM)))))] ++ MG cI cJ ma mv mso mrs n0) sz)) (va_A ([(h0, .inr (8, [.ref (a 1), .ref (a 2), .ref (a 3), .ref (a 4), .ref (a 5), .ref (a 6), .ref (a 7), .ref (a 8), .int (iv 0), .int (iv 1), .int (iv 2), .int (iv 3)])), (a 2, .inl (cM, 10, .inr (.inr (.inr (.inr fM)))))] ++ MG cI cJ ma mv mso mrs n0) sz)) 0 0 (va_A ([(h0, .inr (8, [.ref (a 1), .ref (a 2), .ref (a 3), .ref (a 4), .ref (a 5), .ref (a 6), .ref (a 7), .ref (a 8), .int (iv 0), .int (iv 1), .int (iv 2), .int (iv 3)])), (a 2, .inl (cM, 10, .inr (.inr (.inr (.inr fM)))))] ++ MG cI cJ ma mv mso mrs n0) sz) := by
  refine Met.ofW (cc := cX8_near) (maxL := 2) (ret := (some .boolean)) (by decide) rfl ?_
  intro p e s m args below meth c s₁ B hml hv
  obtain ⟨rfl, hsz, hG, hP, hD0⟩ := hv
  have hx := B.exec
  have hb := B.bytes
  have hr := B.returns
  have hts := atoms_spec (ws := wsX8_near) B.pre
  have hown : s.vm.findClass RX8 = some m.cls := findClass_of_methodNamed B.named
  have hlocks := B.notSynchronized
  have hK := hG.1
  have hN := hG.2
  subst hsz
  have hD := hD0.self (sz := s.heap.size)
  generalize hAe : va_A ([(h0, .inr (8, [.ref (a 1), .ref (a 2), .ref (a 3), .ref (a 4), .ref (a 5), .ref (a 6), .ref (a 7), .ref (a 8), .int (iv 0), .int (iv 1), .int (iv 2), .int (iv 3)])), (a 2, .inl (cM, 10, .inr (.inr (.inr (.inr fM)))))] ++ MG cI cJ ma mv mso mrs n0) s.heap.size = A at hD ⊢
  have hA : ∀ q : Nat, s.heap.size ≤ q → A q := fun q h => by rw [← hAe]; exact Or.inr h
  have hS : va_S A s.heap s.heap [] := va_S.rf
  have hP : va_P D vwCl ([(h0, .inr (8, [.ref (a 1), .ref (a 2), .ref (a 3), .ref (a 4), .ref (a 5), .ref (a 6), .ref (a 7), .ref (a 8), .int (iv 0), .int (iv 1), .int (iv 2), .int (iv 3)])), (a 2, .inl (cM, 10, .inr (.inr (.inr (.inr fM)))))] ++ MG cI cJ ma mv mso mrs n0) s.heap := hP
  have hl := lv_entry ([.ref h0, .int x1]) (n := 2) (Nat.le_of_ble_eq_true rfl)
  rw [lg_entry_eq]
  generalize (lg_sl ([.ref h0, .int x1]) ++ List.replicate (2 - (lg_sl ([.ref h0, .int x1])).length) Slot.unset).toArray = ls at hl ⊢
  have hl : lv_has ls 2 [(0, .ref h0), (1, .int x1)] := hl
  refine lv_iload_n hx hb dX8_near_0 rfl (lv_at hl 1 rfl) ?_
  refine lv_iconst (v := 0) hx hb dX8_near_1 (by decide) ?_
  refine lv_sipush (v := 5000) hx hb dX8_near_2 (by decide) ?_
  refine vp_callSi (va_Run.run (va_runS (As := [.int x1, .int 0, .int 5000]) (rest := []) ⟨hx, hb, hml, hown, hts⟩ (k_X8_within l x1 0 5000) (va_cwS 3 hts gX8_near_X8_within rfl rfl rfl (by decide +kernel) ⟨Nat.le_of_ble_eq_true rfl, Nat.le_of_ble_eq_true rfl⟩) preEq rfl rfl hl.1 rfl (lv_room (Nat.le_of_ble_eq_true rfl)) dX8_near_5 ⟨Nat.le_of_ble_eq_true rfl, Nat.le_of_ble_eq_true rfl⟩)) (fun r_1 h_1 => ?_)
  rcases h_1 with ⟨rfl, h_1⟩ | ⟨rfl, h_1⟩
  · refine lv_if_eq (tgt := 19) hx hb dX8_near_8 (by decide) (fun c_2 => False.elim (by revert c_2; decide)) (fun _ => ?_)
    refine lv_aload_n hx hb dX8_near_11 rfl (lv_at hl 0 rfl) ?_
    refine lv_iload_n hx hb dX8_near_12 rfl (lv_at hl 1 rfl) ?_
    have hPc := hP.part (cx := [(h0, .inr (8, [.ref (a 1), .ref (a 2), .ref (a 3), .ref (a 4), .ref (a 5), .ref (a 6), .ref (a 7), .ref (a 8), .int (iv 0), .int (iv 1), .int (iv 2), .int (iv 3)])), (a 2, .inl (cM, 10, .inr (.inr (.inr (.inr fM)))))]) [0, 1] rfl
    refine vp_callSi (va_Run.run (va_runV (As := [.int x1]) (rest := []) ⟨hx, hb, hml, hown, hts⟩ (k_X8_clashesWithin l D cI cJ cZ cM h0 a iv av ma mv mso mrs n0 fM hn0 hfM h_n hrm x1) (cwV 1 hts gX8_near_X8_clashesWithin rfl rfl rfl (by decide +kernel) ⟨Nat.le_of_ble_eq_true rfl, Nat.le_of_ble_eq_true rfl⟩) (ro_V hG hPc (va_recv hK hPc (ci := 8) (q0 := 0) rfl rfl)) rfl rfl hl.1 rfl (lv_room (Nat.le_of_ble_eq_true rfl)) dX8_near_13 ⟨Nat.le_of_ble_eq_true rfl, Nat.le_of_ble_eq_true rfl⟩)) (fun r_3 h_3 => ?_)
    rcases h_3 with rfl | rfl
    · refine lv_if_eq (tgt := 21) hx hb dX8_near_16 (by decide) (fun _ => ?_) (fun c_4 => False.elim (by revert c_4; decide))
      refine lv_aload_n hx hb dX8_near_21 rfl (lv_at hl 0 rfl) ?_
      refine lv_iload_n hx hb dX8_near_22 rfl (lv_at hl 1 rfl) ?_
      refine va_put (D := D) (ci := 8) (v := .int x1) (ty := (tyX8 10)) (C := RX8) (T := TX8) (N := 12) hx hb hts (fun _ h9 => List.mem_cons_of_mem _ (List.mem_append_left _ (List.mem_append_left _ (List.mem_append_right _ h9)))) tyX8 tyX8_ok nmX8 hown hK hP hD hS 0 rfl rfl 10 (by decide) (hts (.fieldLink RX8 178 "BuoyTender" "nearness" "I") (by decide +kernel)) (fun _ h9 => h9) rfl (by decide +kernel) rfl rfl (Nat.le_of_ble_eq_true rfl) dX8_near_23 (fun H locs hP hD hS => ?_)
      have hP : va_P D vwCl ([(h0, .inr (8, [.ref (a 1), .ref (a 2), .ref (a 3), .ref (a 4), .ref (a 5), .ref (a 6), .ref (a 7), .ref (a 8), .int (iv 0), .int (iv 1), .int x1, .int (iv 3)])), (a 2, .inl (cM, 10, .inr (.inr (.inr (.inr fM)))))] ++ MG cI cJ ma mv mso mrs n0) H := hP
      have hD : va_D A ([(h0, .inr (8, [.ref (a 1), .ref (a 2), .ref (a 3), .ref (a 4), .ref (a 5), .ref (a 6), .ref (a 7), .ref (a 8), .int (iv 0), .int (iv 1), .int x1, .int (iv 3)])), (a 2, .inl (cM, 10, .inr (.inr (.inr (.inr fM)))))] ++ MG cI cJ ma mv mso mrs n0) := hD
      refine lv_iconst (v := 1) hx hb dX8_near_26 (by decide) ?_
      have hP9 := hP.part (cx := [(h0, .inr (8, [.ref (a 1), .ref (a 2), .ref (a 3), .ref (a 4), .ref (a 5), .ref (a 6), .ref (a 7), .ref (a 8), .int (iv 0), .int (iv 1), .int x1, .int (iv 3)])), (a 2, .inl (cM, 10, .inr (.inr (.inr (.inr fM)))))]) [0, 1] rfl
      have hD9 := hD.part (cx := [(h0, .inr (8, [.ref (a 1), .ref (a 2), .ref (a 3), .ref (a 4), .ref (a 5), .ref (a 6), .ref (a 7), .ref (a 8), .int (iv 0), .int (iv 1), .int x1, .int (iv 3)])), (a 2, .inl (cM, 10, .inr (.inr (.inr (.inr fM)))))]) [0, 1] (by decide) rfl
      exact W.zret (v := 1) hx hb hr rfl (fun t ht hW => ⟨⟨1, x1, rfl, trivial, ⟨by rw [ht]; exact hP9, hD9⟩⟩, hS.F ht⟩) hS.2.2 dX8_near_27
    refine lv_if_eq (tgt := 21) hx hb dX8_near_16 (by decide) (fun c_5 => False.elim (by revert c_5; decide)) (fun _ => ?_)
    refine lv_iconst (v := 0) hx hb dX8_near_19 (by decide) ?_
    have hP9 := hP.part (cx := [(h0, .inr (8, [.ref (a 1), .ref (a 2), .ref (a 3), .ref (a 4), .ref (a 5), .ref (a 6), .ref (a 7), .ref (a 8), .int (iv 0), .int (iv 1), .int (iv 2), .int (iv 3)])), (a 2, .inl (cM, 10, .inr (.inr (.inr (.inr fM)))))]) [0, 1] rfl
    have hD9 := hD.part (cx := [(h0, .inr (8, [.ref (a 1), .ref (a 2), .ref (a 3), .ref (a 4), .ref (a 5), .ref (a 6), .ref (a 7), .ref (a 8), .int (iv 0), .int (iv 1), .int (iv 2), .int (iv 3)])), (a 2, .inl (cM, 10, .inr (.inr (.inr (.inr fM)))))]) [0, 1] (by decide) rfl
    exact W.zret (v := 0) hx hb hr rfl (fun t ht hW => ⟨⟨0, (iv 2), rfl, trivial, ⟨by rw [ht]; exact hP9, hD9⟩⟩, hS.F ht⟩) hS.2.2 dX8_near_20
  refine lv_if_eq (tgt := 19) hx hb dX8_near_8 (by decide) (fun _ => ?_) (fun c_6 => False.elim (by revert c_6; decide))
  refine lv_iconst (v := 0) hx hb dX8_near_19 (by decide) ?_
  have hP9 := hP.part (cx := [(h0, .inr (8, [.ref (a 1), .ref (a 2), .ref (a 3), .ref (a 4), .ref (a 5), .ref (a 6), .ref (a 7), .ref (a 8), .int (iv 0), .int (iv 1), .int (iv 2), .int (iv 3)])), (a 2, .inl (cM, 10, .inr (.inr (.inr (.inr fM)))))]) [0, 1] rfl
  have hD9 := hD.part (cx := [(h0, .inr (8, [.ref (a 1), .ref (a 2), .ref (a 3), .ref (a 4), .ref (a 5), .ref (a 6), .ref (a 7), .ref (a 8), .int (iv 0), .int (iv 1), .int (iv 2), .int (iv 3)])), (a 2, .inl (cM, 10, .inr (.inr (.inr (.inr fM)))))]) [0, 1] (by decide) rfl
  exact W.zret (v := 0) hx hb hr rfl (fun t ht hW => ⟨⟨0, (iv 2), rfl, trivial, ⟨by rw [ht]; exact hP9, hD9⟩⟩, hS.F ht⟩) hS.2.2 dX8_near_20
set_option maxHeartbeats 4000000 in
set_option maxRecDepth 100000 in
/-- X8_alike -/
theorem k_X8_alike (l : Launch) (D : va_G) (cI cJ cZ cM : Nat) (h0 : Nat) (a : Nat → Nat) (iv : Nat → Int32) (av : Nat → Nat → Int32) (ma : Nat → Nat → Nat) (mv : Nat → Nat → Int32) (mso : Nat → Nat → Int64) (mrs : Nat → Nat → Int32) (n0 : Nat) (fM : Nat → Option Nat) (hn0 : n0 ≤ 10) (hfM : ∀ i, i < 10 → (i < n0 → fM i = some (ma i 0)) ∧ (n0 ≤ i → fM i = none)) (h_n : iv 0 = nI n0) (hrm : ∀ i, i < n0 → ∃ q, q ≤ 8 ∧ mv i 14 = nI q) (x1 : Int32) (x2 : Int32) (sz : Nat) : Met l yX8_alike wsX8_alike ({ frames := 2, cells := 0, slots := 0, locals := 45 } : Room) (RW D cI cJ cZ cM [.ref h0, .int x1, .int x2] ([(h0, .inr (8, [.ref (a 1), .ref (a 2), .ref (a 3), .ref (a 4), .ref (a 5), .ref (a 6), .ref (a 7), .ref (a 8), .int (iv 0), .int (iv 1), .int (iv 2), .int (iv 3)])), (a 2, .inl (cM, 10, .inr (.inr (.inr (.inr fM)))))] ++ MG cI cJ ma mv mso mrs n0) sz) (va_Qi (S := Unit) (fun r u => True) (BB D (fun _ => [(h0, .inr (8, [.ref (a 1), .ref (a 2), .ref (a 3), .ref (a 4), .ref (a 5), .ref (a 6), .ref (a 7), .ref (a 8), .int (iv 0), .int (iv 1), .int (iv 2), .int (iv 3)])), (a 2, .inl (cM, 10, .inr (.inr (.inr (.inr fM)))))] ++ MG cI cJ ma mv mso mrs n0) (va_A ([(h0, .inr (8, [.ref (a 1), .ref (a 2), .ref (a 3), .ref (a 4), .ref (a 5), .ref (a 6), .ref (a 7), .ref (a 8), .int (iv 0), .int (iv 1), .int (iv 2), .int (iv 3)])), (a 2, .inl (cM, 10, .inr (.inr (.inr (.inr fM)))))] ++ MG cI cJ ma mv mso mrs n0) sz)) (va_A ([(h0, .inr (8, [.ref (a 1), .ref (a 2), .ref (a 3), .ref (a 4), .ref (a 5), .ref (a 6), .ref (a 7), .ref (a 8), .int (iv 0), .int (iv 1), .int (iv 2), .int (iv 3)])), (a 2, .inl (cM, 10, .inr (.inr (.inr (.inr fM)))))] ++ MG cI cJ ma mv mso mrs n0) sz)) 0 0 (va_A ([(h0, .inr (8, [.ref (a 1), .ref (a 2), .ref (a 3), .ref (a 4), .ref (a 5), .ref (a 6), .ref (a 7), .ref (a 8), .int (iv 0), .int (iv 1), .int (iv 2), .int (iv 3)])), (a 2, .inl (cM, 10, .inr (.inr (.inr (.inr fM)))))] ++ MG cI cJ ma mv mso mrs n0) sz) := by
  refine Met.ofW (cc := cX8_alike) (maxL := 5) (ret := (some .int)) (by decide) rfl ?_
  intro p e s m args below meth c s₁ B hml hv
  obtain ⟨rfl, hsz, hG, hP, hD0⟩ := hv
  have hx := B.exec
  have hb := B.bytes
  have hr := B.returns
  have hts := atoms_spec (ws := wsX8_alike) B.pre
  have hown : s.vm.findClass RX8 = some m.cls := findClass_of_methodNamed B.named
  have hlocks := B.notSynchronized
  have hK := hG.1
  have hN := hG.2
  subst hsz
  have hD := hD0.self (sz := s.heap.size)
  generalize hAe : va_A ([(h0, .inr (8, [.ref (a 1), .ref (a 2), .ref (a 3), .ref (a 4), .ref (a 5), .ref (a 6), .ref (a 7), .ref (a 8), .int (iv 0), .int (iv 1), .int (iv 2), .int (iv 3)])), (a 2, .inl (cM, 10, .inr (.inr (.inr (.inr fM)))))] ++ MG cI cJ ma mv mso mrs n0) s.heap.size = A at hD ⊢
  have hA : ∀ q : Nat, s.heap.size ≤ q → A q := fun q h => by rw [← hAe]; exact Or.inr h
  have hS : va_S A s.heap s.heap [] := va_S.rf
  have hP : va_P D vwCl ([(h0, .inr (8, [.ref (a 1), .ref (a 2), .ref (a 3), .ref (a 4), .ref (a 5), .ref (a 6), .ref (a 7), .ref (a 8), .int (iv 0), .int (iv 1), .int (iv 2), .int (iv 3)])), (a 2, .inl (cM, 10, .inr (.inr (.inr (.inr fM)))))] ++ MG cI cJ ma mv mso mrs n0) s.heap := hP
  have hl := lv_entry ([.ref h0, .int x1, .int x2]) (n := 5) (Nat.le_of_ble_eq_true rfl)
  rw [lg_entry_eq]
  generalize (lg_sl ([.ref h0, .int x1, .int x2]) ++ List.replicate (5 - (lg_sl ([.ref h0, .int x1, .int x2])).length) Slot.unset).toArray = ls at hl ⊢
  have hl : lv_has ls 5 [(0, .ref h0), (1, .int x1), (2, .int x2)] := hl
  refine lv_aload_n hx hb dX8_alike_0 rfl (lv_at hl 0 rfl) ?_
  refine lv_iload_n hx hb dX8_alike_1 rfl (lv_at hl 1 rfl) ?_
  rcases Classical.em (isM n0 x1) with ⟨m1_, hm1_, rfl⟩ | hno_1
  · have hl : lv_has ls 5 [(0, .ref h0), (1, .int (nI m1_)), (2, .int x2)] := hl
    have hPc := hP.sub (ws' := [(h0, .inr (8, [.ref (a 1), .ref (a 2), .ref (a 3), .ref (a 4), .ref (a 5), .ref (a 6), .ref (a 7), .ref (a 8), .int (iv 0), .int (iv 1), .int (iv 2), .int (iv 3)])), (a 2, .inl (cM, 10, .inr (.inr (.inr (.inr fM)))))]) [0, 1] rfl
    refine va_csq (va_Run.run (va_runV (As := [.int (nI m1_)]) (rest := []) ⟨hx, hb, hml, hown, hts⟩ (k_X8_known_y l D cI cJ cZ cM h0 a iv ma n0 fM hn0 hfM h_n m1_ hm1_) (cwV 1 hts gX8_alike_X8_known rfl rfl rfl (by decide +kernel) ⟨Nat.le_of_ble_eq_true rfl, Nat.le_of_ble_eq_true rfl⟩) (ro_V hG hPc (va_recv hK hPc (ci := 8) (q0 := 0) rfl rfl)) rfl rfl hl.1 rfl (lv_room (Nat.le_of_ble_eq_true rfl)) dX8_alike_2 ⟨Nat.le_of_ble_eq_true rfl, Nat.le_of_ble_eq_true rfl⟩)) (fun r_1 h_1 => ?_)
    obtain rfl : r_1 = some (ma m1_ 0) := h_1
    refine W.eq (g2 := F0 m 5 ls [.ref (ma m1_ 0)]) rfl ?_
    refine lv_astore_n (lv' := [(3, .ref (ma m1_ 0)), (0, .ref h0), (1, .int (nI m1_)), (2, .int x2)]) hx hb dX8_alike_5 rfl hl (by decide) rfl (fun ls hl => ?_)
    refine lv_aload_n hx hb dX8_alike_6 rfl (lv_at hl 1 rfl) ?_
    refine lv_iload_n hx hb dX8_alike_7 rfl (lv_at hl 3 rfl) ?_
    rcases Classical.em (isM n0 x2) with ⟨m2_, hm2_, rfl⟩ | hno_2
    · have hl : lv_has ls 5 [(3, .ref (ma m1_ 0)), (0, .ref h0), (1, .int (nI m1_)), (2, .int (nI m2_))] := hl
      have hPc := hP.sub (ws' := [(h0, .inr (8, [.ref (a 1), .ref (a 2), .ref (a 3), .ref (a 4), .ref (a 5), .ref (a 6), .ref (a 7), .ref (a 8), .int (iv 0), .int (iv 1), .int (iv 2), .int (iv 3)])), (a 2, .inl (cM, 10, .inr (.inr (.inr (.inr fM)))))]) [0, 1] rfl
      refine va_csq (va_Run.run (va_runV (As := [.int (nI m2_)]) (rest := []) ⟨hx, hb, hml, hown, hts⟩ (k_X8_known_y l D cI cJ cZ cM h0 a iv ma n0 fM hn0 hfM h_n m2_ hm2_) (cwV 1 hts gX8_alike_X8_known rfl rfl rfl (by decide +kernel) ⟨Nat.le_of_ble_eq_true rfl, Nat.le_of_ble_eq_true rfl⟩) (ro_V hG hPc (va_recv hK hPc (ci := 8) (q0 := 0) rfl rfl)) rfl rfl hl.1 rfl (lv_room (Nat.le_of_ble_eq_true rfl)) dX8_alike_8 ⟨Nat.le_of_ble_eq_true rfl, Nat.le_of_ble_eq_true rfl⟩)) (fun r_2 h_2 => ?_)
      obtain rfl : r_2 = some (ma m2_ 0) := h_2
      refine W.eq (g2 := F0 m 11 ls [.ref (ma m2_ 0)]) rfl ?_
      refine lv_astore (lv' := [(4, .ref (ma m2_ 0)), (3, .ref (ma m1_ 0)), (0, .ref h0), (1, .int (nI m1_)), (2, .int (nI m2_))]) hx hb dX8_alike_11 hl (by decide) rfl (fun ls hl => ?_)
      refine lv_aload_n hx hb dX8_alike_13 rfl (lv_at hl 1 rfl) ?_
      refine lv_ifnull hx hb dX8_alike_14 ?_
      refine lv_aload hx hb dX8_alike_17 (lv_at hl 0 rfl) ?_
      refine lv_ifnull hx hb dX8_alike_19 ?_
      refine lv_iload_n hx hb dX8_alike_22 rfl (lv_at hl 3 rfl) ?_
      refine lv_iload_n hx hb dX8_alike_23 rfl (lv_at hl 4 rfl) ?_
      refine lv_icmp_eq (tgt := 48) hx hb dX8_alike_24 (by decide) (fun c_3 => ?_) (fun c_3 => ?_)
      · refine lv_iconst (v := (-1)) hx hb dX8_alike_48 (by decide) ?_
        have hP9 := hP.part (cx := [(h0, .inr (8, [.ref (a 1), .ref (a 2), .ref (a 3), .ref (a 4), .ref (a 5), .ref (a 6), .ref (a 7), .ref (a 8), .int (iv 0), .int (iv 1), .int (iv 2), .int (iv 3)])), (a 2, .inl (cM, 10, .inr (.inr (.inr (.inr fM)))))]) [0, 1] rfl
        have hD9 := hD.part (cx := [(h0, .inr (8, [.ref (a 1), .ref (a 2), .ref (a 3), .ref (a 4), .ref (a 5), .ref (a 6), .ref (a 7), .ref (a 8), .int (iv 0), .int (iv 1), .int (iv 2), .int (iv 3)])), (a 2, .inl (cM, 10, .inr (.inr (.inr (.inr fM)))))]) [0, 1] (by decide) rfl
        exact W.iret (v := (-1)) hx hb hr (fun t ht hW => ⟨⟨(-1), (), rfl, trivial, ⟨by rw [ht]; exact hP9, hD9⟩⟩, hS.F ht⟩) hS.2.2 dX8_alike_49
      refine lv_aload_n hx hb dX8_alike_27 rfl (lv_at hl 1 rfl) ?_
      refine va_getN (D := D) (ci := 1) (v := .ref (ma m1_ 4)) (C := RX1) (T := TX1) (N := 9) hx hb hts (fun _ h9 => List.mem_cons_of_mem _ (List.mem_append_left _ (List.mem_append_left _ (List.mem_append_right _ h9)))) hown hK hP (2 + (6 * m1_ + 0)) (mg_x0 rfl hm1_) rfl 5 (by decide) (va_Nw.use rfl (hN.1 (RX8, 157, "BuoyTender$Mark", "rhythm", "LBuoyTender$Rhythm;", "BuoyTender") (by decide +kernel))) (fun _ h9 => h9) rfl dX8_alike_28 ?_
      have hq0 : va_P D vwCl [(ma m1_ 4, .inr (3, [.ref (ma m1_ 5), .int (mv m1_ 14)]))] _ := vaP_1 (k := (2 + (6 * m1_ + 4))) hP (mg_x4 rfl hm1_)
      have hq1 : va_P D vwCl [(ma m1_ 5, .inl (cI, 8, .inl (mrs m1_)))] _ := vaP_1 (k := (2 + (6 * m1_ + 5))) hP (mg_x5 rfl hm1_)
      have hPc := (va_P.app hq0 hq1)
      have hPc : va_P D vwCl [(ma m1_ 4, .inr (3, [.ref (ma m1_ 5), .int (mv m1_ 14)])), (ma m1_ 5, .inl (cI, 8, .inl (mrs m1_)))] _ := hPc
      refine vp_callSi (va_Run.run (va_runVN (As := []) (rest := []) ⟨hx, hb, hml, hown, hts⟩ (k_X3_isLit l D cI cJ cZ cM (ma m1_ 4) (ma m1_ 5) (mv m1_ 14) (mrs m1_)) ⟨(va_cnB 0 hts gX8_alike_X3_isLit_n181 rfl rfl rfl (hN.2.1 (RX8, 181, yX3_isLit, "BuoyTender") (by decide +kernel)) (hts (.initialized RX3) (by decide +kernel)) (by decide +kernel) ⟨Nat.le_of_ble_eq_true rfl, Nat.le_of_ble_eq_true rfl⟩), hts (.instanceMethod yX3_isLit) (by decide +kernel), hts (.selects RX3 yX3_isLit yX3_isLit) (by decide +kernel)⟩ (ro_V hG hPc (va_recv hK hPc (ci := 3) (q0 := 0) rfl rfl)) rfl rfl hl.1 rfl (lv_room (Nat.le_of_ble_eq_true rfl)) dX8_alike_31 ⟨Nat.le_of_ble_eq_true rfl, Nat.le_of_ble_eq_true rfl⟩)) (fun r_4 h_4 => ?_)
      rcases h_4 with rfl | rfl
      · refine lv_if_eq (tgt := 48) hx hb dX8_alike_34 (by decide) (fun _ => ?_) (fun c_5 => False.elim (by revert c_5; decide))
        refine lv_iconst (v := (-1)) hx hb dX8_alike_48 (by decide) ?_
        have hP9 := hP.part (cx := [(h0, .inr (8, [.ref (a 1), .ref (a 2), .ref (a 3), .ref (a 4), .ref (a 5), .ref (a 6), .ref (a 7), .ref (a 8), .int (iv 0), .int (iv 1), .int (iv 2), .int (iv 3)])), (a 2, .inl (cM, 10, .inr (.inr (.inr (.inr fM)))))]) [0, 1] rfl
        have hD9 := hD.part (cx := [(h0, .inr (8, [.ref (a 1), .ref (a 2), .ref (a 3), .ref (a 4), .ref (a 5), .ref (a 6), .ref (a 7), .ref (a 8), .int (iv 0), .int (iv 1), .int (iv 2), .int (iv 3)])), (a 2, .inl (cM, 10, .inr (.inr (.inr (.inr fM)))))]) [0, 1] (by decide) rfl
        exact W.iret (v := (-1)) hx hb hr (fun t ht hW => ⟨⟨(-1), (), rfl, trivial, ⟨by rw [ht]; exact hP9, hD9⟩⟩, hS.F ht⟩) hS.2.2 dX8_alike_49
      refine lv_if_eq (tgt := 48) hx hb dX8_alike_34 (by decide) (fun c_6 => False.elim (by revert c_6; decide)) (fun _ => ?_)
      refine lv_aload hx hb dX8_alike_37 (lv_at hl 0 rfl) ?_
      refine va_getN (D := D) (ci := 1) (v := .ref (ma m2_ 4)) (C := RX1) (T := TX1) (N := 9) hx hb hts (fun _ h9 => List.mem_cons_of_mem _ (List.mem_append_left _ (List.mem_append_left _ (List.mem_append_right _ h9)))) hown hK hP (2 + (6 * m2_ + 0)) (mg_x0 rfl hm2_) rfl 5 (by decide) (va_Nw.use rfl (hN.1 (RX8, 157, "BuoyTender$Mark", "rhythm", "LBuoyTender$Rhythm;", "BuoyTender") (by decide +kernel))) (fun _ h9 => h9) rfl dX8_alike_39 ?_
      have hq0 : va_P D vwCl [(ma m2_ 4, .inr (3, [.ref (ma m2_ 5), .int (mv m2_ 14)]))] _ := vaP_1 (k := (2 + (6 * m2_ + 4))) hP (mg_x4 rfl hm2_)
      have hq1 : va_P D vwCl [(ma m2_ 5, .inl (cI, 8, .inl (mrs m2_)))] _ := vaP_1 (k := (2 + (6 * m2_ + 5))) hP (mg_x5 rfl hm2_)
      have hPc := (va_P.app hq0 hq1)
      have hPc : va_P D vwCl [(ma m2_ 4, .inr (3, [.ref (ma m2_ 5), .int (mv m2_ 14)])), (ma m2_ 5, .inl (cI, 8, .inl (mrs m2_)))] _ := hPc
      refine vp_callSi (va_Run.run (va_runVN (As := []) (rest := []) ⟨hx, hb, hml, hown, hts⟩ (k_X3_isLit l D cI cJ cZ cM (ma m2_ 4) (ma m2_ 5) (mv m2_ 14) (mrs m2_)) ⟨(va_cnB 0 hts gX8_alike_X3_isLit_n181 rfl rfl rfl (hN.2.1 (RX8, 181, yX3_isLit, "BuoyTender") (by decide +kernel)) (hts (.initialized RX3) (by decide +kernel)) (by decide +kernel) ⟨Nat.le_of_ble_eq_true rfl, Nat.le_of_ble_eq_true rfl⟩), hts (.instanceMethod yX3_isLit) (by decide +kernel), hts (.selects RX3 yX3_isLit yX3_isLit) (by decide +kernel)⟩ (ro_V hG hPc (va_recv hK hPc (ci := 3) (q0 := 0) rfl rfl)) rfl rfl hl.1 rfl (lv_room (Nat.le_of_ble_eq_true rfl)) dX8_alike_42 ⟨Nat.le_of_ble_eq_true rfl, Nat.le_of_ble_eq_true rfl⟩)) (fun r_7 h_7 => ?_)
      rcases h_7 with rfl | rfl
      · refine lv_if_ne (tgt := 50) hx hb dX8_alike_45 (by decide) (fun c_8 => False.elim (by revert c_8; decide)) (fun _ => ?_)
        refine lv_iconst (v := (-1)) hx hb dX8_alike_48 (by decide) ?_
        have hP9 := hP.part (cx := [(h0, .inr (8, [.ref (a 1), .ref (a 2), .ref (a 3), .ref (a 4), .ref (a 5), .ref (a 6), .ref (a 7), .ref (a 8), .int (iv 0), .int (iv 1), .int (iv 2), .int (iv 3)])), (a 2, .inl (cM, 10, .inr (.inr (.inr (.inr fM)))))]) [0, 1] rfl
        have hD9 := hD.part (cx := [(h0, .inr (8, [.ref (a 1), .ref (a 2), .ref (a 3), .ref (a 4), .ref (a 5), .ref (a 6), .ref (a 7), .ref (a 8), .int (iv 0), .int (iv 1), .int (iv 2), .int (iv 3)])), (a 2, .inl (cM, 10, .inr (.inr (.inr (.inr fM)))))]) [0, 1] (by decide) rfl
        exact W.iret (v := (-1)) hx hb hr (fun t ht hW => ⟨⟨(-1), (), rfl, trivial, ⟨by rw [ht]; exact hP9, hD9⟩⟩, hS.F ht⟩) hS.2.2 dX8_alike_49
      refine lv_if_ne (tgt := 50) hx hb dX8_alike_45 (by decide) (fun _ => ?_) (fun c_9 => False.elim (by revert c_9; decide))
      obtain ⟨sq_, hsq, esq⟩ := hrm m1_ hm1_
      refine lv_aload_n hx hb dX8_alike_50 rfl (lv_at hl 1 rfl) ?_
      refine va_getN (D := D) (ci := 1) (v := .ref (ma m1_ 4)) (C := RX1) (T := TX1) (N := 9) hx hb hts (fun _ h9 => List.mem_cons_of_mem _ (List.mem_append_left _ (List.mem_append_left _ (List.mem_append_right _ h9)))) hown hK hP (2 + (6 * m1_ + 0)) (mg_x0 rfl hm1_) rfl 5 (by decide) (va_Nw.use rfl (hN.1 (RX8, 157, "BuoyTender$Mark", "rhythm", "LBuoyTender$Rhythm;", "BuoyTender") (by decide +kernel))) (fun _ h9 => h9) rfl dX8_alike_51 ?_
      refine lv_aload hx hb dX8_alike_54 (lv_at hl 0 rfl) ?_
      refine va_getN (D := D) (ci := 1) (v := .ref (ma m2_ 4)) (C := RX1) (T := TX1) (N := 9) hx hb hts (fun _ h9 => List.mem_cons_of_mem _ (List.mem_append_left _ (List.mem_append_left _ (List.mem_append_right _ h9)))) hown hK hP (2 + (6 * m2_ + 0)) (mg_x0 rfl hm2_) rfl 5 (by decide) (va_Nw.use rfl (hN.1 (RX8, 157, "BuoyTender$Mark", "rhythm", "LBuoyTender$Rhythm;", "BuoyTender") (by decide +kernel))) (fun _ h9 => h9) rfl dX8_alike_56 ?_
      have hq0 : va_P D vwCl [(ma m1_ 4, .inr (3, [.ref (ma m1_ 5), .int (mv m1_ 14)]))] _ := vaP_1 (k := (2 + (6 * m1_ + 4))) hP (mg_x4 rfl hm1_)
      have hq1 : va_P D vwCl [(ma m1_ 5, .inl (cI, 8, .inl (mrs m1_)))] _ := vaP_1 (k := (2 + (6 * m1_ + 5))) hP (mg_x5 rfl hm1_)
      have hq2 : va_P D vwCl [(ma m2_ 4, .inr (3, [.ref (ma m2_ 5), .int (mv m2_ 14)]))] _ := vaP_1 (k := (2 + (6 * m2_ + 4))) hP (mg_x4 rfl hm2_)
      have hq3 : va_P D vwCl [(ma m2_ 5, .inl (cI, 8, .inl (mrs m2_)))] _ := vaP_1 (k := (2 + (6 * m2_ + 5))) hP (mg_x5 rfl hm2_)
      have hPc := (va_P.app (va_P.app (va_P.app hq0 hq1) hq2) hq3)
      have hPc : va_P D vwCl [(ma m1_ 4, .inr (3, [.ref (ma m1_ 5), .int (mv m1_ 14)])), (ma m1_ 5, .inl (cI, 8, .inl (mrs m1_))), (ma m2_ 4, .inr (3, [.ref (ma m2_ 5), .int (mv m2_ 14)])), (ma m2_ 5, .inl (cI, 8, .inl (mrs m2_)))] _ := hPc
      refine vp_callSi (va_Run.run (va_runVN (As := [.ref (ma m2_ 4)]) (rest := []) ⟨hx, hb, hml, hown, hts⟩ (k_X3_matches l D cI cJ cZ cM (ma m1_ 4) (ma m1_ 5) (mv m1_ 14) (mrs m1_) (ma m2_ 4) (ma m2_ 5) (mv m2_ 14) (mrs m2_) sq_ (show mv m1_ 14 = nI sq_ from esq) hsq) ⟨(va_cnB 1 hts gX8_alike_X3_matches_n185 rfl rfl rfl (hN.2.1 (RX8, 185, yX3_matches, "BuoyTender") (by decide +kernel)) (hts (.initialized RX3) (by decide +kernel)) (by decide +kernel) ⟨Nat.le_of_ble_eq_true rfl, Nat.le_of_ble_eq_true rfl⟩), hts (.instanceMethod yX3_matches) (by decide +kernel), hts (.selects RX3 yX3_matches yX3_matches) (by decide +kernel)⟩ (ro_V hG hPc (va_recv hK hPc (ci := 3) (q0 := 0) rfl rfl)) rfl rfl hl.1 rfl (lv_room (Nat.le_of_ble_eq_true rfl)) dX8_alike_59 ⟨Nat.le_of_ble_eq_true rfl, Nat.le_of_ble_eq_true rfl⟩)) (fun r_10 h_10 => ?_)
      rcases h_10 with rfl | rfl
      · refine lv_if_eq (tgt := 69) hx hb dX8_alike_62 (by decide) (fun _ => ?_) (fun c_11 => False.elim (by revert c_11; decide))
        refine lv_iconst (v := 0) hx hb dX8_alike_69 (by decide) ?_
        have hP9 := hP.part (cx := [(h0, .inr (8, [.ref (a 1), .ref (a 2), .ref (a 3), .ref (a 4), .ref (a 5), .ref (a 6), .ref (a 7), .ref (a 8), .int (iv 0), .int (iv 1), .int (iv 2), .int (iv 3)])), (a 2, .inl (cM, 10, .inr (.inr (.inr (.inr fM)))))]) [0, 1] rfl
        have hD9 := hD.part (cx := [(h0, .inr (8, [.ref (a 1), .ref (a 2), .ref (a 3), .ref (a 4), .ref (a 5), .ref (a 6), .ref (a 7), .ref (a 8), .int (iv 0), .int (iv 1), .int (iv 2), .int (iv 3)])), (a 2, .inl (cM, 10, .inr (.inr (.inr (.inr fM)))))]) [0, 1] (by decide) rfl
        exact W.iret (v := 0) hx hb hr (fun t ht hW => ⟨⟨0, (), rfl, trivial, ⟨by rw [ht]; exact hP9, hD9⟩⟩, hS.F ht⟩) hS.2.2 dX8_alike_70
      refine lv_if_eq (tgt := 69) hx hb dX8_alike_62 (by decide) (fun c_12 => False.elim (by revert c_12; decide)) (fun _ => ?_)
      refine lv_iconst (v := 1) hx hb dX8_alike_65 (by decide) ?_
      refine lv_goto (tgt := 70) hx hb dX8_alike_66 (by decide) ?_
      have hP9 := hP.part (cx := [(h0, .inr (8, [.ref (a 1), .ref (a 2), .ref (a 3), .ref (a 4), .ref (a 5), .ref (a 6), .ref (a 7), .ref (a 8), .int (iv 0), .int (iv 1), .int (iv 2), .int (iv 3)])), (a 2, .inl (cM, 10, .inr (.inr (.inr (.inr fM)))))]) [0, 1] rfl
      have hD9 := hD.part (cx := [(h0, .inr (8, [.ref (a 1), .ref (a 2), .ref (a 3), .ref (a 4), .ref (a 5), .ref (a 6), .ref (a 7), .ref (a 8), .int (iv 0), .int (iv 1), .int (iv 2), .int (iv 3)])), (a 2, .inl (cM, 10, .inr (.inr (.inr (.inr fM)))))]) [0, 1] (by decide) rfl
      exact W.iret (v := 1) hx hb hr (fun t ht hW => ⟨⟨1, (), rfl, trivial, ⟨by rw [ht]; exact hP9, hD9⟩⟩, hS.F ht⟩) hS.2.2 dX8_alike_70
    · have hPc := hP.sub (ws' := [(h0, .inr (8, [.ref (a 1), .ref (a 2), .ref (a 3), .ref (a 4), .ref (a 5), .ref (a 6), .ref (a 7), .ref (a 8), .int (iv 0), .int (iv 1), .int (iv 2), .int (iv 3)])), (a 2, .inl (cM, 10, .inr (.inr (.inr (.inr fM)))))]) [0, 1] rfl
      refine va_csq (va_Run.run (va_runV (As := [.int x2]) (rest := []) ⟨hx, hb, hml, hown, hts⟩ (k_X8_known_n l D cI cJ cZ cM h0 a iv ma n0 fM hn0 hfM h_n x2 hno_2) (cwV 1 hts gX8_alike_X8_known rfl rfl rfl (by decide +kernel) ⟨Nat.le_of_ble_eq_true rfl, Nat.le_of_ble_eq_true rfl⟩) (ro_V hG hPc (va_recv hK hPc (ci := 8) (q0 := 0) rfl rfl)) rfl rfl hl.1 rfl (lv_room (Nat.le_of_ble_eq_true rfl)) dX8_alike_8 ⟨Nat.le_of_ble_eq_true rfl, Nat.le_of_ble_eq_true rfl⟩)) (fun r_2 h_2 => ?_)
      obtain rfl : r_2 = none := h_2
      refine W.eq (g2 := F0 m 11 ls [.null]) rfl ?_
      refine lv_astoreN (lv' := [(4, .null), (3, .ref (ma m1_ 0)), (0, .ref h0), (1, .int (nI m1_)), (2, .int x2)]) hx hb dX8_alike_11 hl (by decide) rfl (fun ls hl => ?_)
      refine lv_aload_n hx hb dX8_alike_13 rfl (lv_at hl 1 rfl) ?_
      refine lv_ifnull hx hb dX8_alike_14 ?_
      refine lv_aloadN hx hb dX8_alike_17 (lv_at hl 0 rfl) ?_
      refine lv_ifnullN (tgt := 48) hx hb dX8_alike_19 (by decide) ?_
      refine lv_iconst (v := (-1)) hx hb dX8_alike_48 (by decide) ?_
      have hP9 := hP.part (cx := [(h0, .inr (8, [.ref (a 1), .ref (a 2), .ref (a 3), .ref (a 4), .ref (a 5), .ref (a 6), .ref (a 7), .ref (a 8), .int (iv 0), .int (iv 1), .int (iv 2), .int (iv 3)])), (a 2, .inl (cM, 10, .inr (.inr (.inr (.inr fM)))))]) [0, 1] rfl
      have hD9 := hD.part (cx := [(h0, .inr (8, [.ref (a 1), .ref (a 2), .ref (a 3), .ref (a 4), .ref (a 5), .ref (a 6), .ref (a 7), .ref (a 8), .int (iv 0), .int (iv 1), .int (iv 2), .int (iv 3)])), (a 2, .inl (cM, 10, .inr (.inr (.inr (.inr fM)))))]) [0, 1] (by decide) rfl
      exact W.iret (v := (-1)) hx hb hr (fun t ht hW => ⟨⟨(-1), (), rfl, trivial, ⟨by rw [ht]; exact hP9, hD9⟩⟩, hS.F ht⟩) hS.2.2 dX8_alike_49
  · have hPc := hP.sub (ws' := [(h0, .inr (8, [.ref (a 1), .ref (a 2), .ref (a 3), .ref (a 4), .ref (a 5), .ref (a 6), .ref (a 7), .ref (a 8), .int (iv 0), .int (iv 1), .int (iv 2), .int (iv 3)])), (a 2, .inl (cM, 10, .inr (.inr (.inr (.inr fM)))))]) [0, 1] rfl
    refine va_csq (va_Run.run (va_runV (As := [.int x1]) (rest := []) ⟨hx, hb, hml, hown, hts⟩ (k_X8_known_n l D cI cJ cZ cM h0 a iv ma n0 fM hn0 hfM h_n x1 hno_1) (cwV 1 hts gX8_alike_X8_known rfl rfl rfl (by decide +kernel) ⟨Nat.le_of_ble_eq_true rfl, Nat.le_of_ble_eq_true rfl⟩) (ro_V hG hPc (va_recv hK hPc (ci := 8) (q0 := 0) rfl rfl)) rfl rfl hl.1 rfl (lv_room (Nat.le_of_ble_eq_true rfl)) dX8_alike_2 ⟨Nat.le_of_ble_eq_true rfl, Nat.le_of_ble_eq_true rfl⟩)) (fun r_1 h_1 => ?_)
    obtain rfl : r_1 = none := h_1
    refine W.eq (g2 := F0 m 5 ls [.null]) rfl ?_
    refine lv_astore_nN (lv' := [(3, .null), (0, .ref h0), (1, .int x1), (2, .int x2)]) hx hb dX8_alike_5 rfl hl (by decide) rfl (fun ls hl => ?_)
    refine lv_aload_n hx hb dX8_alike_6 rfl (lv_at hl 1 rfl) ?_
    refine lv_iload_n hx hb dX8_alike_7 rfl (lv_at hl 3 rfl) ?_
    rcases Classical.em (isM n0 x2) with ⟨m13_, hm13_, rfl⟩ | hno_13
    · have hl : lv_has ls 5 [(3, .null), (0, .ref h0), (1, .int x1), (2, .int (nI m13_))] := hl
      have hPc := hP.sub (ws' := [(h0, .inr (8, [.ref (a 1), .ref (a 2), .ref (a 3), .ref (a 4), .ref (a 5), .ref (a 6), .ref (a 7), .ref (a 8), .int (iv 0), .int (iv 1), .int (iv 2), .int (iv 3)])), (a 2, .inl (cM, 10, .inr (.inr (.inr (.inr fM)))))]) [0, 1] rfl
      refine va_csq (va_Run.run (va_runV (As := [.int (nI m13_)]) (rest := []) ⟨hx, hb, hml, hown, hts⟩ (k_X8_known_y l D cI cJ cZ cM h0 a iv ma n0 fM hn0 hfM h_n m13_ hm13_) (cwV 1 hts gX8_alike_X8_known rfl rfl rfl (by decide +kernel) ⟨Nat.le_of_ble_eq_true rfl, Nat.le_of_ble_eq_true rfl⟩) (ro_V hG hPc (va_recv hK hPc (ci := 8) (q0 := 0) rfl rfl)) rfl rfl hl.1 rfl (lv_room (Nat.le_of_ble_eq_true rfl)) dX8_alike_8 ⟨Nat.le_of_ble_eq_true rfl, Nat.le_of_ble_eq_true rfl⟩)) (fun r_13 h_13 => ?_)
      obtain rfl : r_13 = some (ma m13_ 0) := h_13
      refine W.eq (g2 := F0 m 11 ls [.ref (ma m13_ 0)]) rfl ?_
      refine lv_astore (lv' := [(4, .ref (ma m13_ 0)), (3, .null), (0, .ref h0), (1, .int x1), (2, .int (nI m13_))]) hx hb dX8_alike_11 hl (by decide) rfl (fun ls hl => ?_)
      refine lv_aload_nN hx hb dX8_alike_13 rfl (lv_at hl 1 rfl) ?_
      refine lv_ifnullN (tgt := 48) hx hb dX8_alike_14 (by decide) ?_
      refine lv_iconst (v := (-1)) hx hb dX8_alike_48 (by decide) ?_
      have hP9 := hP.part (cx := [(h0, .inr (8, [.ref (a 1), .ref (a 2), .ref (a 3), .ref (a 4), .ref (a 5), .ref (a 6), .ref (a 7), .ref (a 8), .int (iv 0), .int (iv 1), .int (iv 2), .int (iv 3)])), (a 2, .inl (cM, 10, .inr (.inr (.inr (.inr fM)))))]) [0, 1] rfl
      have hD9 := hD.part (cx := [(h0, .inr (8, [.ref (a 1), .ref (a 2), .ref (a 3), .ref (a 4), .ref (a 5), .ref (a 6), .ref (a 7), .ref (a 8), .int (iv 0), .int (iv 1), .int (iv 2), .int (iv 3)])), (a 2, .inl (cM, 10, .inr (.inr (.inr (.inr fM)))))]) [0, 1] (by decide) rfl
      exact W.iret (v := (-1)) hx hb hr (fun t ht hW => ⟨⟨(-1), (), rfl, trivial, ⟨by rw [ht]; exact hP9, hD9⟩⟩, hS.F ht⟩) hS.2.2 dX8_alike_49
    · have hPc := hP.sub (ws' := [(h0, .inr (8, [.ref (a 1), .ref (a 2), .ref (a 3), .ref (a 4), .ref (a 5), .ref (a 6), .ref (a 7), .ref (a 8), .int (iv 0), .int (iv 1), .int (iv 2), .int (iv 3)])), (a 2, .inl (cM, 10, .inr (.inr (.inr (.inr fM)))))]) [0, 1] rfl
      refine va_csq (va_Run.run (va_runV (As := [.int x2]) (rest := []) ⟨hx, hb, hml, hown, hts⟩ (k_X8_known_n l D cI cJ cZ cM h0 a iv ma n0 fM hn0 hfM h_n x2 hno_13) (cwV 1 hts gX8_alike_X8_known rfl rfl rfl (by decide +kernel) ⟨Nat.le_of_ble_eq_true rfl, Nat.le_of_ble_eq_true rfl⟩) (ro_V hG hPc (va_recv hK hPc (ci := 8) (q0 := 0) rfl rfl)) rfl rfl hl.1 rfl (lv_room (Nat.le_of_ble_eq_true rfl)) dX8_alike_8 ⟨Nat.le_of_ble_eq_true rfl, Nat.le_of_ble_eq_true rfl⟩)) (fun r_13 h_13 => ?_)
      obtain rfl : r_13 = none := h_13
      refine W.eq (g2 := F0 m 11 ls [.null]) rfl ?_
      refine lv_astoreN (lv' := [(4, .null), (3, .null), (0, .ref h0), (1, .int x1), (2, .int x2)]) hx hb dX8_alike_11 hl (by decide) rfl (fun ls hl => ?_)
      refine lv_aload_nN hx hb dX8_alike_13 rfl (lv_at hl 1 rfl) ?_
      refine lv_ifnullN (tgt := 48) hx hb dX8_alike_14 (by decide) ?_
      refine lv_iconst (v := (-1)) hx hb dX8_alike_48 (by decide) ?_
      have hP9 := hP.part (cx := [(h0, .inr (8, [.ref (a 1), .ref (a 2), .ref (a 3), .ref (a 4), .ref (a 5), .ref (a 6), .ref (a 7), .ref (a 8), .int (iv 0), .int (iv 1), .int (iv 2), .int (iv 3)])), (a 2, .inl (cM, 10, .inr (.inr (.inr (.inr fM)))))]) [0, 1] rfl
      have hD9 := hD.part (cx := [(h0, .inr (8, [.ref (a 1), .ref (a 2), .ref (a 3), .ref (a 4), .ref (a 5), .ref (a 6), .ref (a 7), .ref (a 8), .int (iv 0), .int (iv 1), .int (iv 2), .int (iv 3)])), (a 2, .inl (cM, 10, .inr (.inr (.inr (.inr fM)))))]) [0, 1] (by decide) rfl
      exact W.iret (v := (-1)) hx hb hr (fun t ht hW => ⟨⟨(-1), (), rfl, trivial, ⟨by rw [ht]; exact hP9, hD9⟩⟩, hS.F ht⟩) hS.2.2 dX8_alike_49
