/-- the numbers of the marks but those with lo ≤ q < hi are kept -/
def keepM (lo hi : Nat) (mv mv' : Nat → Nat → Int32) : Prop := ∀ j q, (q < lo ∨ hi ≤ q) → mv' j q = mv j q
theorem keep_0 {lo hi : Nat} (mv : Nat → Nat → Int32) : keepM lo hi mv mv := fun _ _ _ => rfl
theorem keep_3 (mv : Nat → Nat → Int32) (i : Nat) (x y z : Int32) : keepM 6 9 mv (mup (mup (mup mv i 6 x) i 7 y) i 8 z) := fun j q h => by
  rw [mup_k (by omega), mup_k (by omega), mup_k (by omega)]
set_option maxHeartbeats 4000000 in
set_option maxRecDepth 100000 in
/-- X8_sight -/
theorem k_X8_sight (l : Launch) (D : va_G) (cI cJ cZ cM : Nat) (h0 : Nat) (a : Nat → Nat) (iv : Nat → Int32) (av : Nat → Nat → Int32) (ma : Nat → Nat → Nat) (mv : Nat → Nat → Int32) (mso : Nat → Nat → Int64) (mrs : Nat → Nat → Int32) (n0 : Nat) (fM : Nat → Option Nat) (hn0 : n0 ≤ 10) (hfM : ∀ i, i < 10 → (i < n0 → fM i = some (ma i 0)) ∧ (n0 ≤ i → fM i = none)) (h_n : iv 0 = nI n0) (x1 : Int32) (sz : Nat) : Met l yX8_sight wsX8_sight ({ frames := 2, cells := 0, slots := 0, locals := 44 } : Room) (RW D cI cJ cZ cM [.ref h0, .int x1] ([(h0, .inr (8, [.ref (a 1), .ref (a 2), .ref (a 3), .ref (a 4), .ref (a 5), .ref (a 6), .ref (a 7), .ref (a 8), .int (iv 0), .int (iv 1), .int (iv 2), .int (iv 3)])), (a 2, .inl (cM, 10, .inr (.inr (.inr (.inr fM)))))] ++ MG cI cJ ma mv mso mrs n0) sz) (va_Qi (S := (Nat → Nat → Int32) × (Nat → Nat → Int64)) (fun r u => okI 1 0 (isM n0 x1) r ∧ keepM 6 9 mv u.1) (BB D (fun u => [(h0, .inr (8, [.ref (a 1), .ref (a 2), .ref (a 3), .ref (a 4), .ref (a 5), .ref (a 6), .ref (a 7), .ref (a 8), .int (iv 0), .int (iv 1), .int (iv 2), .int (iv 3)])), (a 2, .inl (cM, 10, .inr (.inr (.inr (.inr fM)))))] ++ MG cI cJ ma u.1 u.2 mrs n0) (va_A ([(h0, .inr (8, [.ref (a 1), .ref (a 2), .ref (a 3), .ref (a 4), .ref (a 5), .ref (a 6), .ref (a 7), .ref (a 8), .int (iv 0), .int (iv 1), .int (iv 2), .int (iv 3)])), (a 2, .inl (cM, 10, .inr (.inr (.inr (.inr fM)))))] ++ MG cI cJ ma mv mso mrs n0) sz)) (va_A ([(h0, .inr (8, [.ref (a 1), .ref (a 2), .ref (a 3), .ref (a 4), .ref (a 5), .ref (a 6), .ref (a 7), .ref (a 8), .int (iv 0), .int (iv 1), .int (iv 2), .int (iv 3)])), (a 2, .inl (cM, 10, .inr (.inr (.inr (.inr fM)))))] ++ MG cI cJ ma mv mso mrs n0) sz)) 0 0 (va_A ([(h0, .inr (8, [.ref (a 1), .ref (a 2), .ref (a 3), .ref (a 4), .ref (a 5), .ref (a 6), .ref (a 7), .ref (a 8), .int (iv 0), .int (iv 1), .int (iv 2), .int (iv 3)])), (a 2, .inl (cM, 10, .inr (.inr (.inr (.inr fM)))))] ++ MG cI cJ ma mv mso mrs n0) sz) := by
  refine Met.ofW (cc := cX8_sight) (maxL := 3) (ret := (some .boolean)) (by decide) rfl ?_
  intro p e s m args below meth c s₁ B hml hv
  obtain ⟨rfl, hsz, hG, hP, hD0⟩ := hv
  have hx := B.exec
  have hb := B.bytes
  have hr := B.returns
  have hts := atoms_spec (ws := wsX8_sight) B.pre
  have hown : s.vm.findClass RX8 = some m.cls := findClass_of_methodNamed B.named
  have hlocks := B.notSynchronized
  have hK := hG.1
  have hN := hG.2
  subst hsz
  have hD := hD0.self (sz := s.heap.size)
  generalize hAe : va_A ([(h0, .inr (8, [.ref (a 1), .ref (a 2), .ref (a 3), .ref (a 4), .ref (a 5), .ref (a 6), .ref (a 7), .ref (a 8), .int (iv 0), .int (iv 1), .int (iv 2), .int (iv 3)])), (a 2, .inl (cM, 10, .inr (.inr (.inr (.inr fM)))))] ++ MG cI cJ ma mv mso mrs n0) s.heap.size = A at hD ⊢
  have hA : ∀ q : Nat, s.heap.size ≤ q → A q := fun q h => by rw [← hAe]; exact Or.inr h
  have hS : va_S A s.heap s.heap [] := va_S.rf
  have hP : va_P D vwCl ([(h0, .inr (8, [.ref (a 1), .ref (a 2), .ref (a 3), .ref (a 4), .ref (a 5), .ref (a 6), .ref (a 7), .ref (a 8), .int (iv 0), .int (iv 1), .int (iv 2), .int (iv 3)])), (a 2, .inl (cM, 10, .inr (.inr (.inr (.inr fM)))))] ++ MG cI cJ ma mv mso mrs n0) s.heap := hP
  have hl := lv_entry ([.ref h0, .int x1]) (n := 3) (Nat.le_of_ble_eq_true rfl)
  rw [lg_entry_eq]
  generalize (lg_sl ([.ref h0, .int x1]) ++ List.replicate (3 - (lg_sl ([.ref h0, .int x1])).length) Slot.unset).toArray = ls at hl ⊢
  have hl : lv_has ls 3 [(0, .ref h0), (1, .int x1)] := hl
  refine lv_aload_n hx hb dX8_sight_0 rfl (lv_at hl 0 rfl) ?_
  refine lv_iload_n hx hb dX8_sight_1 rfl (lv_at hl 1 rfl) ?_
  rcases Classical.em (isM n0 x1) with ⟨m1_, hm1_, rfl⟩ | hno_1
  · have hl : lv_has ls 3 [(0, .ref h0), (1, .int (nI m1_))] := hl
    have hPc := hP.sub (ws' := [(h0, .inr (8, [.ref (a 1), .ref (a 2), .ref (a 3), .ref (a 4), .ref (a 5), .ref (a 6), .ref (a 7), .ref (a 8), .int (iv 0), .int (iv 1), .int (iv 2), .int (iv 3)])), (a 2, .inl (cM, 10, .inr (.inr (.inr (.inr fM)))))]) [0, 1] rfl
    refine va_csq (va_Run.run (va_runV (As := [.int (nI m1_)]) (rest := []) ⟨hx, hb, hml, hown, hts⟩ (k_X8_known_y l D cI cJ cZ cM h0 a iv ma n0 fM hn0 hfM h_n m1_ hm1_) (cwV 1 hts gX8_sight_X8_known rfl rfl rfl (by decide +kernel) ⟨Nat.le_of_ble_eq_true rfl, Nat.le_of_ble_eq_true rfl⟩) (ro_V hG hPc (va_recv hK hPc (ci := 8) (q0 := 0) rfl rfl)) rfl rfl hl.1 rfl (lv_room (Nat.le_of_ble_eq_true rfl)) dX8_sight_2 ⟨Nat.le_of_ble_eq_true rfl, Nat.le_of_ble_eq_true rfl⟩)) (fun r_1 h_1 => ?_)
    obtain rfl : r_1 = some (ma m1_ 0) := h_1
    refine W.eq (g2 := F0 m 5 ls [.ref (ma m1_ 0)]) rfl ?_
    refine lv_astore_n (lv' := [(2, .ref (ma m1_ 0)), (0, .ref h0), (1, .int (nI m1_))]) hx hb dX8_sight_5 rfl hl (by decide) rfl (fun ls hl => ?_)
    refine lv_aload_n hx hb dX8_sight_6 rfl (lv_at hl 0 rfl) ?_
    refine lv_ifnonnull (tgt := 12) hx hb dX8_sight_7 (by decide) ?_
    refine lv_aload_n hx hb dX8_sight_12 rfl (lv_at hl 0 rfl) ?_
    refine va_getN (D := D) (ci := 1) (v := .ref (ma m1_ 1)) (C := RX1) (T := TX1) (N := 9) hx hb hts (fun _ h9 => List.mem_cons_of_mem _ (List.mem_append_left _ (List.mem_append_left _ (List.mem_append_right _ h9)))) hown hK hP (2 + (6 * m1_ + 0)) (mg_x0 rfl hm1_) rfl 3 (by decide) (va_Nw.use rfl (hN.1 (RX8, 80, "BuoyTender$Mark", "sighting", "LBuoyTender$Sighting;", "BuoyTender") (by decide +kernel))) (fun _ h9 => h9) rfl dX8_sight_13 ?_
    have hq0 : va_P D vwCl [(ma m1_ 1, .inr (5, [.ref (ma m1_ 2), .int (mv m1_ 6), .int (mv m1_ 7), .int (mv m1_ 8)]))] _ := vaP_1 (k := (2 + (6 * m1_ + 1))) hP (mg_x1 rfl hm1_)
    have hq1 : va_P D vwCl [(ma m1_ 2, .inl (cJ, 40, .inr (.inl (mso m1_))))] _ := vaP_1 (k := (2 + (6 * m1_ + 2))) hP (mg_x2 rfl hm1_)
    have hPc := (va_P.app hq0 hq1)
    have hPc : va_P D vwCl [(ma m1_ 1, .inr (5, [.ref (ma m1_ 2), .int (mv m1_ 6), .int (mv m1_ 7), .int (mv m1_ 8)])), (ma m1_ 2, .inl (cJ, 40, .inr (.inl (mso m1_))))] _ := hPc
    have hmp9 : ([2 + (6 * m1_ + 1), 2 + (6 * m1_ + 2)] : List Nat).map (fun i => (([(h0, .inr (8, [.ref (a 1), .ref (a 2), .ref (a 3), .ref (a 4), .ref (a 5), .ref (a 6), .ref (a 7), .ref (a 8), .int (iv 0), .int (iv 1), .int (iv 2), .int (iv 3)])), (a 2, .inl (cM, 10, .inr (.inr (.inr (.inr fM)))))] : va_W) ++ MG cI cJ ma mv mso mrs n0)[i]?) = ([(ma m1_ 1, .inr (5, [.ref (ma m1_ 2), .int (mv m1_ 6), .int (mv m1_ 7), .int (mv m1_ 8)])), (ma m1_ 2, .inl (cJ, 40, .inr (.inl (mso m1_))))] : va_W).map some := (by simp only [List.map_cons, List.map_nil]; rw [mg_x1 (X := [(h0, .inr (8, [.ref (a 1), .ref (a 2), .ref (a 3), .ref (a 4), .ref (a 5), .ref (a 6), .ref (a 7), .ref (a 8), .int (iv 0), .int (iv 1), .int (iv 2), .int (iv 3)])), (a 2, .inl (cM, 10, .inr (.inr (.inr (.inr fM)))))]) (N := 2) rfl hm1_, mg_x2 (X := [(h0, .inr (8, [.ref (a 1), .ref (a 2), .ref (a 3), .ref (a 4), .ref (a 5), .ref (a 6), .ref (a 7), .ref (a 8), .int (iv 0), .int (iv 1), .int (iv 2), .int (iv 3)])), (a 2, .inl (cM, 10, .inr (.inr (.inr (.inr fM)))))]) (N := 2) rfl hm1_] <;> rfl)
    have hDc := vaD_at hD [2 + (6 * m1_ + 1), 2 + (6 * m1_ + 2)] (by simp <;> omega) hmp9
    have hFc := va_free hD hS hA [2 + (6 * m1_ + 1), 2 + (6 * m1_ + 2)] hmp9
    refine va_callv (va_runVN (As := []) (rest := []) ⟨hx, hb, hml, hown, hts⟩ (k_X5_begin l D cI cJ cZ cM (ma m1_ 1) (ma m1_ 2) (mv m1_ 6) (mv m1_ 7) (mv m1_ 8) (mso m1_)  _) ⟨(va_cnB 0 hts gX8_sight_X5_begin_n84 rfl rfl rfl (hN.2.1 (RX8, 84, yX5_begin, "BuoyTender") (by decide +kernel)) (hts (.initialized RX5) (by decide +kernel)) (by decide +kernel) ⟨Nat.le_of_ble_eq_true rfl, Nat.le_of_ble_eq_true rfl⟩), hts (.instanceMethod yX5_begin) (by decide +kernel), hts (.selects RX5 yX5_begin yX5_begin) (by decide +kernel)⟩ (rw_V hG hPc hDc (va_recv hK hPc (ci := 5) (q0 := 0) rfl rfl)) rfl rfl hl.1 rfl (lv_room (Nat.le_of_ble_eq_true rfl)) dX8_sight_16 ⟨Nat.le_of_ble_eq_true rfl, Nat.le_of_ble_eq_true rfl⟩) hS (fun q _ h => hFc q h) hFc (fun u_2 t_2 H1 locs ht hvm hw hB hz1 hk1 hS => ?_)
    obtain ⟨g6_2, g7_2, g8_2, gf_2⟩ := u_2
    obtain ⟨hP1, hD1⟩ := hB
    rw [ht] at hP1
    have hMK : MKc cI cJ ma (mup (mup (mup mv m1_ 6 g6_2) m1_ 7 g7_2) m1_ 8 g8_2) (rup mso m1_ gf_2) mrs m1_ = [(ma m1_ 0, .inr (1, [.int (mv m1_ 0), .int (mv m1_ 1), .int (mv m1_ 2), .ref (ma m1_ 1), .ref (ma m1_ 3), .ref (ma m1_ 4), .int (mv m1_ 3), .int (mv m1_ 4), .int (mv m1_ 5)])), (ma m1_ 1, .inr (5, [.ref (ma m1_ 2), .int g6_2, .int g7_2, .int g8_2])), (ma m1_ 2, .inl (cJ, 40, .inr (.inl gf_2))), (ma m1_ 3, .inr (0, [.int (mv m1_ 9), .int (mv m1_ 10), .int (mv m1_ 11), .int (mv m1_ 12), .int (mv m1_ 13)])), (ma m1_ 4, .inr (3, [.ref (ma m1_ 5), .int (mv m1_ 14)])), (ma m1_ 5, .inl (cI, 8, .inl (mrs m1_)))] := by simp [MKc, mup, rup]
    obtain ⟨hP, hD⟩ := mg_rep (X := [(h0, .inr (8, [.ref (a 1), .ref (a 2), .ref (a 3), .ref (a 4), .ref (a 5), .ref (a 6), .ref (a 7), .ref (a 8), .int (iv 0), .int (iv 1), .int (iv 2), .int (iv 3)])), (a 2, .inl (cM, 10, .inr (.inr (.inr (.inr fM)))))]) (mv' := (mup (mup (mup mv m1_ 6 g6_2) m1_ 7 g7_2) m1_ 8 g8_2)) (mso' := (rup mso m1_ gf_2)) (mrs' := mrs) (wx := []) (wm := [(ma m1_ 1, .inr (5, [.ref (ma m1_ 2), .int (mv m1_ 6), .int (mv m1_ 7), .int (mv m1_ 8)])), (ma m1_ 2, .inl (cJ, 40, .inr (.inl (mso m1_))))]) (w1 := [(ma m1_ 1, .inr (5, [.ref (ma m1_ 2), .int g6_2, .int g7_2, .int g8_2])), (ma m1_ 2, .inl (cJ, 40, .inr (.inl gf_2)))]) hP hD rfl hm1_ [] [1, 2] rfl rfl (by rw [hMK]; rfl) (fun j hj => ⟨fun q => by simp [mup, hj], by simp [rup, hj], by simp [rup, hj]⟩) (fun r hr hn => by rw [hMK]; rcases (show r = 0 ∨ r = 1 ∨ r = 2 ∨ r = 3 ∨ r = 4 ∨ r = 5 by omega) with rfl | rfl | rfl | rfl | rfl | rfl <;> first | rfl | exact absurd (by decide) hn) hk1 hP1
    generalize H1 = H at hP hS ⊢
    have hP : va_P D vwCl ([(h0, .inr (8, [.ref (a 1), .ref (a 2), .ref (a 3), .ref (a 4), .ref (a 5), .ref (a 6), .ref (a 7), .ref (a 8), .int (iv 0), .int (iv 1), .int (iv 2), .int (iv 3)])), (a 2, .inl (cM, 10, .inr (.inr (.inr (.inr fM)))))] ++ MG cI cJ ma (mup (mup (mup mv m1_ 6 g6_2) m1_ 7 g7_2) m1_ 8 g8_2) (rup mso m1_ gf_2) mrs n0) H := hP
    have hD : va_D A ([(h0, .inr (8, [.ref (a 1), .ref (a 2), .ref (a 3), .ref (a 4), .ref (a 5), .ref (a 6), .ref (a 7), .ref (a 8), .int (iv 0), .int (iv 1), .int (iv 2), .int (iv 3)])), (a 2, .inl (cM, 10, .inr (.inr (.inr (.inr fM)))))] ++ MG cI cJ ma (mup (mup (mup mv m1_ 6 g6_2) m1_ 7 g7_2) m1_ 8 g8_2) (rup mso m1_ gf_2) mrs n0) := hD
    refine lv_iconst (v := 1) hx hb dX8_sight_19 (by decide) ?_
    have hP9 := hP.part (cx := [(h0, .inr (8, [.ref (a 1), .ref (a 2), .ref (a 3), .ref (a 4), .ref (a 5), .ref (a 6), .ref (a 7), .ref (a 8), .int (iv 0), .int (iv 1), .int (iv 2), .int (iv 3)])), (a 2, .inl (cM, 10, .inr (.inr (.inr (.inr fM)))))]) [0, 1] rfl
    have hD9 := hD.part (cx := [(h0, .inr (8, [.ref (a 1), .ref (a 2), .ref (a 3), .ref (a 4), .ref (a 5), .ref (a 6), .ref (a 7), .ref (a 8), .int (iv 0), .int (iv 1), .int (iv 2), .int (iv 3)])), (a 2, .inl (cM, 10, .inr (.inr (.inr (.inr fM)))))]) [0, 1] (by decide) rfl
    exact W.zret (v := 1) hx hb hr rfl (fun t ht hW => ⟨⟨1, (mup (mup (mup mv m1_ 6 g6_2) m1_ 7 g7_2) m1_ 8 g8_2, rup mso m1_ gf_2), rfl, ⟨Or.inl ⟨rfl, ⟨m1_, hm1_, rfl⟩⟩, keep_3 _ _ _ _ _⟩, ⟨by rw [ht]; exact hP9, hD9⟩⟩, hS.F ht⟩) hS.2.2 dX8_sight_20
  · have hPc := hP.sub (ws' := [(h0, .inr (8, [.ref (a 1), .ref (a 2), .ref (a 3), .ref (a 4), .ref (a 5), .ref (a 6), .ref (a 7), .ref (a 8), .int (iv 0), .int (iv 1), .int (iv 2), .int (iv 3)])), (a 2, .inl (cM, 10, .inr (.inr (.inr (.inr fM)))))]) [0, 1] rfl
    refine va_csq (va_Run.run (va_runV (As := [.int x1]) (rest := []) ⟨hx, hb, hml, hown, hts⟩ (k_X8_known_n l D cI cJ cZ cM h0 a iv ma n0 fM hn0 hfM h_n x1 hno_1) (cwV 1 hts gX8_sight_X8_known rfl rfl rfl (by decide +kernel) ⟨Nat.le_of_ble_eq_true rfl, Nat.le_of_ble_eq_true rfl⟩) (ro_V hG hPc (va_recv hK hPc (ci := 8) (q0 := 0) rfl rfl)) rfl rfl hl.1 rfl (lv_room (Nat.le_of_ble_eq_true rfl)) dX8_sight_2 ⟨Nat.le_of_ble_eq_true rfl, Nat.le_of_ble_eq_true rfl⟩)) (fun r_1 h_1 => ?_)
    obtain rfl : r_1 = none := h_1
    refine W.eq (g2 := F0 m 5 ls [.null]) rfl ?_
    refine lv_astore_nN (lv' := [(2, .null), (0, .ref h0), (1, .int x1)]) hx hb dX8_sight_5 rfl hl (by decide) rfl (fun ls hl => ?_)
    refine lv_aload_nN hx hb dX8_sight_6 rfl (lv_at hl 0 rfl) ?_
    refine lv_ifnonnullN hx hb dX8_sight_7 ?_
    refine lv_iconst (v := 0) hx hb dX8_sight_10 (by decide) ?_
    have hP9 := hP.part (cx := [(h0, .inr (8, [.ref (a 1), .ref (a 2), .ref (a 3), .ref (a 4), .ref (a 5), .ref (a 6), .ref (a 7), .ref (a 8), .int (iv 0), .int (iv 1), .int (iv 2), .int (iv 3)])), (a 2, .inl (cM, 10, .inr (.inr (.inr (.inr fM)))))]) [0, 1] rfl
    have hD9 := hD.part (cx := [(h0, .inr (8, [.ref (a 1), .ref (a 2), .ref (a 3), .ref (a 4), .ref (a 5), .ref (a 6), .ref (a 7), .ref (a 8), .int (iv 0), .int (iv 1), .int (iv 2), .int (iv 3)])), (a 2, .inl (cM, 10, .inr (.inr (.inr (.inr fM)))))]) [0, 1] (by decide) rfl
    exact W.zret (v := 0) hx hb hr rfl (fun t ht hW => ⟨⟨0, (mv, mso), rfl, ⟨Or.inr ⟨rfl, fun h9 => hno_1 (h9)⟩, keep_0 _⟩, ⟨by rw [ht]; exact hP9, hD9⟩⟩, hS.F ht⟩) hS.2.2 dX8_sight_11
set_option maxHeartbeats 4000000 in
set_option maxRecDepth 100000 in
/-- X8_sounding -/
theorem k_X8_sounding (l : Launch) (D : va_G) (cI cJ cZ cM : Nat) (h0 : Nat) (a : Nat → Nat) (iv : Nat → Int32) (av : Nat → Nat → Int32) (ma : Nat → Nat → Nat) (mv : Nat → Nat → Int32) (mso : Nat → Nat → Int64) (mrs : Nat → Nat → Int32) (n0 : Nat) (fM : Nat → Option Nat) (hn0 : n0 ≤ 10) (hfM : ∀ i, i < 10 → (i < n0 → fM i = some (ma i 0)) ∧ (n0 ≤ i → fM i = none)) (h_n : iv 0 = nI n0) (x1 : Int32) (x2 : Int32) (x3 : Int32) (sz : Nat) : Met l yX8_sounding wsX8_sounding ({ frames := 2, cells := 0, slots := 0, locals := 62 } : Room) (RW D cI cJ cZ cM [.ref h0, .int x1, .int x2, .int x3] ([(h0, .inr (8, [.ref (a 1), .ref (a 2), .ref (a 3), .ref (a 4), .ref (a 5), .ref (a 6), .ref (a 7), .ref (a 8), .int (iv 0), .int (iv 1), .int (iv 2), .int (iv 3)])), (a 2, .inl (cM, 10, .inr (.inr (.inr (.inr fM)))))] ++ MG cI cJ ma mv mso mrs n0) sz) (va_Qi (S := (Nat → Nat → Int32) × (Nat → Nat → Int64)) (fun r u => okI 1 0 (isM n0 x1 ∧ (0 ≤ x2 ∧ x2 ≤ 200) ∧ (x2 ≤ x3 ∧ x3 ≤ 200)) r ∧ keepM 6 9 mv u.1) (BB D (fun u => [(h0, .inr (8, [.ref (a 1), .ref (a 2), .ref (a 3), .ref (a 4), .ref (a 5), .ref (a 6), .ref (a 7), .ref (a 8), .int (iv 0), .int (iv 1), .int (iv 2), .int (iv 3)])), (a 2, .inl (cM, 10, .inr (.inr (.inr (.inr fM)))))] ++ MG cI cJ ma u.1 u.2 mrs n0) (va_A ([(h0, .inr (8, [.ref (a 1), .ref (a 2), .ref (a 3), .ref (a 4), .ref (a 5), .ref (a 6), .ref (a 7), .ref (a 8), .int (iv 0), .int (iv 1), .int (iv 2), .int (iv 3)])), (a 2, .inl (cM, 10, .inr (.inr (.inr (.inr fM)))))] ++ MG cI cJ ma mv mso mrs n0) sz)) (va_A ([(h0, .inr (8, [.ref (a 1), .ref (a 2), .ref (a 3), .ref (a 4), .ref (a 5), .ref (a 6), .ref (a 7), .ref (a 8), .int (iv 0), .int (iv 1), .int (iv 2), .int (iv 3)])), (a 2, .inl (cM, 10, .inr (.inr (.inr (.inr fM)))))] ++ MG cI cJ ma mv mso mrs n0) sz)) 0 0 (va_A ([(h0, .inr (8, [.ref (a 1), .ref (a 2), .ref (a 3), .ref (a 4), .ref (a 5), .ref (a 6), .ref (a 7), .ref (a 8), .int (iv 0), .int (iv 1), .int (iv 2), .int (iv 3)])), (a 2, .inl (cM, 10, .inr (.inr (.inr (.inr fM)))))] ++ MG cI cJ ma mv mso mrs n0) sz) := by
  refine Met.ofW (cc := cX8_sounding) (maxL := 5) (ret := (some .boolean)) (by decide) rfl ?_
  intro p e s m args below meth c s₁ B hml hv
  obtain ⟨rfl, hsz, hG, hP, hD0⟩ := hv
  have hx := B.exec
  have hb := B.bytes
  have hr := B.returns
  have hts := atoms_spec (ws := wsX8_sounding) B.pre
  have hown : s.vm.findClass RX8 = some m.cls := findClass_of_methodNamed B.named
  have hlocks := B.notSynchronized
  have hK := hG.1
  have hN := hG.2
  subst hsz
  have hD := hD0.self (sz := s.heap.size)
  generalize hAe : va_A ([(h0, .inr (8, [.ref (a 1), .ref (a 2), .ref (a 3), .ref (a 4), .ref (a 5), .ref (a 6), .ref (a 7), .ref (a 8), .int (iv 0), .int (iv 1), .int (iv 2), .int (iv 3)])), (a 2, .inl (cM, 10, .inr (.inr (.inr (.inr fM)))))] ++ MG cI cJ ma mv mso mrs n0) s.heap.size = A at hD ⊢
  have hA : ∀ q : Nat, s.heap.size ≤ q → A q := fun q h => by rw [← hAe]; exact Or.inr h
  have hS : va_S A s.heap s.heap [] := va_S.rf
  have hP : va_P D vwCl ([(h0, .inr (8, [.ref (a 1), .ref (a 2), .ref (a 3), .ref (a 4), .ref (a 5), .ref (a 6), .ref (a 7), .ref (a 8), .int (iv 0), .int (iv 1), .int (iv 2), .int (iv 3)])), (a 2, .inl (cM, 10, .inr (.inr (.inr (.inr fM)))))] ++ MG cI cJ ma mv mso mrs n0) s.heap := hP
  have hl := lv_entry ([.ref h0, .int x1, .int x2, .int x3]) (n := 5) (Nat.le_of_ble_eq_true rfl)
  rw [lg_entry_eq]
  generalize (lg_sl ([.ref h0, .int x1, .int x2, .int x3]) ++ List.replicate (5 - (lg_sl ([.ref h0, .int x1, .int x2, .int x3])).length) Slot.unset).toArray = ls at hl ⊢
  have hl : lv_has ls 5 [(0, .ref h0), (1, .int x1), (2, .int x2), (3, .int x3)] := hl
  refine lv_aload_n hx hb dX8_sounding_0 rfl (lv_at hl 0 rfl) ?_
  refine lv_iload_n hx hb dX8_sounding_1 rfl (lv_at hl 1 rfl) ?_
  rcases Classical.em (isM n0 x1) with ⟨m1_, hm1_, rfl⟩ | hno_1
  · have hl : lv_has ls 5 [(0, .ref h0), (1, .int (nI m1_)), (2, .int x2), (3, .int x3)] := hl
    have hPc := hP.sub (ws' := [(h0, .inr (8, [.ref (a 1), .ref (a 2), .ref (a 3), .ref (a 4), .ref (a 5), .ref (a 6), .ref (a 7), .ref (a 8), .int (iv 0), .int (iv 1), .int (iv 2), .int (iv 3)])), (a 2, .inl (cM, 10, .inr (.inr (.inr (.inr fM)))))]) [0, 1] rfl
    refine va_csq (va_Run.run (va_runV (As := [.int (nI m1_)]) (rest := []) ⟨hx, hb, hml, hown, hts⟩ (k_X8_known_y l D cI cJ cZ cM h0 a iv ma n0 fM hn0 hfM h_n m1_ hm1_) (cwV 1 hts gX8_sounding_X8_known rfl rfl rfl (by decide +kernel) ⟨Nat.le_of_ble_eq_true rfl, Nat.le_of_ble_eq_true rfl⟩) (ro_V hG hPc (va_recv hK hPc (ci := 8) (q0 := 0) rfl rfl)) rfl rfl hl.1 rfl (lv_room (Nat.le_of_ble_eq_true rfl)) dX8_sounding_2 ⟨Nat.le_of_ble_eq_true rfl, Nat.le_of_ble_eq_true rfl⟩)) (fun r_1 h_1 => ?_)
    obtain rfl : r_1 = some (ma m1_ 0) := h_1
    refine W.eq (g2 := F0 m 5 ls [.ref (ma m1_ 0)]) rfl ?_
    refine lv_astore (lv' := [(4, .ref (ma m1_ 0)), (0, .ref h0), (1, .int (nI m1_)), (2, .int x2), (3, .int x3)]) hx hb dX8_sounding_5 hl (by decide) rfl (fun ls hl => ?_)
    refine lv_aload hx hb dX8_sounding_7 (lv_at hl 0 rfl) ?_
    refine lv_ifnull hx hb dX8_sounding_9 ?_
    refine lv_iload_n hx hb dX8_sounding_12 rfl (lv_at hl 3 rfl) ?_
    refine lv_iconst (v := 0) hx hb dX8_sounding_13 (by decide) ?_
    refine lv_sipush (v := 200) hx hb dX8_sounding_14 (by decide) ?_
    refine vp_callSi (va_Run.run (va_runS (As := [.int x2, .int 0, .int 200]) (rest := []) ⟨hx, hb, hml, hown, hts⟩ (k_X8_within l x2 0 200) (va_cwS 3 hts gX8_sounding_X8_within rfl rfl rfl (by decide +kernel) ⟨Nat.le_of_ble_eq_true rfl, Nat.le_of_ble_eq_true rfl⟩) preEq rfl rfl hl.1 rfl (lv_room (Nat.le_of_ble_eq_true rfl)) dX8_sounding_17 ⟨Nat.le_of_ble_eq_true rfl, Nat.le_of_ble_eq_true rfl⟩)) (fun r_2 h_2 => ?_)
    rcases h_2 with ⟨rfl, h_2⟩ | ⟨rfl, h_2⟩
    · refine lv_if_eq (tgt := 34) hx hb dX8_sounding_20 (by decide) (fun c_3 => False.elim (by revert c_3; decide)) (fun _ => ?_)
      refine lv_iload_n hx hb dX8_sounding_23 rfl (lv_at hl 4 rfl) ?_
      refine lv_iload_n hx hb dX8_sounding_24 rfl (lv_at hl 3 rfl) ?_
      refine lv_sipush (v := 200) hx hb dX8_sounding_25 (by decide) ?_
      refine vp_callSi (va_Run.run (va_runS (As := [.int x3, .int x2, .int 200]) (rest := []) ⟨hx, hb, hml, hown, hts⟩ (k_X8_within l x3 x2 200) (va_cwS 3 hts gX8_sounding_X8_within rfl rfl rfl (by decide +kernel) ⟨Nat.le_of_ble_eq_true rfl, Nat.le_of_ble_eq_true rfl⟩) preEq rfl rfl hl.1 rfl (lv_room (Nat.le_of_ble_eq_true rfl)) dX8_sounding_28 ⟨Nat.le_of_ble_eq_true rfl, Nat.le_of_ble_eq_true rfl⟩)) (fun r_4 h_4 => ?_)
      rcases h_4 with ⟨rfl, h_4⟩ | ⟨rfl, h_4⟩
      · refine lv_if_ne (tgt := 36) hx hb dX8_sounding_31 (by decide) (fun _ => ?_) (fun c_5 => False.elim (by revert c_5; decide))
        refine lv_aload hx hb dX8_sounding_36 (lv_at hl 0 rfl) ?_
        refine va_getN (D := D) (ci := 1) (v := .ref (ma m1_ 1)) (C := RX1) (T := TX1) (N := 9) hx hb hts (fun _ h9 => List.mem_cons_of_mem _ (List.mem_append_left _ (List.mem_append_left _ (List.mem_append_right _ h9)))) hown hK hP (2 + (6 * m1_ + 0)) (mg_x0 rfl hm1_) rfl 3 (by decide) (va_Nw.use rfl (hN.1 (RX8, 80, "BuoyTender$Mark", "sighting", "LBuoyTender$Sighting;", "BuoyTender") (by decide +kernel))) (fun _ h9 => h9) rfl dX8_sounding_38 ?_
        refine lv_iload_n hx hb dX8_sounding_41 rfl (lv_at hl 3 rfl) ?_
        refine lv_iload_n hx hb dX8_sounding_42 rfl (lv_at hl 4 rfl) ?_
        have hq0 : va_P D vwCl [(ma m1_ 1, .inr (5, [.ref (ma m1_ 2), .int (mv m1_ 6), .int (mv m1_ 7), .int (mv m1_ 8)]))] _ := vaP_1 (k := (2 + (6 * m1_ + 1))) hP (mg_x1 rfl hm1_)
        have hq1 : va_P D vwCl [(ma m1_ 2, .inl (cJ, 40, .inr (.inl (mso m1_))))] _ := vaP_1 (k := (2 + (6 * m1_ + 2))) hP (mg_x2 rfl hm1_)
        have hPc := (va_P.app hq0 hq1)
        have hPc : va_P D vwCl [(ma m1_ 1, .inr (5, [.ref (ma m1_ 2), .int (mv m1_ 6), .int (mv m1_ 7), .int (mv m1_ 8)])), (ma m1_ 2, .inl (cJ, 40, .inr (.inl (mso m1_))))] _ := hPc
        have hmp9 : ([2 + (6 * m1_ + 1), 2 + (6 * m1_ + 2)] : List Nat).map (fun i => (([(h0, .inr (8, [.ref (a 1), .ref (a 2), .ref (a 3), .ref (a 4), .ref (a 5), .ref (a 6), .ref (a 7), .ref (a 8), .int (iv 0), .int (iv 1), .int (iv 2), .int (iv 3)])), (a 2, .inl (cM, 10, .inr (.inr (.inr (.inr fM)))))] : va_W) ++ MG cI cJ ma mv mso mrs n0)[i]?) = ([(ma m1_ 1, .inr (5, [.ref (ma m1_ 2), .int (mv m1_ 6), .int (mv m1_ 7), .int (mv m1_ 8)])), (ma m1_ 2, .inl (cJ, 40, .inr (.inl (mso m1_))))] : va_W).map some := (by simp only [List.map_cons, List.map_nil]; rw [mg_x1 (X := [(h0, .inr (8, [.ref (a 1), .ref (a 2), .ref (a 3), .ref (a 4), .ref (a 5), .ref (a 6), .ref (a 7), .ref (a 8), .int (iv 0), .int (iv 1), .int (iv 2), .int (iv 3)])), (a 2, .inl (cM, 10, .inr (.inr (.inr (.inr fM)))))]) (N := 2) rfl hm1_, mg_x2 (X := [(h0, .inr (8, [.ref (a 1), .ref (a 2), .ref (a 3), .ref (a 4), .ref (a 5), .ref (a 6), .ref (a 7), .ref (a 8), .int (iv 0), .int (iv 1), .int (iv 2), .int (iv 3)])), (a 2, .inl (cM, 10, .inr (.inr (.inr (.inr fM)))))]) (N := 2) rfl hm1_] <;> rfl)
        have hDc := vaD_at hD [2 + (6 * m1_ + 1), 2 + (6 * m1_ + 2)] (by simp <;> omega) hmp9
        have hFc := va_free hD hS hA [2 + (6 * m1_ + 1), 2 + (6 * m1_ + 2)] hmp9
        refine va_callv (va_runVN (As := [.int x2, .int x3]) (rest := []) ⟨hx, hb, hml, hown, hts⟩ (k_X5_tellSounding l D cI cJ cZ cM (ma m1_ 1) (ma m1_ 2) (mv m1_ 6) (mv m1_ 7) (mv m1_ 8) (mso m1_) x2 x3 _) ⟨(va_cnB 2 hts gX8_sounding_X5_tellSounding_n102 rfl rfl rfl (hN.2.1 (RX8, 102, yX5_tellSounding, "BuoyTender") (by decide +kernel)) (hts (.initialized RX5) (by decide +kernel)) (by decide +kernel) ⟨Nat.le_of_ble_eq_true rfl, Nat.le_of_ble_eq_true rfl⟩), hts (.instanceMethod yX5_tellSounding) (by decide +kernel), hts (.selects RX5 yX5_tellSounding yX5_tellSounding) (by decide +kernel)⟩ (rw_V hG hPc hDc (va_recv hK hPc (ci := 5) (q0 := 0) rfl rfl)) rfl rfl hl.1 rfl (lv_room (Nat.le_of_ble_eq_true rfl)) dX8_sounding_43 ⟨Nat.le_of_ble_eq_true rfl, Nat.le_of_ble_eq_true rfl⟩) hS (fun q _ h => hFc q h) hFc (fun u_6 t_6 H1 locs ht hvm hw hB hz1 hk1 hS => ?_)
        obtain ⟨g6_6, g7_6, g8_6, gf_6⟩ := u_6
        obtain ⟨hP1, hD1⟩ := hB
        rw [ht] at hP1
        have hMK : MKc cI cJ ma (mup (mup (mup mv m1_ 6 g6_6) m1_ 7 g7_6) m1_ 8 g8_6) (rup mso m1_ gf_6) mrs m1_ = [(ma m1_ 0, .inr (1, [.int (mv m1_ 0), .int (mv m1_ 1), .int (mv m1_ 2), .ref (ma m1_ 1), .ref (ma m1_ 3), .ref (ma m1_ 4), .int (mv m1_ 3), .int (mv m1_ 4), .int (mv m1_ 5)])), (ma m1_ 1, .inr (5, [.ref (ma m1_ 2), .int g6_6, .int g7_6, .int g8_6])), (ma m1_ 2, .inl (cJ, 40, .inr (.inl gf_6))), (ma m1_ 3, .inr (0, [.int (mv m1_ 9), .int (mv m1_ 10), .int (mv m1_ 11), .int (mv m1_ 12), .int (mv m1_ 13)])), (ma m1_ 4, .inr (3, [.ref (ma m1_ 5), .int (mv m1_ 14)])), (ma m1_ 5, .inl (cI, 8, .inl (mrs m1_)))] := by simp [MKc, mup, rup]
        obtain ⟨hP, hD⟩ := mg_rep (X := [(h0, .inr (8, [.ref (a 1), .ref (a 2), .ref (a 3), .ref (a 4), .ref (a 5), .ref (a 6), .ref (a 7), .ref (a 8), .int (iv 0), .int (iv 1), .int (iv 2), .int (iv 3)])), (a 2, .inl (cM, 10, .inr (.inr (.inr (.inr fM)))))]) (mv' := (mup (mup (mup mv m1_ 6 g6_6) m1_ 7 g7_6) m1_ 8 g8_6)) (mso' := (rup mso m1_ gf_6)) (mrs' := mrs) (wx := []) (wm := [(ma m1_ 1, .inr (5, [.ref (ma m1_ 2), .int (mv m1_ 6), .int (mv m1_ 7), .int (mv m1_ 8)])), (ma m1_ 2, .inl (cJ, 40, .inr (.inl (mso m1_))))]) (w1 := [(ma m1_ 1, .inr (5, [.ref (ma m1_ 2), .int g6_6, .int g7_6, .int g8_6])), (ma m1_ 2, .inl (cJ, 40, .inr (.inl gf_6)))]) hP hD rfl hm1_ [] [1, 2] rfl rfl (by rw [hMK]; rfl) (fun j hj => ⟨fun q => by simp [mup, hj], by simp [rup, hj], by simp [rup, hj]⟩) (fun r hr hn => by rw [hMK]; rcases (show r = 0 ∨ r = 1 ∨ r = 2 ∨ r = 3 ∨ r = 4 ∨ r = 5 by omega) with rfl | rfl | rfl | rfl | rfl | rfl <;> first | rfl | exact absurd (by decide) hn) hk1 hP1
        generalize H1 = H at hP hS ⊢
        have hP : va_P D vwCl ([(h0, .inr (8, [.ref (a 1), .ref (a 2), .ref (a 3), .ref (a 4), .ref (a 5), .ref (a 6), .ref (a 7), .ref (a 8), .int (iv 0), .int (iv 1), .int (iv 2), .int (iv 3)])), (a 2, .inl (cM, 10, .inr (.inr (.inr (.inr fM)))))] ++ MG cI cJ ma (mup (mup (mup mv m1_ 6 g6_6) m1_ 7 g7_6) m1_ 8 g8_6) (rup mso m1_ gf_6) mrs n0) H := hP
        have hD : va_D A ([(h0, .inr (8, [.ref (a 1), .ref (a 2), .ref (a 3), .ref (a 4), .ref (a 5), .ref (a 6), .ref (a 7), .ref (a 8), .int (iv 0), .int (iv 1), .int (iv 2), .int (iv 3)])), (a 2, .inl (cM, 10, .inr (.inr (.inr (.inr fM)))))] ++ MG cI cJ ma (mup (mup (mup mv m1_ 6 g6_6) m1_ 7 g7_6) m1_ 8 g8_6) (rup mso m1_ gf_6) mrs n0) := hD
        refine lv_iconst (v := 1) hx hb dX8_sounding_46 (by decide) ?_
        have hP9 := hP.part (cx := [(h0, .inr (8, [.ref (a 1), .ref (a 2), .ref (a 3), .ref (a 4), .ref (a 5), .ref (a 6), .ref (a 7), .ref (a 8), .int (iv 0), .int (iv 1), .int (iv 2), .int (iv 3)])), (a 2, .inl (cM, 10, .inr (.inr (.inr (.inr fM)))))]) [0, 1] rfl
        have hD9 := hD.part (cx := [(h0, .inr (8, [.ref (a 1), .ref (a 2), .ref (a 3), .ref (a 4), .ref (a 5), .ref (a 6), .ref (a 7), .ref (a 8), .int (iv 0), .int (iv 1), .int (iv 2), .int (iv 3)])), (a 2, .inl (cM, 10, .inr (.inr (.inr (.inr fM)))))]) [0, 1] (by decide) rfl
        exact W.zret (v := 1) hx hb hr rfl (fun t ht hW => ⟨⟨1, (mup (mup (mup mv m1_ 6 g6_6) m1_ 7 g7_6) m1_ 8 g8_6, rup mso m1_ gf_6), rfl, ⟨Or.inl ⟨rfl, ⟨⟨m1_, hm1_, rfl⟩, h_2, h_4⟩⟩, keep_3 _ _ _ _ _⟩, ⟨by rw [ht]; exact hP9, hD9⟩⟩, hS.F ht⟩) hS.2.2 dX8_sounding_47
      refine lv_if_ne (tgt := 36) hx hb dX8_sounding_31 (by decide) (fun c_7 => False.elim (by revert c_7; decide)) (fun _ => ?_)
      refine lv_iconst (v := 0) hx hb dX8_sounding_34 (by decide) ?_
      have hP9 := hP.part (cx := [(h0, .inr (8, [.ref (a 1), .ref (a 2), .ref (a 3), .ref (a 4), .ref (a 5), .ref (a 6), .ref (a 7), .ref (a 8), .int (iv 0), .int (iv 1), .int (iv 2), .int (iv 3)])), (a 2, .inl (cM, 10, .inr (.inr (.inr (.inr fM)))))]) [0, 1] rfl
      have hD9 := hD.part (cx := [(h0, .inr (8, [.ref (a 1), .ref (a 2), .ref (a 3), .ref (a 4), .ref (a 5), .ref (a 6), .ref (a 7), .ref (a 8), .int (iv 0), .int (iv 1), .int (iv 2), .int (iv 3)])), (a 2, .inl (cM, 10, .inr (.inr (.inr (.inr fM)))))]) [0, 1] (by decide) rfl
      exact W.zret (v := 0) hx hb hr rfl (fun t ht hW => ⟨⟨0, (mv, mso), rfl, ⟨Or.inr ⟨rfl, fun h9 => h_4 (h9.2.2)⟩, keep_0 _⟩, ⟨by rw [ht]; exact hP9, hD9⟩⟩, hS.F ht⟩) hS.2.2 dX8_sounding_35
    refine lv_if_eq (tgt := 34) hx hb dX8_sounding_20 (by decide) (fun _ => ?_) (fun c_8 => False.elim (by revert c_8; decide))
    refine lv_iconst (v := 0) hx hb dX8_sounding_34 (by decide) ?_
    have hP9 := hP.part (cx := [(h0, .inr (8, [.ref (a 1), .ref (a 2), .ref (a 3), .ref (a 4), .ref (a 5), .ref (a 6), .ref (a 7), .ref (a 8), .int (iv 0), .int (iv 1), .int (iv 2), .int (iv 3)])), (a 2, .inl (cM, 10, .inr (.inr (.inr (.inr fM)))))]) [0, 1] rfl
    have hD9 := hD.part (cx := [(h0, .inr (8, [.ref (a 1), .ref (a 2), .ref (a 3), .ref (a 4), .ref (a 5), .ref (a 6), .ref (a 7), .ref (a 8), .int (iv 0), .int (iv 1), .int (iv 2), .int (iv 3)])), (a 2, .inl (cM, 10, .inr (.inr (.inr (.inr fM)))))]) [0, 1] (by decide) rfl
    exact W.zret (v := 0) hx hb hr rfl (fun t ht hW => ⟨⟨0, (mv, mso), rfl, ⟨Or.inr ⟨rfl, fun h9 => h_2 (h9.2.1)⟩, keep_0 _⟩, ⟨by rw [ht]; exact hP9, hD9⟩⟩, hS.F ht⟩) hS.2.2 dX8_sounding_35
  · have hPc := hP.sub (ws' := [(h0, .inr (8, [.ref (a 1), .ref (a 2), .ref (a 3), .ref (a 4), .ref (a 5), .ref (a 6), .ref (a 7), .ref (a 8), .int (iv 0), .int (iv 1), .int (iv 2), .int (iv 3)])), (a 2, .inl (cM, 10, .inr (.inr (.inr (.inr fM)))))]) [0, 1] rfl
    refine va_csq (va_Run.run (va_runV (As := [.int x1]) (rest := []) ⟨hx, hb, hml, hown, hts⟩ (k_X8_known_n l D cI cJ cZ cM h0 a iv ma n0 fM hn0 hfM h_n x1 hno_1) (cwV 1 hts gX8_sounding_X8_known rfl rfl rfl (by decide +kernel) ⟨Nat.le_of_ble_eq_true rfl, Nat.le_of_ble_eq_true rfl⟩) (ro_V hG hPc (va_recv hK hPc (ci := 8) (q0 := 0) rfl rfl)) rfl rfl hl.1 rfl (lv_room (Nat.le_of_ble_eq_true rfl)) dX8_sounding_2 ⟨Nat.le_of_ble_eq_true rfl, Nat.le_of_ble_eq_true rfl⟩)) (fun r_1 h_1 => ?_)
    obtain rfl : r_1 = none := h_1
    refine W.eq (g2 := F0 m 5 ls [.null]) rfl ?_
    refine lv_astoreN (lv' := [(4, .null), (0, .ref h0), (1, .int x1), (2, .int x2), (3, .int x3)]) hx hb dX8_sounding_5 hl (by decide) rfl (fun ls hl => ?_)
    refine lv_aloadN hx hb dX8_sounding_7 (lv_at hl 0 rfl) ?_
    refine lv_ifnullN (tgt := 34) hx hb dX8_sounding_9 (by decide) ?_
    refine lv_iconst (v := 0) hx hb dX8_sounding_34 (by decide) ?_
    have hP9 := hP.part (cx := [(h0, .inr (8, [.ref (a 1), .ref (a 2), .ref (a 3), .ref (a 4), .ref (a 5), .ref (a 6), .ref (a 7), .ref (a 8), .int (iv 0), .int (iv 1), .int (iv 2), .int (iv 3)])), (a 2, .inl (cM, 10, .inr (.inr (.inr (.inr fM)))))]) [0, 1] rfl
    have hD9 := hD.part (cx := [(h0, .inr (8, [.ref (a 1), .ref (a 2), .ref (a 3), .ref (a 4), .ref (a 5), .ref (a 6), .ref (a 7), .ref (a 8), .int (iv 0), .int (iv 1), .int (iv 2), .int (iv 3)])), (a 2, .inl (cM, 10, .inr (.inr (.inr (.inr fM)))))]) [0, 1] (by decide) rfl
    exact W.zret (v := 0) hx hb hr rfl (fun t ht hW => ⟨⟨0, (mv, mso), rfl, ⟨Or.inr ⟨rfl, fun h9 => hno_1 (h9.1)⟩, keep_0 _⟩, ⟨by rw [ht]; exact hP9, hD9⟩⟩, hS.F ht⟩) hS.2.2 dX8_sounding_35
set_option maxHeartbeats 4000000 in
set_option maxRecDepth 100000 in
/-- X8_bearing -/
theorem k_X8_bearing (l : Launch) (D : va_G) (cI cJ cZ cM : Nat) (h0 : Nat) (a : Nat → Nat) (iv : Nat → Int32) (av : Nat → Nat → Int32) (ma : Nat → Nat → Nat) (mv : Nat → Nat → Int32) (mso : Nat → Nat → Int64) (mrs : Nat → Nat → Int32) (n0 : Nat) (fM : Nat → Option Nat) (hn0 : n0 ≤ 10) (hfM : ∀ i, i < 10 → (i < n0 → fM i = some (ma i 0)) ∧ (n0 ≤ i → fM i = none)) (h_n : iv 0 = nI n0) (x1 : Int32) (x2 : Int32) (x3 : Int32) (x4 : Int32) (x5 : Int32) (x6 : Int32) (sz : Nat) : Met l yX8_bearing wsX8_bearing ({ frames := 2, cells := 0, slots := 0, locals := 43 } : Room) (RW D cI cJ cZ cM [.ref h0, .int x1, .int x2, .int x3, .int x4, .int x5, .int x6] ([(h0, .inr (8, [.ref (a 1), .ref (a 2), .ref (a 3), .ref (a 4), .ref (a 5), .ref (a 6), .ref (a 7), .ref (a 8), .int (iv 0), .int (iv 1), .int (iv 2), .int (iv 3)])), (a 2, .inl (cM, 10, .inr (.inr (.inr (.inr fM)))))] ++ MG cI cJ ma mv mso mrs n0) sz) (va_Qi (S := (Nat → Nat → Int32) × (Nat → Nat → Int64)) (fun r u => okI 1 0 (isM n0 x1 ∧ isM n0 x2 ∧ ¬ x1 = x2 ∧ wayP x3 x4 ∧ wayP x5 x6) r ∧ keepM 6 9 mv u.1) (BB D (fun u => [(h0, .inr (8, [.ref (a 1), .ref (a 2), .ref (a 3), .ref (a 4), .ref (a 5), .ref (a 6), .ref (a 7), .ref (a 8), .int (iv 0), .int (iv 1), .int (iv 2), .int (iv 3)])), (a 2, .inl (cM, 10, .inr (.inr (.inr (.inr fM)))))] ++ MG cI cJ ma u.1 u.2 mrs n0) (va_A ([(h0, .inr (8, [.ref (a 1), .ref (a 2), .ref (a 3), .ref (a 4), .ref (a 5), .ref (a 6), .ref (a 7), .ref (a 8), .int (iv 0), .int (iv 1), .int (iv 2), .int (iv 3)])), (a 2, .inl (cM, 10, .inr (.inr (.inr (.inr fM)))))] ++ MG cI cJ ma mv mso mrs n0) sz)) (va_A ([(h0, .inr (8, [.ref (a 1), .ref (a 2), .ref (a 3), .ref (a 4), .ref (a 5), .ref (a 6), .ref (a 7), .ref (a 8), .int (iv 0), .int (iv 1), .int (iv 2), .int (iv 3)])), (a 2, .inl (cM, 10, .inr (.inr (.inr (.inr fM)))))] ++ MG cI cJ ma mv mso mrs n0) sz)) 0 0 (va_A ([(h0, .inr (8, [.ref (a 1), .ref (a 2), .ref (a 3), .ref (a 4), .ref (a 5), .ref (a 6), .ref (a 7), .ref (a 8), .int (iv 0), .int (iv 1), .int (iv 2), .int (iv 3)])), (a 2, .inl (cM, 10, .inr (.inr (.inr (.inr fM)))))] ++ MG cI cJ ma mv mso mrs n0) sz) := by
  refine Met.ofW (cc := cX8_bearing) (maxL := 9) (ret := (some .boolean)) (by decide) rfl ?_
  intro p e s m args below meth c s₁ B hml hv
  obtain ⟨rfl, hsz, hG, hP, hD0⟩ := hv
  have hx := B.exec
  have hb := B.bytes
  have hr := B.returns
  have hts := atoms_spec (ws := wsX8_bearing) B.pre
  have hown : s.vm.findClass RX8 = some m.cls := findClass_of_methodNamed B.named
  have hlocks := B.notSynchronized
  have hK := hG.1
  have hN := hG.2
  subst hsz
  have hD := hD0.self (sz := s.heap.size)
  generalize hAe : va_A ([(h0, .inr (8, [.ref (a 1), .ref (a 2), .ref (a 3), .ref (a 4), .ref (a 5), .ref (a 6), .ref (a 7), .ref (a 8), .int (iv 0), .int (iv 1), .int (iv 2), .int (iv 3)])), (a 2, .inl (cM, 10, .inr (.inr (.inr (.inr fM)))))] ++ MG cI cJ ma mv mso mrs n0) s.heap.size = A at hD ⊢
  have hA : ∀ q : Nat, s.heap.size ≤ q → A q := fun q h => by rw [← hAe]; exact Or.inr h
  have hS : va_S A s.heap s.heap [] := va_S.rf
  have hP : va_P D vwCl ([(h0, .inr (8, [.ref (a 1), .ref (a 2), .ref (a 3), .ref (a 4), .ref (a 5), .ref (a 6), .ref (a 7), .ref (a 8), .int (iv 0), .int (iv 1), .int (iv 2), .int (iv 3)])), (a 2, .inl (cM, 10, .inr (.inr (.inr (.inr fM)))))] ++ MG cI cJ ma mv mso mrs n0) s.heap := hP
  have hl := lv_entry ([.ref h0, .int x1, .int x2, .int x3, .int x4, .int x5, .int x6]) (n := 9) (Nat.le_of_ble_eq_true rfl)
  rw [lg_entry_eq]
  generalize (lg_sl ([.ref h0, .int x1, .int x2, .int x3, .int x4, .int x5, .int x6]) ++ List.replicate (9 - (lg_sl ([.ref h0, .int x1, .int x2, .int x3, .int x4, .int x5, .int x6])).length) Slot.unset).toArray = ls at hl ⊢
  have hl : lv_has ls 9 [(0, .ref h0), (1, .int x1), (2, .int x2), (3, .int x3), (4, .int x4), (5, .int x5), (6, .int x6)] := hl
  refine lv_aload_n hx hb dX8_bearing_0 rfl (lv_at hl 0 rfl) ?_
  refine lv_iload_n hx hb dX8_bearing_1 rfl (lv_at hl 1 rfl) ?_
  rcases Classical.em (isM n0 x1) with ⟨m1_, hm1_, rfl⟩ | hno_1
  · have hl : lv_has ls 9 [(0, .ref h0), (1, .int (nI m1_)), (2, .int x2), (3, .int x3), (4, .int x4), (5, .int x5), (6, .int x6)] := hl
    have hPc := hP.sub (ws' := [(h0, .inr (8, [.ref (a 1), .ref (a 2), .ref (a 3), .ref (a 4), .ref (a 5), .ref (a 6), .ref (a 7), .ref (a 8), .int (iv 0), .int (iv 1), .int (iv 2), .int (iv 3)])), (a 2, .inl (cM, 10, .inr (.inr (.inr (.inr fM)))))]) [0, 1] rfl
    refine va_csq (va_Run.run (va_runV (As := [.int (nI m1_)]) (rest := []) ⟨hx, hb, hml, hown, hts⟩ (k_X8_known_y l D cI cJ cZ cM h0 a iv ma n0 fM hn0 hfM h_n m1_ hm1_) (cwV 1 hts gX8_bearing_X8_known rfl rfl rfl (by decide +kernel) ⟨Nat.le_of_ble_eq_true rfl, Nat.le_of_ble_eq_true rfl⟩) (ro_V hG hPc (va_recv hK hPc (ci := 8) (q0 := 0) rfl rfl)) rfl rfl hl.1 rfl (lv_room (Nat.le_of_ble_eq_true rfl)) dX8_bearing_2 ⟨Nat.le_of_ble_eq_true rfl, Nat.le_of_ble_eq_true rfl⟩)) (fun r_1 h_1 => ?_)
    obtain rfl : r_1 = some (ma m1_ 0) := h_1
    refine W.eq (g2 := F0 m 5 ls [.ref (ma m1_ 0)]) rfl ?_
    refine lv_astore (lv' := [(7, .ref (ma m1_ 0)), (0, .ref h0), (1, .int (nI m1_)), (2, .int x2), (3, .int x3), (4, .int x4), (5, .int x5), (6, .int x6)]) hx hb dX8_bearing_5 hl (by decide) rfl (fun ls hl => ?_)
    refine lv_aload_n hx hb dX8_bearing_7 rfl (lv_at hl 1 rfl) ?_
    refine lv_iload_n hx hb dX8_bearing_8 rfl (lv_at hl 3 rfl) ?_
    rcases Classical.em (isM n0 x2) with ⟨m2_, hm2_, rfl⟩ | hno_2
    · have hl : lv_has ls 9 [(7, .ref (ma m1_ 0)), (0, .ref h0), (1, .int (nI m1_)), (2, .int (nI m2_)), (3, .int x3), (4, .int x4), (5, .int x5), (6, .int x6)] := hl
      have hPc := hP.sub (ws' := [(h0, .inr (8, [.ref (a 1), .ref (a 2), .ref (a 3), .ref (a 4), .ref (a 5), .ref (a 6), .ref (a 7), .ref (a 8), .int (iv 0), .int (iv 1), .int (iv 2), .int (iv 3)])), (a 2, .inl (cM, 10, .inr (.inr (.inr (.inr fM)))))]) [0, 1] rfl
      refine va_csq (va_Run.run (va_runV (As := [.int (nI m2_)]) (rest := []) ⟨hx, hb, hml, hown, hts⟩ (k_X8_known_y l D cI cJ cZ cM h0 a iv ma n0 fM hn0 hfM h_n m2_ hm2_) (cwV 1 hts gX8_bearing_X8_known rfl rfl rfl (by decide +kernel) ⟨Nat.le_of_ble_eq_true rfl, Nat.le_of_ble_eq_true rfl⟩) (ro_V hG hPc (va_recv hK hPc (ci := 8) (q0 := 0) rfl rfl)) rfl rfl hl.1 rfl (lv_room (Nat.le_of_ble_eq_true rfl)) dX8_bearing_9 ⟨Nat.le_of_ble_eq_true rfl, Nat.le_of_ble_eq_true rfl⟩)) (fun r_2 h_2 => ?_)
      obtain rfl : r_2 = some (ma m2_ 0) := h_2
      refine W.eq (g2 := F0 m 12 ls [.ref (ma m2_ 0)]) rfl ?_
      refine lv_astore (lv' := [(8, .ref (ma m2_ 0)), (7, .ref (ma m1_ 0)), (0, .ref h0), (1, .int (nI m1_)), (2, .int (nI m2_)), (3, .int x3), (4, .int x4), (5, .int x5), (6, .int x6)]) hx hb dX8_bearing_12 hl (by decide) rfl (fun ls hl => ?_)
      refine lv_aload hx hb dX8_bearing_14 (lv_at hl 1 rfl) ?_
      refine lv_ifnull hx hb dX8_bearing_16 ?_
      refine lv_aload hx hb dX8_bearing_19 (lv_at hl 0 rfl) ?_
      refine lv_ifnull hx hb dX8_bearing_21 ?_
      refine lv_iload_n hx hb dX8_bearing_24 rfl (lv_at hl 3 rfl) ?_
      refine lv_iload_n hx hb dX8_bearing_25 rfl (lv_at hl 4 rfl) ?_
      refine lv_icmp_eq (tgt := 48) hx hb dX8_bearing_26 (by decide) (fun c_3 => ?_) (fun c_3 => ?_)
      · refine lv_iconst (v := 0) hx hb dX8_bearing_48 (by decide) ?_
        have hP9 := hP.part (cx := [(h0, .inr (8, [.ref (a 1), .ref (a 2), .ref (a 3), .ref (a 4), .ref (a 5), .ref (a 6), .ref (a 7), .ref (a 8), .int (iv 0), .int (iv 1), .int (iv 2), .int (iv 3)])), (a 2, .inl (cM, 10, .inr (.inr (.inr (.inr fM)))))]) [0, 1] rfl
        have hD9 := hD.part (cx := [(h0, .inr (8, [.ref (a 1), .ref (a 2), .ref (a 3), .ref (a 4), .ref (a 5), .ref (a 6), .ref (a 7), .ref (a 8), .int (iv 0), .int (iv 1), .int (iv 2), .int (iv 3)])), (a 2, .inl (cM, 10, .inr (.inr (.inr (.inr fM)))))]) [0, 1] (by decide) rfl
        exact W.zret (v := 0) hx hb hr rfl (fun t ht hW => ⟨⟨0, (mv, mso), rfl, ⟨Or.inr ⟨rfl, fun h9 => h9.2.2.1 c_3⟩, keep_0 _⟩, ⟨by rw [ht]; exact hP9, hD9⟩⟩, hS.F ht⟩) hS.2.2 dX8_bearing_49
      refine lv_iload_n hx hb dX8_bearing_29 rfl (lv_at hl 5 rfl) ?_
      refine lv_iload hx hb dX8_bearing_30 (lv_at hl 6 rfl) ?_
      refine vp_callSi (va_Run.run (va_runS (As := [.int x3, .int x4]) (rest := []) ⟨hx, hb, hml, hown, hts⟩ (k_X8_isWay l x3 x4) (va_cwS 2 hts gX8_bearing_X8_isWay rfl rfl rfl (by decide +kernel) ⟨Nat.le_of_ble_eq_true rfl, Nat.le_of_ble_eq_true rfl⟩) preEq rfl rfl hl.1 rfl (lv_room (Nat.le_of_ble_eq_true rfl)) dX8_bearing_32 ⟨Nat.le_of_ble_eq_true rfl, Nat.le_of_ble_eq_true rfl⟩)) (fun r_4 h_4 => ?_)
      rcases h_4 with ⟨rfl, h_4⟩ | ⟨rfl, h_4⟩
      · refine lv_if_eq (tgt := 48) hx hb dX8_bearing_35 (by decide) (fun c_5 => False.elim (by revert c_5; decide)) (fun _ => ?_)
        refine lv_iload hx hb dX8_bearing_38 (lv_at hl 7 rfl) ?_
        refine lv_iload hx hb dX8_bearing_40 (lv_at hl 8 rfl) ?_
        refine vp_callSi (va_Run.run (va_runS (As := [.int x5, .int x6]) (rest := []) ⟨hx, hb, hml, hown, hts⟩ (k_X8_isWay l x5 x6) (va_cwS 2 hts gX8_bearing_X8_isWay rfl rfl rfl (by decide +kernel) ⟨Nat.le_of_ble_eq_true rfl, Nat.le_of_ble_eq_true rfl⟩) preEq rfl rfl hl.1 rfl (lv_room (Nat.le_of_ble_eq_true rfl)) dX8_bearing_42 ⟨Nat.le_of_ble_eq_true rfl, Nat.le_of_ble_eq_true rfl⟩)) (fun r_6 h_6 => ?_)
        rcases h_6 with ⟨rfl, h_6⟩ | ⟨rfl, h_6⟩
        · refine lv_if_ne (tgt := 50) hx hb dX8_bearing_45 (by decide) (fun _ => ?_) (fun c_7 => False.elim (by revert c_7; decide))
          refine lv_aload hx hb dX8_bearing_50 (lv_at hl 1 rfl) ?_
          refine va_getN (D := D) (ci := 1) (v := .ref (ma m1_ 1)) (C := RX1) (T := TX1) (N := 9) hx hb hts (fun _ h9 => List.mem_cons_of_mem _ (List.mem_append_left _ (List.mem_append_left _ (List.mem_append_right _ h9)))) hown hK hP (2 + (6 * m1_ + 0)) (mg_x0 rfl hm1_) rfl 3 (by decide) (va_Nw.use rfl (hN.1 (RX8, 80, "BuoyTender$Mark", "sighting", "LBuoyTender$Sighting;", "BuoyTender") (by decide +kernel))) (fun _ h9 => h9) rfl dX8_bearing_52 ?_
          refine lv_aload hx hb dX8_bearing_55 (lv_at hl 0 rfl) ?_
          refine va_getN (D := D) (ci := 1) (v := .int (mv m2_ 0)) (C := RX1) (T := TX1) (N := 9) hx hb hts (fun _ h9 => List.mem_cons_of_mem _ (List.mem_append_left _ (List.mem_append_left _ (List.mem_append_right _ h9)))) hown hK hP (2 + (6 * m2_ + 0)) (mg_x0 rfl hm2_) rfl 0 (by decide) (va_Nw.use rfl (hN.1 (RX8, 92, "BuoyTender$Mark", "x", "I", "BuoyTender") (by decide +kernel))) (fun _ h9 => h9) rfl dX8_bearing_57 ?_
          refine lv_aload hx hb dX8_bearing_60 (lv_at hl 0 rfl) ?_
          refine va_getN (D := D) (ci := 1) (v := .int (mv m2_ 1)) (C := RX1) (T := TX1) (N := 9) hx hb hts (fun _ h9 => List.mem_cons_of_mem _ (List.mem_append_left _ (List.mem_append_left _ (List.mem_append_right _ h9)))) hown hK hP (2 + (6 * m2_ + 0)) (mg_x0 rfl hm2_) rfl 1 (by decide) (va_Nw.use rfl (hN.1 (RX8, 95, "BuoyTender$Mark", "y", "I", "BuoyTender") (by decide +kernel))) (fun _ h9 => h9) rfl dX8_bearing_62 ?_
          refine lv_iload_n hx hb dX8_bearing_65 rfl (lv_at hl 5 rfl) ?_
          refine lv_iload hx hb dX8_bearing_66 (lv_at hl 6 rfl) ?_
          refine lv_iload hx hb dX8_bearing_68 (lv_at hl 7 rfl) ?_
          refine lv_iload hx hb dX8_bearing_70 (lv_at hl 8 rfl) ?_
          have hq0 : va_P D vwCl [(ma m1_ 1, .inr (5, [.ref (ma m1_ 2), .int (mv m1_ 6), .int (mv m1_ 7), .int (mv m1_ 8)]))] _ := vaP_1 (k := (2 + (6 * m1_ + 1))) hP (mg_x1 rfl hm1_)
          have hq1 : va_P D vwCl [(ma m1_ 2, .inl (cJ, 40, .inr (.inl (mso m1_))))] _ := vaP_1 (k := (2 + (6 * m1_ + 2))) hP (mg_x2 rfl hm1_)
          have hPc := (va_P.app hq0 hq1)
          have hPc : va_P D vwCl [(ma m1_ 1, .inr (5, [.ref (ma m1_ 2), .int (mv m1_ 6), .int (mv m1_ 7), .int (mv m1_ 8)])), (ma m1_ 2, .inl (cJ, 40, .inr (.inl (mso m1_))))] _ := hPc
          have hmp9 : ([2 + (6 * m1_ + 1), 2 + (6 * m1_ + 2)] : List Nat).map (fun i => (([(h0, .inr (8, [.ref (a 1), .ref (a 2), .ref (a 3), .ref (a 4), .ref (a 5), .ref (a 6), .ref (a 7), .ref (a 8), .int (iv 0), .int (iv 1), .int (iv 2), .int (iv 3)])), (a 2, .inl (cM, 10, .inr (.inr (.inr (.inr fM)))))] : va_W) ++ MG cI cJ ma mv mso mrs n0)[i]?) = ([(ma m1_ 1, .inr (5, [.ref (ma m1_ 2), .int (mv m1_ 6), .int (mv m1_ 7), .int (mv m1_ 8)])), (ma m1_ 2, .inl (cJ, 40, .inr (.inl (mso m1_))))] : va_W).map some := (by simp only [List.map_cons, List.map_nil]; rw [mg_x1 (X := [(h0, .inr (8, [.ref (a 1), .ref (a 2), .ref (a 3), .ref (a 4), .ref (a 5), .ref (a 6), .ref (a 7), .ref (a 8), .int (iv 0), .int (iv 1), .int (iv 2), .int (iv 3)])), (a 2, .inl (cM, 10, .inr (.inr (.inr (.inr fM)))))]) (N := 2) rfl hm1_, mg_x2 (X := [(h0, .inr (8, [.ref (a 1), .ref (a 2), .ref (a 3), .ref (a 4), .ref (a 5), .ref (a 6), .ref (a 7), .ref (a 8), .int (iv 0), .int (iv 1), .int (iv 2), .int (iv 3)])), (a 2, .inl (cM, 10, .inr (.inr (.inr (.inr fM)))))]) (N := 2) rfl hm1_] <;> rfl)
          have hDc := vaD_at hD [2 + (6 * m1_ + 1), 2 + (6 * m1_ + 2)] (by simp <;> omega) hmp9
          have hFc := va_free hD hS hA [2 + (6 * m1_ + 1), 2 + (6 * m1_ + 2)] hmp9
          refine va_callv (va_runVN (As := [.int (mv m2_ 0), .int (mv m2_ 1), .int x3, .int x4, .int x5, .int x6]) (rest := []) ⟨hx, hb, hml, hown, hts⟩ (k_X5_tellBearing l D cI cJ cZ cM (ma m1_ 1) (ma m1_ 2) (mv m1_ 6) (mv m1_ 7) (mv m1_ 8) (mso m1_) (mv m2_ 0) (mv m2_ 1) x3 x4 x5 x6 _) ⟨(va_cnB 6 hts gX8_bearing_X5_tellBearing_n98 rfl rfl rfl (hN.2.1 (RX8, 98, yX5_tellBearing, "BuoyTender") (by decide +kernel)) (hts (.initialized RX5) (by decide +kernel)) (by decide +kernel) ⟨Nat.le_of_ble_eq_true rfl, Nat.le_of_ble_eq_true rfl⟩), hts (.instanceMethod yX5_tellBearing) (by decide +kernel), hts (.selects RX5 yX5_tellBearing yX5_tellBearing) (by decide +kernel)⟩ (rw_V hG hPc hDc (va_recv hK hPc (ci := 5) (q0 := 0) rfl rfl)) rfl rfl hl.1 rfl (lv_room (Nat.le_of_ble_eq_true rfl)) dX8_bearing_72 ⟨Nat.le_of_ble_eq_true rfl, Nat.le_of_ble_eq_true rfl⟩) hS (fun q _ h => hFc q h) hFc (fun u_8 t_8 H1 locs ht hvm hw hB hz1 hk1 hS => ?_)
          obtain ⟨g6_8, g7_8, g8_8, gf_8⟩ := u_8
          obtain ⟨hP1, hD1⟩ := hB
          rw [ht] at hP1
          have hMK : MKc cI cJ ma (mup (mup (mup mv m1_ 6 g6_8) m1_ 7 g7_8) m1_ 8 g8_8) (rup mso m1_ gf_8) mrs m1_ = [(ma m1_ 0, .inr (1, [.int (mv m1_ 0), .int (mv m1_ 1), .int (mv m1_ 2), .ref (ma m1_ 1), .ref (ma m1_ 3), .ref (ma m1_ 4), .int (mv m1_ 3), .int (mv m1_ 4), .int (mv m1_ 5)])), (ma m1_ 1, .inr (5, [.ref (ma m1_ 2), .int g6_8, .int g7_8, .int g8_8])), (ma m1_ 2, .inl (cJ, 40, .inr (.inl gf_8))), (ma m1_ 3, .inr (0, [.int (mv m1_ 9), .int (mv m1_ 10), .int (mv m1_ 11), .int (mv m1_ 12), .int (mv m1_ 13)])), (ma m1_ 4, .inr (3, [.ref (ma m1_ 5), .int (mv m1_ 14)])), (ma m1_ 5, .inl (cI, 8, .inl (mrs m1_)))] := by simp [MKc, mup, rup]
          obtain ⟨hP, hD⟩ := mg_rep (X := [(h0, .inr (8, [.ref (a 1), .ref (a 2), .ref (a 3), .ref (a 4), .ref (a 5), .ref (a 6), .ref (a 7), .ref (a 8), .int (iv 0), .int (iv 1), .int (iv 2), .int (iv 3)])), (a 2, .inl (cM, 10, .inr (.inr (.inr (.inr fM)))))]) (mv' := (mup (mup (mup mv m1_ 6 g6_8) m1_ 7 g7_8) m1_ 8 g8_8)) (mso' := (rup mso m1_ gf_8)) (mrs' := mrs) (wx := []) (wm := [(ma m1_ 1, .inr (5, [.ref (ma m1_ 2), .int (mv m1_ 6), .int (mv m1_ 7), .int (mv m1_ 8)])), (ma m1_ 2, .inl (cJ, 40, .inr (.inl (mso m1_))))]) (w1 := [(ma m1_ 1, .inr (5, [.ref (ma m1_ 2), .int g6_8, .int g7_8, .int g8_8])), (ma m1_ 2, .inl (cJ, 40, .inr (.inl gf_8)))]) hP hD rfl hm1_ [] [1, 2] rfl rfl (by rw [hMK]; rfl) (fun j hj => ⟨fun q => by simp [mup, hj], by simp [rup, hj], by simp [rup, hj]⟩) (fun r hr hn => by rw [hMK]; rcases (show r = 0 ∨ r = 1 ∨ r = 2 ∨ r = 3 ∨ r = 4 ∨ r = 5 by omega) with rfl | rfl | rfl | rfl | rfl | rfl <;> first | rfl | exact absurd (by decide) hn) hk1 hP1
          generalize H1 = H at hP hS ⊢
          have hP : va_P D vwCl ([(h0, .inr (8, [.ref (a 1), .ref (a 2), .ref (a 3), .ref (a 4), .ref (a 5), .ref (a 6), .ref (a 7), .ref (a 8), .int (iv 0), .int (iv 1), .int (iv 2), .int (iv 3)])), (a 2, .inl (cM, 10, .inr (.inr (.inr (.inr fM)))))] ++ MG cI cJ ma (mup (mup (mup mv m1_ 6 g6_8) m1_ 7 g7_8) m1_ 8 g8_8) (rup mso m1_ gf_8) mrs n0) H := hP
          have hD : va_D A ([(h0, .inr (8, [.ref (a 1), .ref (a 2), .ref (a 3), .ref (a 4), .ref (a 5), .ref (a 6), .ref (a 7), .ref (a 8), .int (iv 0), .int (iv 1), .int (iv 2), .int (iv 3)])), (a 2, .inl (cM, 10, .inr (.inr (.inr (.inr fM)))))] ++ MG cI cJ ma (mup (mup (mup mv m1_ 6 g6_8) m1_ 7 g7_8) m1_ 8 g8_8) (rup mso m1_ gf_8) mrs n0) := hD
          refine lv_iconst (v := 1) hx hb dX8_bearing_75 (by decide) ?_
          have hP9 := hP.part (cx := [(h0, .inr (8, [.ref (a 1), .ref (a 2), .ref (a 3), .ref (a 4), .ref (a 5), .ref (a 6), .ref (a 7), .ref (a 8), .int (iv 0), .int (iv 1), .int (iv 2), .int (iv 3)])), (a 2, .inl (cM, 10, .inr (.inr (.inr (.inr fM)))))]) [0, 1] rfl
          have hD9 := hD.part (cx := [(h0, .inr (8, [.ref (a 1), .ref (a 2), .ref (a 3), .ref (a 4), .ref (a 5), .ref (a 6), .ref (a 7), .ref (a 8), .int (iv 0), .int (iv 1), .int (iv 2), .int (iv 3)])), (a 2, .inl (cM, 10, .inr (.inr (.inr (.inr fM)))))]) [0, 1] (by decide) rfl
          exact W.zret (v := 1) hx hb hr rfl (fun t ht hW => ⟨⟨1, (mup (mup (mup mv m1_ 6 g6_8) m1_ 7 g7_8) m1_ 8 g8_8, rup mso m1_ gf_8), rfl, ⟨Or.inl ⟨rfl, ⟨⟨m1_, hm1_, rfl⟩, ⟨m2_, hm2_, rfl⟩, c_3, h_4, h_6⟩⟩, keep_3 _ _ _ _ _⟩, ⟨by rw [ht]; exact hP9, hD9⟩⟩, hS.F ht⟩) hS.2.2 dX8_bearing_76
        refine lv_if_ne (tgt := 50) hx hb dX8_bearing_45 (by decide) (fun c_9 => False.elim (by revert c_9; decide)) (fun _ => ?_)
        refine lv_iconst (v := 0) hx hb dX8_bearing_48 (by decide) ?_
        have hP9 := hP.part (cx := [(h0, .inr (8, [.ref (a 1), .ref (a 2), .ref (a 3), .ref (a 4), .ref (a 5), .ref (a 6), .ref (a 7), .ref (a 8), .int (iv 0), .int (iv 1), .int (iv 2), .int (iv 3)])), (a 2, .inl (cM, 10, .inr (.inr (.inr (.inr fM)))))]) [0, 1] rfl
        have hD9 := hD.part (cx := [(h0, .inr (8, [.ref (a 1), .ref (a 2), .ref (a 3), .ref (a 4), .ref (a 5), .ref (a 6), .ref (a 7), .ref (a 8), .int (iv 0), .int (iv 1), .int (iv 2), .int (iv 3)])), (a 2, .inl (cM, 10, .inr (.inr (.inr (.inr fM)))))]) [0, 1] (by decide) rfl
        exact W.zret (v := 0) hx hb hr rfl (fun t ht hW => ⟨⟨0, (mv, mso), rfl, ⟨Or.inr ⟨rfl, fun h9 => h_6 (h9.2.2.2.2)⟩, keep_0 _⟩, ⟨by rw [ht]; exact hP9, hD9⟩⟩, hS.F ht⟩) hS.2.2 dX8_bearing_49
      refine lv_if_eq (tgt := 48) hx hb dX8_bearing_35 (by decide) (fun _ => ?_) (fun c_10 => False.elim (by revert c_10; decide))
      refine lv_iconst (v := 0) hx hb dX8_bearing_48 (by decide) ?_
      have hP9 := hP.part (cx := [(h0, .inr (8, [.ref (a 1), .ref (a 2), .ref (a 3), .ref (a 4), .ref (a 5), .ref (a 6), .ref (a 7), .ref (a 8), .int (iv 0), .int (iv 1), .int (iv 2), .int (iv 3)])), (a 2, .inl (cM, 10, .inr (.inr (.inr (.inr fM)))))]) [0, 1] rfl
      have hD9 := hD.part (cx := [(h0, .inr (8, [.ref (a 1), .ref (a 2), .ref (a 3), .ref (a 4), .ref (a 5), .ref (a 6), .ref (a 7), .ref (a 8), .int (iv 0), .int (iv 1), .int (iv 2), .int (iv 3)])), (a 2, .inl (cM, 10, .inr (.inr (.inr (.inr fM)))))]) [0, 1] (by decide) rfl
      exact W.zret (v := 0) hx hb hr rfl (fun t ht hW => ⟨⟨0, (mv, mso), rfl, ⟨Or.inr ⟨rfl, fun h9 => h_4 (h9.2.2.2.1)⟩, keep_0 _⟩, ⟨by rw [ht]; exact hP9, hD9⟩⟩, hS.F ht⟩) hS.2.2 dX8_bearing_49
    · have hPc := hP.sub (ws' := [(h0, .inr (8, [.ref (a 1), .ref (a 2), .ref (a 3), .ref (a 4), .ref (a 5), .ref (a 6), .ref (a 7), .ref (a 8), .int (iv 0), .int (iv 1), .int (iv 2), .int (iv 3)])), (a 2, .inl (cM, 10, .inr (.inr (.inr (.inr fM)))))]) [0, 1] rfl
      refine va_csq (va_Run.run (va_runV (As := [.int x2]) (rest := []) ⟨hx, hb, hml, hown, hts⟩ (k_X8_known_n l D cI cJ cZ cM h0 a iv ma n0 fM hn0 hfM h_n x2 hno_2) (cwV 1 hts gX8_bearing_X8_known rfl rfl rfl (by decide +kernel) ⟨Nat.le_of_ble_eq_true rfl, Nat.le_of_ble_eq_true rfl⟩) (ro_V hG hPc (va_recv hK hPc (ci := 8) (q0 := 0) rfl rfl)) rfl rfl hl.1 rfl (lv_room (Nat.le_of_ble_eq_true rfl)) dX8_bearing_9 ⟨Nat.le_of_ble_eq_true rfl, Nat.le_of_ble_eq_true rfl⟩)) (fun r_2 h_2 => ?_)
      obtain rfl : r_2 = none := h_2
      refine W.eq (g2 := F0 m 12 ls [.null]) rfl ?_
      refine lv_astoreN (lv' := [(8, .null), (7, .ref (ma m1_ 0)), (0, .ref h0), (1, .int (nI m1_)), (2, .int x2), (3, .int x3), (4, .int x4), (5, .int x5), (6, .int x6)]) hx hb dX8_bearing_12 hl (by decide) rfl (fun ls hl => ?_)
      refine lv_aload hx hb dX8_bearing_14 (lv_at hl 1 rfl) ?_
      refine lv_ifnull hx hb dX8_bearing_16 ?_
      refine lv_aloadN hx hb dX8_bearing_19 (lv_at hl 0 rfl) ?_
      refine lv_ifnullN (tgt := 48) hx hb dX8_bearing_21 (by decide) ?_
      refine lv_iconst (v := 0) hx hb dX8_bearing_48 (by decide) ?_
      have hP9 := hP.part (cx := [(h0, .inr (8, [.ref (a 1), .ref (a 2), .ref (a 3), .ref (a 4), .ref (a 5), .ref (a 6), .ref (a 7), .ref (a 8), .int (iv 0), .int (iv 1), .int (iv 2), .int (iv 3)])), (a 2, .inl (cM, 10, .inr (.inr (.inr (.inr fM)))))]) [0, 1] rfl
      have hD9 := hD.part (cx := [(h0, .inr (8, [.ref (a 1), .ref (a 2), .ref (a 3), .ref (a 4), .ref (a 5), .ref (a 6), .ref (a 7), .ref (a 8), .int (iv 0), .int (iv 1), .int (iv 2), .int (iv 3)])), (a 2, .inl (cM, 10, .inr (.inr (.inr (.inr fM)))))]) [0, 1] (by decide) rfl
      exact W.zret (v := 0) hx hb hr rfl (fun t ht hW => ⟨⟨0, (mv, mso), rfl, ⟨Or.inr ⟨rfl, fun h9 => hno_2 (h9.2.1)⟩, keep_0 _⟩, ⟨by rw [ht]; exact hP9, hD9⟩⟩, hS.F ht⟩) hS.2.2 dX8_bearing_49
  · have hPc := hP.sub (ws' := [(h0, .inr (8, [.ref (a 1), .ref (a 2), .ref (a 3), .ref (a 4), .ref (a 5), .ref (a 6), .ref (a 7), .ref (a 8), .int (iv 0), .int (iv 1), .int (iv 2), .int (iv 3)])), (a 2, .inl (cM, 10, .inr (.inr (.inr (.inr fM)))))]) [0, 1] rfl
    refine va_csq (va_Run.run (va_runV (As := [.int x1]) (rest := []) ⟨hx, hb, hml, hown, hts⟩ (k_X8_known_n l D cI cJ cZ cM h0 a iv ma n0 fM hn0 hfM h_n x1 hno_1) (cwV 1 hts gX8_bearing_X8_known rfl rfl rfl (by decide +kernel) ⟨Nat.le_of_ble_eq_true rfl, Nat.le_of_ble_eq_true rfl⟩) (ro_V hG hPc (va_recv hK hPc (ci := 8) (q0 := 0) rfl rfl)) rfl rfl hl.1 rfl (lv_room (Nat.le_of_ble_eq_true rfl)) dX8_bearing_2 ⟨Nat.le_of_ble_eq_true rfl, Nat.le_of_ble_eq_true rfl⟩)) (fun r_1 h_1 => ?_)
    obtain rfl : r_1 = none := h_1
    refine W.eq (g2 := F0 m 5 ls [.null]) rfl ?_
    refine lv_astoreN (lv' := [(7, .null), (0, .ref h0), (1, .int x1), (2, .int x2), (3, .int x3), (4, .int x4), (5, .int x5), (6, .int x6)]) hx hb dX8_bearing_5 hl (by decide) rfl (fun ls hl => ?_)
    refine lv_aload_n hx hb dX8_bearing_7 rfl (lv_at hl 1 rfl) ?_
    refine lv_iload_n hx hb dX8_bearing_8 rfl (lv_at hl 3 rfl) ?_
    rcases Classical.em (isM n0 x2) with ⟨m11_, hm11_, rfl⟩ | hno_11
    · have hl : lv_has ls 9 [(7, .null), (0, .ref h0), (1, .int x1), (2, .int (nI m11_)), (3, .int x3), (4, .int x4), (5, .int x5), (6, .int x6)] := hl
      have hPc := hP.sub (ws' := [(h0, .inr (8, [.ref (a 1), .ref (a 2), .ref (a 3), .ref (a 4), .ref (a 5), .ref (a 6), .ref (a 7), .ref (a 8), .int (iv 0), .int (iv 1), .int (iv 2), .int (iv 3)])), (a 2, .inl (cM, 10, .inr (.inr (.inr (.inr fM)))))]) [0, 1] rfl
      refine va_csq (va_Run.run (va_runV (As := [.int (nI m11_)]) (rest := []) ⟨hx, hb, hml, hown, hts⟩ (k_X8_known_y l D cI cJ cZ cM h0 a iv ma n0 fM hn0 hfM h_n m11_ hm11_) (cwV 1 hts gX8_bearing_X8_known rfl rfl rfl (by decide +kernel) ⟨Nat.le_of_ble_eq_true rfl, Nat.le_of_ble_eq_true rfl⟩) (ro_V hG hPc (va_recv hK hPc (ci := 8) (q0 := 0) rfl rfl)) rfl rfl hl.1 rfl (lv_room (Nat.le_of_ble_eq_true rfl)) dX8_bearing_9 ⟨Nat.le_of_ble_eq_true rfl, Nat.le_of_ble_eq_true rfl⟩)) (fun r_11 h_11 => ?_)
      obtain rfl : r_11 = some (ma m11_ 0) := h_11
      refine W.eq (g2 := F0 m 12 ls [.ref (ma m11_ 0)]) rfl ?_
      refine lv_astore (lv' := [(8, .ref (ma m11_ 0)), (7, .null), (0, .ref h0), (1, .int x1), (2, .int (nI m11_)), (3, .int x3), (4, .int x4), (5, .int x5), (6, .int x6)]) hx hb dX8_bearing_12 hl (by decide) rfl (fun ls hl => ?_)
      refine lv_aloadN hx hb dX8_bearing_14 (lv_at hl 1 rfl) ?_
      refine lv_ifnullN (tgt := 48) hx hb dX8_bearing_16 (by decide) ?_
      refine lv_iconst (v := 0) hx hb dX8_bearing_48 (by decide) ?_
      have hP9 := hP.part (cx := [(h0, .inr (8, [.ref (a 1), .ref (a 2), .ref (a 3), .ref (a 4), .ref (a 5), .ref (a 6), .ref (a 7), .ref (a 8), .int (iv 0), .int (iv 1), .int (iv 2), .int (iv 3)])), (a 2, .inl (cM, 10, .inr (.inr (.inr (.inr fM)))))]) [0, 1] rfl
      have hD9 := hD.part (cx := [(h0, .inr (8, [.ref (a 1), .ref (a 2), .ref (a 3), .ref (a 4), .ref (a 5), .ref (a 6), .ref (a 7), .ref (a 8), .int (iv 0), .int (iv 1), .int (iv 2), .int (iv 3)])), (a 2, .inl (cM, 10, .inr (.inr (.inr (.inr fM)))))]) [0, 1] (by decide) rfl
      exact W.zret (v := 0) hx hb hr rfl (fun t ht hW => ⟨⟨0, (mv, mso), rfl, ⟨Or.inr ⟨rfl, fun h9 => hno_1 (h9.1)⟩, keep_0 _⟩, ⟨by rw [ht]; exact hP9, hD9⟩⟩, hS.F ht⟩) hS.2.2 dX8_bearing_49
    · have hPc := hP.sub (ws' := [(h0, .inr (8, [.ref (a 1), .ref (a 2), .ref (a 3), .ref (a 4), .ref (a 5), .ref (a 6), .ref (a 7), .ref (a 8), .int (iv 0), .int (iv 1), .int (iv 2), .int (iv 3)])), (a 2, .inl (cM, 10, .inr (.inr (.inr (.inr fM)))))]) [0, 1] rfl
      refine va_csq (va_Run.run (va_runV (As := [.int x2]) (rest := []) ⟨hx, hb, hml, hown, hts⟩ (k_X8_known_n l D cI cJ cZ cM h0 a iv ma n0 fM hn0 hfM h_n x2 hno_11) (cwV 1 hts gX8_bearing_X8_known rfl rfl rfl (by decide +kernel) ⟨Nat.le_of_ble_eq_true rfl, Nat.le_of_ble_eq_true rfl⟩) (ro_V hG hPc (va_recv hK hPc (ci := 8) (q0 := 0) rfl rfl)) rfl rfl hl.1 rfl (lv_room (Nat.le_of_ble_eq_true rfl)) dX8_bearing_9 ⟨Nat.le_of_ble_eq_true rfl, Nat.le_of_ble_eq_true rfl⟩)) (fun r_11 h_11 => ?_)
      obtain rfl : r_11 = none := h_11
      refine W.eq (g2 := F0 m 12 ls [.null]) rfl ?_
      refine lv_astoreN (lv' := [(8, .null), (7, .null), (0, .ref h0), (1, .int x1), (2, .int x2), (3, .int x3), (4, .int x4), (5, .int x5), (6, .int x6)]) hx hb dX8_bearing_12 hl (by decide) rfl (fun ls hl => ?_)
      refine lv_aloadN hx hb dX8_bearing_14 (lv_at hl 1 rfl) ?_
      refine lv_ifnullN (tgt := 48) hx hb dX8_bearing_16 (by decide) ?_
      refine lv_iconst (v := 0) hx hb dX8_bearing_48 (by decide) ?_
      have hP9 := hP.part (cx := [(h0, .inr (8, [.ref (a 1), .ref (a 2), .ref (a 3), .ref (a 4), .ref (a 5), .ref (a 6), .ref (a 7), .ref (a 8), .int (iv 0), .int (iv 1), .int (iv 2), .int (iv 3)])), (a 2, .inl (cM, 10, .inr (.inr (.inr (.inr fM)))))]) [0, 1] rfl
      have hD9 := hD.part (cx := [(h0, .inr (8, [.ref (a 1), .ref (a 2), .ref (a 3), .ref (a 4), .ref (a 5), .ref (a 6), .ref (a 7), .ref (a 8), .int (iv 0), .int (iv 1), .int (iv 2), .int (iv 3)])), (a 2, .inl (cM, 10, .inr (.inr (.inr (.inr fM)))))]) [0, 1] (by decide) rfl
      exact W.zret (v := 0) hx hb hr rfl (fun t ht hW => ⟨⟨0, (mv, mso), rfl, ⟨Or.inr ⟨rfl, fun h9 => hno_1 (h9.1)⟩, keep_0 _⟩, ⟨by rw [ht]; exact hP9, hD9⟩⟩, hS.F ht⟩) hS.2.2 dX8_bearing_49
