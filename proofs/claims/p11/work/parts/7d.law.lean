set_option maxHeartbeats 4000000 in
set_option maxRecDepth 100000 in
/-- the call of bearing -/
theorem law_3 {p : Program} {l : Launch} {e : Env} {s : State} {m : MethodId} {below : List Frame} {meth : Method} {c : Code} {b L : Nat} {xs : Nat → Int32} {D : va_G} {cI cJ cZ cM : Nat} {A : Nat → Prop} {h0 h1 : Nat} {a n : Nat → Nat} {n0 : Nat} {ma : Nat → Nat → Nat} {fM : Nat → Option Nat} {mv : Nat → Nat → Int32} {mso : Nat → Nat → Int64} {mrs : Nat → Nat → Int32} {iv : Nat → Int32} {av : Nat → Nat → Int32} {mi : Nat → Int32} {mq : Nat → Int32} {mav : Nat → Nat → Int32} (C0 : lw_At p s m meth c b L xs) (hL : L ≤ 3584) (hG : GK D cI cJ cZ cM s) (hA : ∀ q : Nat, s.heap.size ≤ q → A q) (hA2 : ∀ q : Nat, A q → s.heap.size ≤ q) {cells slots i : Nat} {ys : Nat → Int32} (hi : i + 7 ≤ L) (hc1 : cells ≤ 590000) (hs1 : slots ≤ 7200000) (hys : ∀ k, k < 7 → xs (nI (i + k)).toNatClampNeg = ys k) (hI : (INV n0 ma fM mv iv av mi mq mav ∧ IX n0 mv mrs iv av mi mav)) {H : Heap} {locs : List Loc} {ls : Array Slot} (hP : va_P D vwCl (LW cI cJ cZ cM h0 h1 a n n0 ma fM mv mso mrs iv av mi mq mav) H) (hD : va_D A (LW cI cJ cZ cM h0 h1 a n n0 ma fM mv mso mrs iv av mi mq mav)) (hS : va_S A s.heap H locs) (hl : lv_has ls 4 [(3, .int (nI i)), (2, .ref h1), (1, .ref h0), (0, .ref b)]) (kk : LKK p l e s m below meth c b D cI cJ cZ cM A h0 h1 a n i (cells + 6) (slots + 68)) : W p l e room_1 s m #[Value.ref b] below meth c H locs cells slots (lw_Z below #[Value.ref b] s) (F0 m 273 ls []) := by
  obtain ⟨hx, hb, hr, hml, hown, hts0, hX, hbl, hlocks, hgv⟩ := id C0
  have hts := fun w h => hts0 w (wsL_law_in w h)
  have hbA : ¬ A b := fun h => Nat.not_le.mpr hbl (hA2 _ h)
  have hK := hG.1
  have hN := hG.2
  obtain ⟨⟨hIA, hIB, hIC, hord, hIE, hIH, hIG⟩, hX2, hXS, hXR, hXJ, hXK⟩ := id hI
  obtain ⟨hn0, hfM, hn8, hn9⟩ := id hIA
  obtain ⟨T, hT, hT8, hT9⟩ := id hIB
  obtain ⟨wc, hwc, hw8, hw9, hwr⟩ := id hIC
  obtain ⟨hsi, hrm, b9, hb9, e19⟩ := id hIE
  obtain ⟨hch, hgr, hst⟩ := id hIH
  unfold LW at hP hD
  refine lv_aload_n hx hb dL_law_273 rfl (lv_at hl 2 rfl) ?_
  refine lv_aload_n hx hb dL_law_274 rfl (lv_at hl 3 rfl) ?_
  refine lv_iload_n hx hb dL_law_275 rfl (lv_at hl 0 rfl) ?_
  refine lv_iconst (v := 1) hx hb dL_law_276 (by decide) ?_
  refine lv_iadd hx hb dL_law_277 ?_
  refine lv_topi (fun z_1 ez_1 => ?_)
  obtain rfl : z_1 = nI (i + 1) := ez_1.trans (nI_add i 1)
  refine va_sld hx hb hX hbl hbA hS (vp_in_nI (by omega) (by omega)) dL_law_278 ?_
  refine lv_topi (fun z_2 ez_2 => ?_)
  obtain rfl : z_2 = ys 1 := ez_2.trans (hys 1 (by decide))
  refine lv_aload_n hx hb dL_law_279 rfl (lv_at hl 3 rfl) ?_
  refine lv_iload_n hx hb dL_law_280 rfl (lv_at hl 0 rfl) ?_
  refine lv_iconst (v := 2) hx hb dL_law_281 (by decide) ?_
  refine lv_iadd hx hb dL_law_282 ?_
  refine lv_topi (fun z_3 ez_3 => ?_)
  obtain rfl : z_3 = nI (i + 2) := ez_3.trans (nI_add i 2)
  refine va_sld hx hb hX hbl hbA hS (vp_in_nI (by omega) (by omega)) dL_law_283 ?_
  refine lv_topi (fun z_4 ez_4 => ?_)
  obtain rfl : z_4 = ys 2 := ez_4.trans (hys 2 (by decide))
  refine lv_aload_n hx hb dL_law_284 rfl (lv_at hl 3 rfl) ?_
  refine lv_iload_n hx hb dL_law_285 rfl (lv_at hl 0 rfl) ?_
  refine lv_iconst (v := 3) hx hb dL_law_286 (by decide) ?_
  refine lv_iadd hx hb dL_law_287 ?_
  refine lv_topi (fun z_5 ez_5 => ?_)
  obtain rfl : z_5 = nI (i + 3) := ez_5.trans (nI_add i 3)
  refine va_sld hx hb hX hbl hbA hS (vp_in_nI (by omega) (by omega)) dL_law_288 ?_
  refine lv_topi (fun z_6 ez_6 => ?_)
  obtain rfl : z_6 = ys 3 := ez_6.trans (hys 3 (by decide))
  refine lv_aload_n hx hb dL_law_289 rfl (lv_at hl 3 rfl) ?_
  refine lv_iload_n hx hb dL_law_290 rfl (lv_at hl 0 rfl) ?_
  refine lv_iconst (v := 4) hx hb dL_law_291 (by decide) ?_
  refine lv_iadd hx hb dL_law_292 ?_
  refine lv_topi (fun z_7 ez_7 => ?_)
  obtain rfl : z_7 = nI (i + 4) := ez_7.trans (nI_add i 4)
  refine va_sld hx hb hX hbl hbA hS (vp_in_nI (by omega) (by omega)) dL_law_293 ?_
  refine lv_topi (fun z_8 ez_8 => ?_)
  obtain rfl : z_8 = ys 4 := ez_8.trans (hys 4 (by decide))
  refine lv_aload_n hx hb dL_law_294 rfl (lv_at hl 3 rfl) ?_
  refine lv_iload_n hx hb dL_law_295 rfl (lv_at hl 0 rfl) ?_
  refine lv_iconst (v := 5) hx hb dL_law_296 (by decide) ?_
  refine lv_iadd hx hb dL_law_297 ?_
  refine lv_topi (fun z_9 ez_9 => ?_)
  obtain rfl : z_9 = nI (i + 5) := ez_9.trans (nI_add i 5)
  refine va_sld hx hb hX hbl hbA hS (vp_in_nI (by omega) (by omega)) dL_law_298 ?_
  refine lv_topi (fun z_10 ez_10 => ?_)
  obtain rfl : z_10 = ys 5 := ez_10.trans (hys 5 (by decide))
  refine lv_aload_n hx hb dL_law_299 rfl (lv_at hl 3 rfl) ?_
  refine lv_iload_n hx hb dL_law_300 rfl (lv_at hl 0 rfl) ?_
  refine lv_bipush (v := 6) hx hb dL_law_301 (by decide) ?_
  refine lv_iadd hx hb dL_law_303 ?_
  refine lv_topi (fun z_11 ez_11 => ?_)
  obtain rfl : z_11 = nI (i + 6) := ez_11.trans (nI_add i 6)
  refine va_sld hx hb hX hbl hbA hS (vp_in_nI (by omega) (by omega)) dL_law_304 ?_
  refine lv_topi (fun z_12 ez_12 => ?_)
  obtain rfl : z_12 = ys 6 := ez_12.trans (hys 6 (by decide))
  have hPc := hP.part (cx := [(h0, .inr (8, [.ref (a 1), .ref (a 2), .ref (a 3), .ref (a 4), .ref (a 5), .ref (a 6), .ref (a 7), .ref (a 8), .int (iv 0), .int (iv 1), .int (iv 2), .int (iv 3)])), (a 2, .inl (cM, 10, .inr (.inr (.inr (.inr fM)))))]) [0, 2] rfl
  have hDc := hD.part (cx := [(h0, .inr (8, [.ref (a 1), .ref (a 2), .ref (a 3), .ref (a 4), .ref (a 5), .ref (a 6), .ref (a 7), .ref (a 8), .int (iv 0), .int (iv 1), .int (iv 2), .int (iv 3)])), (a 2, .inl (cM, 10, .inr (.inr (.inr (.inr fM)))))]) [0, 2] (by decide) rfl
  have hFc := va_freeP (cx := [(h0, .inr (8, [.ref (a 1), .ref (a 2), .ref (a 3), .ref (a 4), .ref (a 5), .ref (a 6), .ref (a 7), .ref (a 8), .int (iv 0), .int (iv 1), .int (iv 2), .int (iv 3)])), (a 2, .inl (cM, 10, .inr (.inr (.inr (.inr fM)))))]) hD hS hA [0, 2] rfl
  refine va_calli (va_runV (As := [.int (ys 1), .int (ys 2), .int (ys 3), .int (ys 4), .int (ys 5), .int (ys 6)]) (rest := []) ⟨hx, hb, hml, hown, hts⟩ (k_X8_bearing l D cI cJ cZ cM h0 a iv av ma mv mso mrs n0 fM hn0 hfM hn8 (ys 1) (ys 2) (ys 3) (ys 4) (ys 5) (ys 6) _) (cwV 6 hts gL_law_X8_bearing rfl rfl rfl (by decide +kernel) ⟨Nat.le_of_ble_eq_true rfl, Nat.le_of_ble_eq_true rfl⟩) (rw_V hG hPc hDc (va_recv hK hPc (ci := 8) (q0 := 0) rfl rfl)) rfl rfl hl.1 rfl (lv_room (Nat.le_of_ble_eq_true rfl)) dL_law_305 ⟨(show cells + 0 ≤ 600000 by omega), (show slots + 0 ≤ 7302250 by omega)⟩) hS (fun q _ h => hFc q h) hFc (fun r_13 u_13 t_13 H1 locs ht hvm h_13 hB hz1 hk1 hS => ?_)
  obtain ⟨mv_13, mso_13⟩ := u_13
  obtain ⟨hP1, hD1⟩ := hB
  rw [ht] at hP1
  obtain ⟨hP, hD⟩ := va_joinP (wr := [(a 1, .inl (cI, 1600, .inl (av 1))), (a 3, .inl (cI, 48, .inl (av 3))), (a 4, .inr (7, [.ref (a 9), .ref (a 10), .ref (a 11), .ref (a 12), .int (iv 4)])), (a 9, .inl (cI, 100, .inl (av 9))), (a 10, .inl (cI, 100, .inl (av 10))), (a 11, .inl (cI, 100, .inl (av 11))), (a 12, .inl (cI, 100, .inl (av 12))), (a 5, .inr (4, [.ref (a 13), .ref (a 14), .int (iv 5), .int (iv 6), .int (iv 7), .int (iv 8), .int (iv 9), .int (iv 10), .int (iv 11), .int (iv 12)])), (a 13, .inl (cI, 24, .inl (av 13))), (a 14, .inl (cI, 24, .inl (av 14))), (a 6, .inr (2, [.ref (a 16), .ref (a 17), .ref (a 18), .ref (a 19), .ref (a 20), .ref (a 21), .ref (a 22), .ref (a 23), .ref (a 24), .ref (a 25), .ref (a 26), .ref (a 27), .int (iv 20), .int (iv 21), .int (iv 22), .int (iv 23)])), (a 16, .inl (cI, 10, .inl (av 16))), (a 17, .inl (cI, 10, .inl (av 17))), (a 18, .inl (cI, 10, .inl (av 18))), (a 19, .inl (cI, 10, .inl (av 19))), (a 20, .inl (cI, 121, .inl (av 20))), (a 21, .inl (cI, 240, .inl (av 21))), (a 22, .inl (cI, 240, .inl (av 22))), (a 23, .inl (cI, 10240, .inl (av 23))), (a 24, .inl (cI, 1024, .inl (av 24))), (a 25, .inl (cI, 10, .inl (av 25))), (a 26, .inl (cI, 10, .inl (av 26))), (a 27, .inl (cI, 10, .inl (av 27))), (a 7, .inr (6, [.int (iv 13), .int (iv 14), .int (iv 15), .int (iv 16), .int (iv 17), .int (iv 18)])), (a 8, .inr (3, [.ref (a 15), .int (iv 19)])), (a 15, .inl (cI, 8, .inl (av 15))), (h1, .inr (9, [.ref (n 0), .int (mi 1), .ref (n 2), .ref (n 3), .ref (n 4), .ref (n 5), .ref (n 6), .int (mi 7), .ref (n 8), .ref (n 9), .ref (n 10), .ref (n 11), .ref (n 12), .ref (n 13), .ref (n 14), .int (mi 15), .int (mi 16), .ref (n 17), .ref (n 18), .ref (n 19), .ref (n 20), .ref (n 21), .ref (n 22), .ref (n 23), .ref (n 24), .ref (n 25), .int (mi 26), .int (mi 27), .int (mi 28), .int (mi 29), .int (mi 30), .int (mi 31), .int (mi 32), .int (mi 33), .ref (n 34), .ref (n 35), .int (mq 36), .int (mq 37), .int (mq 38), .ref (n 39), .ref (n 40), .ref (n 41), .ref (n 42), .int (mq 43), .int (mq 44), .int (mq 45)])), (n 0, .inl (cI, 1600, .inl (mav 0))), (n 2, .inl (cI, 10, .inl (mav 2))), (n 3, .inl (cI, 10, .inl (mav 3))), (n 4, .inl (cI, 10, .inl (mav 4))), (n 5, .inl (cZ, 16000, .inl (mav 5))), (n 6, .inl (cZ, 10, .inl (mav 6))), (n 8, .inl (cI, 10, .inl (mav 8))), (n 9, .inl (cI, 10, .inl (mav 9))), (n 10, .inl (cI, 10, .inl (mav 10))), (n 11, .inl (cI, 10, .inl (mav 11))), (n 12, .inl (cI, 48, .inl (mav 12))), (n 13, .inl (cI, 10, .inl (mav 13))), (n 14, .inl (cI, 80, .inl (mav 14))), (n 17, .inl (cI, 100, .inl (mav 17))), (n 18, .inl (cI, 100, .inl (mav 18))), (n 19, .inl (cI, 100, .inl (mav 19))), (n 20, .inl (cI, 100, .inl (mav 20))), (n 21, .inl (cI, 10, .inl (mav 21))), (n 22, .inl (cI, 10, .inl (mav 22))), (n 23, .inl (cI, 10, .inl (mav 23))), (n 24, .inl (cI, 24, .inl (mav 24))), (n 25, .inl (cI, 24, .inl (mav 25))), (n 34, .inl (cI, 8, .inl (mav 34))), (n 35, .inl (cI, 10240, .inl (mav 35))), (n 39, .inl (cI, 10, .inl (mav 39))), (n 40, .inl (cI, 10, .inl (mav 40))), (n 41, .inl (cI, 1024, .inl (mav 41))), (n 42, .inl (cI, 1024, .inl (mav 42)))]) (rx := [(h0, .inr (8, [.ref (a 1), .ref (a 2), .ref (a 3), .ref (a 4), .ref (a 5), .ref (a 6), .ref (a 7), .ref (a 8), .int (iv 0), .int (iv 1), .int (iv 2), .int (iv 3)])), (a 2, .inl (cM, 10, .inr (.inr (.inr (.inr fM)))))]) (pl1 := MG cI cJ ma mv_13 mso_13 mrs n0) hP hD [0, 2] [1, 3, 4, 5, 6, 7, 8, 9, 10, 11, 12, 13, 14, 15, 16, 17, 18, 19, 20, 21, 22, 23, 24, 25, 26, 27, 28, 29, 30, 31, 32, 33, 34, 35, 36, 37, 38, 39, 40, 41, 42, 43, 44, 45, 46, 47, 48, 49, 50, 51, 52, 53, 54, 55, 56] rfl rfl (by decide) (by decide) hk1 hFc hP1 hD1
  generalize H1 = H at hP hS ⊢
  refine W.widen (k := cells) (n := slots) (Nat.le_refl _) (Nat.le_refl _) ?_
  refine lv_pop hx hb dL_law_308 rfl ?_
  refine lv_aload_n hx hb dL_law_309 rfl (lv_at hl 1 rfl) ?_
  refine lv_aload_n hx hb dL_law_310 rfl (lv_at hl 3 rfl) ?_
  refine lv_iload_n hx hb dL_law_311 rfl (lv_at hl 0 rfl) ?_
  refine lv_iconst (v := 1) hx hb dL_law_312 (by decide) ?_
  refine lv_iadd hx hb dL_law_313 ?_
  refine lv_topi (fun z_14 ez_14 => ?_)
  obtain rfl : z_14 = nI (i + 1) := ez_14.trans (nI_add i 1)
  refine va_sld hx hb hX hbl hbA hS (vp_in_nI (by omega) (by omega)) dL_law_314 ?_
  refine lv_topi (fun z_15 ez_15 => ?_)
  obtain rfl : z_15 = ys 1 := ez_15.trans (hys 1 (by decide))
  refine lv_aload_n hx hb dL_law_315 rfl (lv_at hl 3 rfl) ?_
  refine lv_iload_n hx hb dL_law_316 rfl (lv_at hl 0 rfl) ?_
  refine lv_iconst (v := 2) hx hb dL_law_317 (by decide) ?_
  refine lv_iadd hx hb dL_law_318 ?_
  refine lv_topi (fun z_16 ez_16 => ?_)
  obtain rfl : z_16 = nI (i + 2) := ez_16.trans (nI_add i 2)
  refine va_sld hx hb hX hbl hbA hS (vp_in_nI (by omega) (by omega)) dL_law_319 ?_
  refine lv_topi (fun z_17 ez_17 => ?_)
  obtain rfl : z_17 = ys 2 := ez_17.trans (hys 2 (by decide))
  refine lv_aload_n hx hb dL_law_320 rfl (lv_at hl 3 rfl) ?_
  refine lv_iload_n hx hb dL_law_321 rfl (lv_at hl 0 rfl) ?_
  refine lv_iconst (v := 3) hx hb dL_law_322 (by decide) ?_
  refine lv_iadd hx hb dL_law_323 ?_
  refine lv_topi (fun z_18 ez_18 => ?_)
  obtain rfl : z_18 = nI (i + 3) := ez_18.trans (nI_add i 3)
  refine va_sld hx hb hX hbl hbA hS (vp_in_nI (by omega) (by omega)) dL_law_324 ?_
  refine lv_topi (fun z_19 ez_19 => ?_)
  obtain rfl : z_19 = ys 3 := ez_19.trans (hys 3 (by decide))
  refine lv_aload_n hx hb dL_law_325 rfl (lv_at hl 3 rfl) ?_
  refine lv_iload_n hx hb dL_law_326 rfl (lv_at hl 0 rfl) ?_
  refine lv_iconst (v := 4) hx hb dL_law_327 (by decide) ?_
  refine lv_iadd hx hb dL_law_328 ?_
  refine lv_topi (fun z_20 ez_20 => ?_)
  obtain rfl : z_20 = nI (i + 4) := ez_20.trans (nI_add i 4)
  refine va_sld hx hb hX hbl hbA hS (vp_in_nI (by omega) (by omega)) dL_law_329 ?_
  refine lv_topi (fun z_21 ez_21 => ?_)
  obtain rfl : z_21 = ys 4 := ez_21.trans (hys 4 (by decide))
  refine lv_aload_n hx hb dL_law_330 rfl (lv_at hl 3 rfl) ?_
  refine lv_iload_n hx hb dL_law_331 rfl (lv_at hl 0 rfl) ?_
  refine lv_iconst (v := 5) hx hb dL_law_332 (by decide) ?_
  refine lv_iadd hx hb dL_law_333 ?_
  refine lv_topi (fun z_22 ez_22 => ?_)
  obtain rfl : z_22 = nI (i + 5) := ez_22.trans (nI_add i 5)
  refine va_sld hx hb hX hbl hbA hS (vp_in_nI (by omega) (by omega)) dL_law_334 ?_
  refine lv_topi (fun z_23 ez_23 => ?_)
  obtain rfl : z_23 = ys 5 := ez_23.trans (hys 5 (by decide))
  refine lv_aload_n hx hb dL_law_335 rfl (lv_at hl 3 rfl) ?_
  refine lv_iload_n hx hb dL_law_336 rfl (lv_at hl 0 rfl) ?_
  refine lv_bipush (v := 6) hx hb dL_law_337 (by decide) ?_
  refine lv_iadd hx hb dL_law_339 ?_
  refine lv_topi (fun z_24 ez_24 => ?_)
  obtain rfl : z_24 = nI (i + 6) := ez_24.trans (nI_add i 6)
  refine va_sld hx hb hX hbl hbA hS (vp_in_nI (by omega) (by omega)) dL_law_340 ?_
  refine lv_topi (fun z_25 ez_25 => ?_)
  obtain rfl : z_25 = ys 6 := ez_25.trans (hys 6 (by decide))
  have hPc := hP.sub (ws' := [(h1, .inr (9, [.ref (n 0), .int (mi 1), .ref (n 2), .ref (n 3), .ref (n 4), .ref (n 5), .ref (n 6), .int (mi 7), .ref (n 8), .ref (n 9), .ref (n 10), .ref (n 11), .ref (n 12), .ref (n 13), .ref (n 14), .int (mi 15), .int (mi 16), .ref (n 17), .ref (n 18), .ref (n 19), .ref (n 20), .ref (n 21), .ref (n 22), .ref (n 23), .ref (n 24), .ref (n 25), .int (mi 26), .int (mi 27), .int (mi 28), .int (mi 29), .int (mi 30), .int (mi 31), .int (mi 32), .int (mi 33), .ref (n 34), .ref (n 35), .int (mq 36), .int (mq 37), .int (mq 38), .ref (n 39), .ref (n 40), .ref (n 41), .ref (n 42), .int (mq 43), .int (mq 44), .int (mq 45)])), (n 2, .inl (cI, 10, .inl (mav 2))), (n 3, .inl (cI, 10, .inl (mav 3))), (n 5, .inl (cZ, 16000, .inl (mav 5))), (n 6, .inl (cZ, 10, .inl (mav 6)))]) [26, 28, 29, 31, 32] rfl
  have hDc := hD.sub (ws' := [(h1, .inr (9, [.ref (n 0), .int (mi 1), .ref (n 2), .ref (n 3), .ref (n 4), .ref (n 5), .ref (n 6), .int (mi 7), .ref (n 8), .ref (n 9), .ref (n 10), .ref (n 11), .ref (n 12), .ref (n 13), .ref (n 14), .int (mi 15), .int (mi 16), .ref (n 17), .ref (n 18), .ref (n 19), .ref (n 20), .ref (n 21), .ref (n 22), .ref (n 23), .ref (n 24), .ref (n 25), .int (mi 26), .int (mi 27), .int (mi 28), .int (mi 29), .int (mi 30), .int (mi 31), .int (mi 32), .int (mi 33), .ref (n 34), .ref (n 35), .int (mq 36), .int (mq 37), .int (mq 38), .ref (n 39), .ref (n 40), .ref (n 41), .ref (n 42), .int (mq 43), .int (mq 44), .int (mq 45)])), (n 2, .inl (cI, 10, .inl (mav 2))), (n 3, .inl (cI, 10, .inl (mav 3))), (n 5, .inl (cZ, 16000, .inl (mav 5))), (n 6, .inl (cZ, 10, .inl (mav 6)))]) [26, 28, 29, 31, 32] (by decide) rfl
  have hFc := va_free (wc := [(h1, .inr (9, [.ref (n 0), .int (mi 1), .ref (n 2), .ref (n 3), .ref (n 4), .ref (n 5), .ref (n 6), .int (mi 7), .ref (n 8), .ref (n 9), .ref (n 10), .ref (n 11), .ref (n 12), .ref (n 13), .ref (n 14), .int (mi 15), .int (mi 16), .ref (n 17), .ref (n 18), .ref (n 19), .ref (n 20), .ref (n 21), .ref (n 22), .ref (n 23), .ref (n 24), .ref (n 25), .int (mi 26), .int (mi 27), .int (mi 28), .int (mi 29), .int (mi 30), .int (mi 31), .int (mi 32), .int (mi 33), .ref (n 34), .ref (n 35), .int (mq 36), .int (mq 37), .int (mq 38), .ref (n 39), .ref (n 40), .ref (n 41), .ref (n 42), .int (mq 43), .int (mq 44), .int (mq 45)])), (n 2, .inl (cI, 10, .inl (mav 2))), (n 3, .inl (cI, 10, .inl (mav 3))), (n 5, .inl (cZ, 16000, .inl (mav 5))), (n 6, .inl (cZ, 10, .inl (mav 6)))]) hD hS hA [26, 28, 29, 31, 32] rfl
  refine va_calli (va_runV (As := [.int (ys 1), .int (ys 2), .int (ys 3), .int (ys 4), .int (ys 5), .int (ys 6)]) (rest := []) ⟨hx, hb, hml, hown, hts⟩ (k_X9_bearing l D cI cJ cZ cM h1 n mi mq mav n0 hn9 hn0 (ys 1) (ys 2) (ys 3) (ys 4) (ys 5) (ys 6) _) (cwV 6 hts gL_law_X9_bearing rfl rfl rfl (by decide +kernel) ⟨Nat.le_of_ble_eq_true rfl, Nat.le_of_ble_eq_true rfl⟩) (rw_V hG hPc hDc (va_recv hK hPc (ci := 9) (q0 := 0) rfl rfl)) rfl rfl hl.1 rfl (lv_room (Nat.le_of_ble_eq_true rfl)) dL_law_341 ⟨(show cells + 0 ≤ 600000 by omega), (show slots + 0 ≤ 7302250 by omega)⟩) hS (fun q _ h => hFc q h) hFc (fun r_26 u_26 t_26 H1 locs ht hvm h_26 hB hz1 hk1 hS => ?_)
  obtain ⟨g5_26, g6_26⟩ := u_26
  obtain ⟨hP1, hD1⟩ := hB
  rw [ht] at hP1
  obtain ⟨hP, hD⟩ := va_joinQ (wr := [(a 1, .inl (cI, 1600, .inl (av 1))), (a 3, .inl (cI, 48, .inl (av 3))), (a 4, .inr (7, [.ref (a 9), .ref (a 10), .ref (a 11), .ref (a 12), .int (iv 4)])), (a 9, .inl (cI, 100, .inl (av 9))), (a 10, .inl (cI, 100, .inl (av 10))), (a 11, .inl (cI, 100, .inl (av 11))), (a 12, .inl (cI, 100, .inl (av 12))), (a 5, .inr (4, [.ref (a 13), .ref (a 14), .int (iv 5), .int (iv 6), .int (iv 7), .int (iv 8), .int (iv 9), .int (iv 10), .int (iv 11), .int (iv 12)])), (a 13, .inl (cI, 24, .inl (av 13))), (a 14, .inl (cI, 24, .inl (av 14))), (a 6, .inr (2, [.ref (a 16), .ref (a 17), .ref (a 18), .ref (a 19), .ref (a 20), .ref (a 21), .ref (a 22), .ref (a 23), .ref (a 24), .ref (a 25), .ref (a 26), .ref (a 27), .int (iv 20), .int (iv 21), .int (iv 22), .int (iv 23)])), (a 16, .inl (cI, 10, .inl (av 16))), (a 17, .inl (cI, 10, .inl (av 17))), (a 18, .inl (cI, 10, .inl (av 18))), (a 19, .inl (cI, 10, .inl (av 19))), (a 20, .inl (cI, 121, .inl (av 20))), (a 21, .inl (cI, 240, .inl (av 21))), (a 22, .inl (cI, 240, .inl (av 22))), (a 23, .inl (cI, 10240, .inl (av 23))), (a 24, .inl (cI, 1024, .inl (av 24))), (a 25, .inl (cI, 10, .inl (av 25))), (a 26, .inl (cI, 10, .inl (av 26))), (a 27, .inl (cI, 10, .inl (av 27))), (a 7, .inr (6, [.int (iv 13), .int (iv 14), .int (iv 15), .int (iv 16), .int (iv 17), .int (iv 18)])), (a 8, .inr (3, [.ref (a 15), .int (iv 19)])), (a 15, .inl (cI, 8, .inl (av 15))), (n 0, .inl (cI, 1600, .inl (mav 0))), (n 4, .inl (cI, 10, .inl (mav 4))), (n 8, .inl (cI, 10, .inl (mav 8))), (n 9, .inl (cI, 10, .inl (mav 9))), (n 10, .inl (cI, 10, .inl (mav 10))), (n 11, .inl (cI, 10, .inl (mav 11))), (n 12, .inl (cI, 48, .inl (mav 12))), (n 13, .inl (cI, 10, .inl (mav 13))), (n 14, .inl (cI, 80, .inl (mav 14))), (n 17, .inl (cI, 100, .inl (mav 17))), (n 18, .inl (cI, 100, .inl (mav 18))), (n 19, .inl (cI, 100, .inl (mav 19))), (n 20, .inl (cI, 100, .inl (mav 20))), (n 21, .inl (cI, 10, .inl (mav 21))), (n 22, .inl (cI, 10, .inl (mav 22))), (n 23, .inl (cI, 10, .inl (mav 23))), (n 24, .inl (cI, 24, .inl (mav 24))), (n 25, .inl (cI, 24, .inl (mav 25))), (n 34, .inl (cI, 8, .inl (mav 34))), (n 35, .inl (cI, 10240, .inl (mav 35))), (n 39, .inl (cI, 10, .inl (mav 39))), (n 40, .inl (cI, 10, .inl (mav 40))), (n 41, .inl (cI, 1024, .inl (mav 41))), (n 42, .inl (cI, 1024, .inl (mav 42))), (h0, .inr (8, [.ref (a 1), .ref (a 2), .ref (a 3), .ref (a 4), .ref (a 5), .ref (a 6), .ref (a 7), .ref (a 8), .int (iv 0), .int (iv 1), .int (iv 2), .int (iv 3)])), (a 2, .inl (cM, 10, .inr (.inr (.inr (.inr fM)))))]) (w1 := [(h1, .inr (9, [.ref (n 0), .int (mi 1), .ref (n 2), .ref (n 3), .ref (n 4), .ref (n 5), .ref (n 6), .int (mi 7), .ref (n 8), .ref (n 9), .ref (n 10), .ref (n 11), .ref (n 12), .ref (n 13), .ref (n 14), .int (mi 15), .int (mi 16), .ref (n 17), .ref (n 18), .ref (n 19), .ref (n 20), .ref (n 21), .ref (n 22), .ref (n 23), .ref (n 24), .ref (n 25), .int (mi 26), .int (mi 27), .int (mi 28), .int (mi 29), .int (mi 30), .int (mi 31), .int (mi 32), .int (mi 33), .ref (n 34), .ref (n 35), .int (mq 36), .int (mq 37), .int (mq 38), .ref (n 39), .ref (n 40), .ref (n 41), .ref (n 42), .int (mq 43), .int (mq 44), .int (mq 45)])), (n 2, .inl (cI, 10, .inl (mav 2))), (n 3, .inl (cI, 10, .inl (mav 3))), (n 5, .inl (cZ, 16000, .inl g5_26)), (n 6, .inl (cZ, 10, .inl g6_26))]) hP hD [26, 28, 29, 31, 32] [0, 1, 2, 3, 4, 5, 6, 7, 8, 9, 10, 11, 12, 13, 14, 15, 16, 17, 18, 19, 20, 21, 22, 23, 24, 25, 27, 30, 33, 34, 35, 36, 37, 38, 39, 40, 41, 42, 43, 44, 45, 46, 47, 48, 49, 50, 51, 52, 53, 54, 55, 56] rfl rfl (by decide) (by decide) hk1 hFc hP1 hD1
  generalize H1 = H at hP hS ⊢
  refine W.widen (k := cells) (n := slots) (Nat.le_refl _) (Nat.le_refl _) ?_
  refine lv_pop hx hb dL_law_344 rfl ?_
  refine lv_goto (tgt := 1068) hx hb dL_law_345 (by decide) ?_
  have hP9 := hP.part (cx := [(h0, .inr (8, [.ref (a 1), .ref (a 2), .ref (a 3), .ref (a 4), .ref (a 5), .ref (a 6), .ref (a 7), .ref (a 8), .int (iv 0), .int (iv 1), .int (iv 2), .int (iv 3)])), (a 1, .inl (cI, 1600, .inl (av 1))), (a 2, .inl (cM, 10, .inr (.inr (.inr (.inr fM))))), (a 3, .inl (cI, 48, .inl (av 3))), (a 4, .inr (7, [.ref (a 9), .ref (a 10), .ref (a 11), .ref (a 12), .int (iv 4)])), (a 9, .inl (cI, 100, .inl (av 9))), (a 10, .inl (cI, 100, .inl (av 10))), (a 11, .inl (cI, 100, .inl (av 11))), (a 12, .inl (cI, 100, .inl (av 12))), (a 5, .inr (4, [.ref (a 13), .ref (a 14), .int (iv 5), .int (iv 6), .int (iv 7), .int (iv 8), .int (iv 9), .int (iv 10), .int (iv 11), .int (iv 12)])), (a 13, .inl (cI, 24, .inl (av 13))), (a 14, .inl (cI, 24, .inl (av 14))), (a 6, .inr (2, [.ref (a 16), .ref (a 17), .ref (a 18), .ref (a 19), .ref (a 20), .ref (a 21), .ref (a 22), .ref (a 23), .ref (a 24), .ref (a 25), .ref (a 26), .ref (a 27), .int (iv 20), .int (iv 21), .int (iv 22), .int (iv 23)])), (a 16, .inl (cI, 10, .inl (av 16))), (a 17, .inl (cI, 10, .inl (av 17))), (a 18, .inl (cI, 10, .inl (av 18))), (a 19, .inl (cI, 10, .inl (av 19))), (a 20, .inl (cI, 121, .inl (av 20))), (a 21, .inl (cI, 240, .inl (av 21))), (a 22, .inl (cI, 240, .inl (av 22))), (a 23, .inl (cI, 10240, .inl (av 23))), (a 24, .inl (cI, 1024, .inl (av 24))), (a 25, .inl (cI, 10, .inl (av 25))), (a 26, .inl (cI, 10, .inl (av 26))), (a 27, .inl (cI, 10, .inl (av 27))), (a 7, .inr (6, [.int (iv 13), .int (iv 14), .int (iv 15), .int (iv 16), .int (iv 17), .int (iv 18)])), (a 8, .inr (3, [.ref (a 15), .int (iv 19)])), (a 15, .inl (cI, 8, .inl (av 15))), (h1, .inr (9, [.ref (n 0), .int (mi 1), .ref (n 2), .ref (n 3), .ref (n 4), .ref (n 5), .ref (n 6), .int (mi 7), .ref (n 8), .ref (n 9), .ref (n 10), .ref (n 11), .ref (n 12), .ref (n 13), .ref (n 14), .int (mi 15), .int (mi 16), .ref (n 17), .ref (n 18), .ref (n 19), .ref (n 20), .ref (n 21), .ref (n 22), .ref (n 23), .ref (n 24), .ref (n 25), .int (mi 26), .int (mi 27), .int (mi 28), .int (mi 29), .int (mi 30), .int (mi 31), .int (mi 32), .int (mi 33), .ref (n 34), .ref (n 35), .int (mq 36), .int (mq 37), .int (mq 38), .ref (n 39), .ref (n 40), .ref (n 41), .ref (n 42), .int (mq 43), .int (mq 44), .int (mq 45)])), (n 0, .inl (cI, 1600, .inl (mav 0))), (n 2, .inl (cI, 10, .inl (mav 2))), (n 3, .inl (cI, 10, .inl (mav 3))), (n 4, .inl (cI, 10, .inl (mav 4))), (n 5, .inl (cZ, 16000, .inl g5_26)), (n 6, .inl (cZ, 10, .inl g6_26)), (n 8, .inl (cI, 10, .inl (mav 8))), (n 9, .inl (cI, 10, .inl (mav 9))), (n 10, .inl (cI, 10, .inl (mav 10))), (n 11, .inl (cI, 10, .inl (mav 11))), (n 12, .inl (cI, 48, .inl (mav 12))), (n 13, .inl (cI, 10, .inl (mav 13))), (n 14, .inl (cI, 80, .inl (mav 14))), (n 17, .inl (cI, 100, .inl (mav 17))), (n 18, .inl (cI, 100, .inl (mav 18))), (n 19, .inl (cI, 100, .inl (mav 19))), (n 20, .inl (cI, 100, .inl (mav 20))), (n 21, .inl (cI, 10, .inl (mav 21))), (n 22, .inl (cI, 10, .inl (mav 22))), (n 23, .inl (cI, 10, .inl (mav 23))), (n 24, .inl (cI, 24, .inl (mav 24))), (n 25, .inl (cI, 24, .inl (mav 25))), (n 34, .inl (cI, 8, .inl (mav 34))), (n 35, .inl (cI, 10240, .inl (mav 35))), (n 39, .inl (cI, 10, .inl (mav 39))), (n 40, .inl (cI, 10, .inl (mav 40))), (n 41, .inl (cI, 1024, .inl (mav 41))), (n 42, .inl (cI, 1024, .inl (mav 42)))]) [50, 0, 51, 1, 2, 3, 4, 5, 6, 7, 8, 9, 10, 11, 12, 13, 14, 15, 16, 17, 18, 19, 20, 21, 22, 23, 24, 25, 52, 26, 53, 54, 27, 55, 56, 28, 29, 30, 31, 32, 33, 34, 35, 36, 37, 38, 39, 40, 41, 42, 43, 44, 45, 46, 47, 48, 49] rfl
  have hD9 := hD.part (cx := [(h0, .inr (8, [.ref (a 1), .ref (a 2), .ref (a 3), .ref (a 4), .ref (a 5), .ref (a 6), .ref (a 7), .ref (a 8), .int (iv 0), .int (iv 1), .int (iv 2), .int (iv 3)])), (a 1, .inl (cI, 1600, .inl (av 1))), (a 2, .inl (cM, 10, .inr (.inr (.inr (.inr fM))))), (a 3, .inl (cI, 48, .inl (av 3))), (a 4, .inr (7, [.ref (a 9), .ref (a 10), .ref (a 11), .ref (a 12), .int (iv 4)])), (a 9, .inl (cI, 100, .inl (av 9))), (a 10, .inl (cI, 100, .inl (av 10))), (a 11, .inl (cI, 100, .inl (av 11))), (a 12, .inl (cI, 100, .inl (av 12))), (a 5, .inr (4, [.ref (a 13), .ref (a 14), .int (iv 5), .int (iv 6), .int (iv 7), .int (iv 8), .int (iv 9), .int (iv 10), .int (iv 11), .int (iv 12)])), (a 13, .inl (cI, 24, .inl (av 13))), (a 14, .inl (cI, 24, .inl (av 14))), (a 6, .inr (2, [.ref (a 16), .ref (a 17), .ref (a 18), .ref (a 19), .ref (a 20), .ref (a 21), .ref (a 22), .ref (a 23), .ref (a 24), .ref (a 25), .ref (a 26), .ref (a 27), .int (iv 20), .int (iv 21), .int (iv 22), .int (iv 23)])), (a 16, .inl (cI, 10, .inl (av 16))), (a 17, .inl (cI, 10, .inl (av 17))), (a 18, .inl (cI, 10, .inl (av 18))), (a 19, .inl (cI, 10, .inl (av 19))), (a 20, .inl (cI, 121, .inl (av 20))), (a 21, .inl (cI, 240, .inl (av 21))), (a 22, .inl (cI, 240, .inl (av 22))), (a 23, .inl (cI, 10240, .inl (av 23))), (a 24, .inl (cI, 1024, .inl (av 24))), (a 25, .inl (cI, 10, .inl (av 25))), (a 26, .inl (cI, 10, .inl (av 26))), (a 27, .inl (cI, 10, .inl (av 27))), (a 7, .inr (6, [.int (iv 13), .int (iv 14), .int (iv 15), .int (iv 16), .int (iv 17), .int (iv 18)])), (a 8, .inr (3, [.ref (a 15), .int (iv 19)])), (a 15, .inl (cI, 8, .inl (av 15))), (h1, .inr (9, [.ref (n 0), .int (mi 1), .ref (n 2), .ref (n 3), .ref (n 4), .ref (n 5), .ref (n 6), .int (mi 7), .ref (n 8), .ref (n 9), .ref (n 10), .ref (n 11), .ref (n 12), .ref (n 13), .ref (n 14), .int (mi 15), .int (mi 16), .ref (n 17), .ref (n 18), .ref (n 19), .ref (n 20), .ref (n 21), .ref (n 22), .ref (n 23), .ref (n 24), .ref (n 25), .int (mi 26), .int (mi 27), .int (mi 28), .int (mi 29), .int (mi 30), .int (mi 31), .int (mi 32), .int (mi 33), .ref (n 34), .ref (n 35), .int (mq 36), .int (mq 37), .int (mq 38), .ref (n 39), .ref (n 40), .ref (n 41), .ref (n 42), .int (mq 43), .int (mq 44), .int (mq 45)])), (n 0, .inl (cI, 1600, .inl (mav 0))), (n 2, .inl (cI, 10, .inl (mav 2))), (n 3, .inl (cI, 10, .inl (mav 3))), (n 4, .inl (cI, 10, .inl (mav 4))), (n 5, .inl (cZ, 16000, .inl g5_26)), (n 6, .inl (cZ, 10, .inl g6_26)), (n 8, .inl (cI, 10, .inl (mav 8))), (n 9, .inl (cI, 10, .inl (mav 9))), (n 10, .inl (cI, 10, .inl (mav 10))), (n 11, .inl (cI, 10, .inl (mav 11))), (n 12, .inl (cI, 48, .inl (mav 12))), (n 13, .inl (cI, 10, .inl (mav 13))), (n 14, .inl (cI, 80, .inl (mav 14))), (n 17, .inl (cI, 100, .inl (mav 17))), (n 18, .inl (cI, 100, .inl (mav 18))), (n 19, .inl (cI, 100, .inl (mav 19))), (n 20, .inl (cI, 100, .inl (mav 20))), (n 21, .inl (cI, 10, .inl (mav 21))), (n 22, .inl (cI, 10, .inl (mav 22))), (n 23, .inl (cI, 10, .inl (mav 23))), (n 24, .inl (cI, 24, .inl (mav 24))), (n 25, .inl (cI, 24, .inl (mav 25))), (n 34, .inl (cI, 8, .inl (mav 34))), (n 35, .inl (cI, 10240, .inl (mav 35))), (n 39, .inl (cI, 10, .inl (mav 39))), (n 40, .inl (cI, 10, .inl (mav 40))), (n 41, .inl (cI, 1024, .inl (mav 41))), (n 42, .inl (cI, 1024, .inl (mav 42)))]) [50, 0, 51, 1, 2, 3, 4, 5, 6, 7, 8, 9, 10, 11, 12, 13, 14, 15, 16, 17, 18, 19, 20, 21, 22, 23, 24, 25, 52, 26, 53, 54, 27, 55, 56, 28, 29, 30, 31, 32, 33, 34, 35, 36, 37, 38, 39, 40, 41, 42, 43, 44, 45, 46, 47, 48, 49] (by decide) rfl
  refine W.widen (k := cells + 6) (n := slots + 68) (by omega) (by omega) ?_
  exact kk n0 ma fM mv_13 mso_13 mrs iv av mi mq (vset (vset mav 5 g5_26) 6 g6_26) _ _ _ ⟨⟨hIA, hIB, hIC, hord, (ie_keep hIE h_13.2 (by decide)), hIH, hIG⟩, hX2, (xs_k hXS (fun i => h_13.2 i 0 (by omega)) (fun i => h_13.2 i 1 (by omega))), (xr_k hXR (fun i => h_13.2 i 14 (by omega))), (xj_k hXJ (fun i => h_13.2 i 5 (by omega))), (xk_k hXK (fun i q a b => h_13.2 i q (by omega)))⟩ hP9 hD9 hS (lv_sub hl [0, 1, 2, 3] rfl)
