set_option maxHeartbeats 4000000 in
set_option maxRecDepth 100000 in
/-- THE LOOP -/
theorem law_loop {p : Program} {l : Launch} {e : Env} {s : State} {m : MethodId} {below : List Frame} {meth : Method} {c : Code} {b L : Nat} {xs : Nat → Int32} {D : va_G} {cI cJ cZ cM : Nat} {A : Nat → Prop} {h0 h1 : Nat} {a n : Nat → Nat} (C0 : lw_At p s m meth c b L xs) (hL : L ≤ 3584) (hG : GK D cI cJ cZ cM s) (hA : ∀ q : Nat, s.heap.size ≤ q → A q) (hA2 : ∀ q : Nat, A q → s.heap.size ≤ q) : ∀ (k9 i : Nat) (n0 : Nat) (ma : Nat → Nat → Nat) (fM : Nat → Option Nat) (mv : Nat → Nat → Int32) (mso : Nat → Nat → Int64) (mrs : Nat → Nat → Int32) (iv : Nat → Int32) (av : Nat → Nat → Int32) (mi : Nat → Int32) (mq : Nat → Int32) (mav : Nat → Nat → Int32), i ≤ 3591 → (INV n0 ma fM mv iv av mi mq mav ∧ IX n0 mv mrs iv av mi mav) → L - i < k9 → ∀ (H : Heap) (locs : List Loc) (ls : Array Slot), va_P D vwCl (LW cI cJ cZ cM h0 h1 a n n0 ma fM mv mso mrs iv av mi mq mav) H → va_D A (LW cI cJ cZ cM h0 h1 a n n0 ma fM mv mso mrs iv av mi mq mav) → va_S A s.heap H locs → lv_has ls 4 [(3, .int (nI i)), (2, .ref h1), (1, .ref h0), (0, .ref b)] → W p l e room_1 s m #[Value.ref b] below meth c H locs (57 + i) (44758 + 10 * i) (lw_Z below #[Value.ref b] s) (F0 m 18 ls []) := by
  obtain ⟨hx, hb, hr, hml, hown, hts0, hX, hbl, hlocks, hgv⟩ := id C0
  have hts := fun w h => hts0 w (wsL_law_in w h)
  have hbA : ¬ A b := fun h => Nat.not_le.mpr hbl (hA2 _ h)
  have hK := hG.1
  have hN := hG.2
  intro k9
  induction k9 with
  | zero => intro i n0 ma fM mv mso mrs iv av mi mq mav _ _ hfu; exact absurd hfu (Nat.not_lt_zero _)
  | succ k9 ih =>
    intro i n0 ma fM mv mso mrs iv av mi mq mav hi9 hI hfu H locs ls hP hD hS hl
    refine lv_iload_n hx hb dL_law_18 rfl (lv_at hl 0 rfl) ?_
    refine lv_aload_n hx hb dL_law_19 rfl (lv_at hl 3 rfl) ?_
    refine va_slen hx hb hX hbl hbA hS dL_law_20 ?_
    refine lv_bipush (v := 7) hx hb dL_law_21 (by decide) ?_
    refine lv_isub hx hb dL_law_23 ?_
    refine lv_icmp_gt (tgt := 1074) hx hb dL_law_24 (by decide) (fun c9 => ?_) (fun c9 => ?_)
    · refine lv_iconst (v := 1) hx hb dL_law_1074 (by decide) ?_
      refine va_forget (fun q hq => hA2 _ (hS.2.2 q hq)) ?_
      refine W.widen (k := 600000) (n := 7302250) (by omega) (by omega) ?_
      exact lw_ret hx hb hr hlocks dL_law_1075
    have h7 : i + 7 ≤ L := Nat.le_of_not_lt (fun q => c9 ((law_cmp hL (by omega)).mpr q))
    obtain ⟨ys, hys⟩ : ∃ ys : Nat → Int32, ∀ k, k < 7 → xs (nI (i + k)).toNatClampNeg = ys k := ⟨fun k => xs (nI (i + k)).toNatClampNeg, fun _ _ => rfl⟩
    refine lv_aload_n hx hb dL_law_27 rfl (lv_at hl 3 rfl) ?_
    refine lv_iload_n hx hb dL_law_28 rfl (lv_at hl 0 rfl) ?_
    refine va_sld hx hb hX hbl hbA hS (vp_in_nI (by omega) (by omega)) dL_law_29 ?_
    refine lv_topi (fun z_1 ez_1 => ?_)
    obtain rfl : z_1 = ys 0 := ez_1.trans (hys 0 (by decide))
    refine lv_bipush (v := 31) hx hb dL_law_30 (by decide) ?_
    refine lv_iand hx hb dL_law_32 ?_
    have back : LKK p l e s m below meth c b D cI cJ cZ cM A h0 h1 a n i (57 + i + 6) (44758 + 10 * i + 68) := by
      intro n0 ma fM mv mso mrs iv av mi mq mav H locs ls hI hP hD hS hl
      refine lv_iinc (v := nI (i + 7)) (lv' := [(3, .int (nI (i + 7))), (2, .ref h1), (1, .ref h0), (0, .ref b)]) hx hb dL_law_1068 hl (k := 0) rfl (nI_add i 7) (by decide) rfl (fun ls hl => ?_)
      refine lv_goto (tgt := 18) hx hb dL_law_1071 (by decide) ?_
      refine W.widen (k := 57 + (i + 7)) (n := 44758 + 10 * (i + 7)) (by omega) (by omega) ?_
      exact ih (i + 7) n0 ma fM mv mso mrs iv av mi mq mav (by omega) hI (by omega) _ _ _ hP hD hS hl
    by_cases s_2 : (ys 0) &&& 31 = 0
    · refine lv_tableIn (off := 111) (tgt := 144) hx hb dL_law_33 (by rw [s_2]; decide) (by rw [s_2]; decide) (by rw [s_2]; decide) (by decide) ?_
      exact law_0 C0 hL hG hA hA2 h7 (by omega) (by omega) hys hI hP hD hS (lv_sub hl [0, 1, 2, 3] rfl) back
    by_cases s_3 : (ys 0) &&& 31 = 1
    · refine lv_tableIn (off := 174) (tgt := 207) hx hb dL_law_33 (by rw [s_3]; decide) (by rw [s_3]; decide) (by rw [s_3]; decide) (by decide) ?_
      exact law_1 C0 hL hG hA hA2 h7 (by omega) (by omega) hys hI hP hD hS (lv_sub hl [0, 1, 2, 3] rfl) back
    by_cases s_4 : (ys 0) &&& 31 = 2
    · refine lv_tableIn (off := 217) (tgt := 250) hx hb dL_law_33 (by rw [s_4]; decide) (by rw [s_4]; decide) (by rw [s_4]; decide) (by decide) ?_
      exact law_2 C0 hL hG hA hA2 h7 (by omega) (by omega) hys hI hP hD hS (lv_sub hl [0, 1, 2, 3] rfl) back
    by_cases s_5 : (ys 0) &&& 31 = 3
    · refine lv_tableIn (off := 240) (tgt := 273) hx hb dL_law_33 (by rw [s_5]; decide) (by rw [s_5]; decide) (by rw [s_5]; decide) (by decide) ?_
      exact law_3 C0 hL hG hA hA2 h7 (by omega) (by omega) hys hI hP hD hS (lv_sub hl [0, 1, 2, 3] rfl) back
    by_cases s_6 : (ys 0) &&& 31 = 4
    · refine lv_tableIn (off := 315) (tgt := 348) hx hb dL_law_33 (by rw [s_6]; decide) (by rw [s_6]; decide) (by rw [s_6]; decide) (by decide) ?_
      exact law_4 C0 hL hG hA hA2 h7 (by omega) (by omega) hys hI hP hD hS (lv_sub hl [0, 1, 2, 3] rfl) back
    by_cases s_7 : (ys 0) &&& 31 = 5
    · refine lv_tableIn (off := 358) (tgt := 391) hx hb dL_law_33 (by rw [s_7]; decide) (by rw [s_7]; decide) (by rw [s_7]; decide) (by decide) ?_
      exact law_5 C0 hL hG hA hA2 h7 (by omega) (by omega) hys hI hP hD hS (lv_sub hl [0, 1, 2, 3] rfl) back
    by_cases s_8 : (ys 0) &&& 31 = 6
    · refine lv_tableIn (off := 391) (tgt := 424) hx hb dL_law_33 (by rw [s_8]; decide) (by rw [s_8]; decide) (by rw [s_8]; decide) (by decide) ?_
      exact law_6 C0 hL hG hA hA2 h7 (by omega) (by omega) hys hI hP hD hS (lv_sub hl [0, 1, 2, 3] rfl) back
    by_cases s_9 : (ys 0) &&& 31 = 7
    · refine lv_tableIn (off := 414) (tgt := 447) hx hb dL_law_33 (by rw [s_9]; decide) (by rw [s_9]; decide) (by rw [s_9]; decide) (by decide) ?_
      exact law_7 C0 hL hG hA hA2 h7 (by omega) (by omega) hys hI hP hD hS (lv_sub hl [0, 1, 2, 3] rfl) back
    by_cases s_10 : (ys 0) &&& 31 = 8
    · refine lv_tableIn (off := 467) (tgt := 500) hx hb dL_law_33 (by rw [s_10]; decide) (by rw [s_10]; decide) (by rw [s_10]; decide) (by decide) ?_
      exact law_8 C0 hL hG hA hA2 h7 (by omega) (by omega) hys hI hP hD hS (lv_sub hl [0, 1, 2, 3] rfl) back
    by_cases s_11 : (ys 0) &&& 31 = 9
    · refine lv_tableIn (off := 510) (tgt := 543) hx hb dL_law_33 (by rw [s_11]; decide) (by rw [s_11]; decide) (by rw [s_11]; decide) (by decide) ?_
      exact law_9 C0 hL hG hA hA2 h7 (by omega) (by omega) hys hI hP hD hS (lv_sub hl [0, 1, 2, 3] rfl) back
    by_cases s_12 : (ys 0) &&& 31 = 10
    · refine lv_tableIn (off := 543) (tgt := 576) hx hb dL_law_33 (by rw [s_12]; decide) (by rw [s_12]; decide) (by rw [s_12]; decide) (by decide) ?_
      exact law_10 C0 hL hG hA hA2 h7 (by omega) (by omega) hys hI hP hD hS (lv_sub hl [0, 1, 2, 3] rfl) back
    by_cases s_13 : (ys 0) &&& 31 = 11
    · refine lv_tableIn (off := 586) (tgt := 619) hx hb dL_law_33 (by rw [s_13]; decide) (by rw [s_13]; decide) (by rw [s_13]; decide) (by decide) ?_
      exact law_11 C0 hL hG hA hA2 h7 (by omega) (by omega) hys hI hP hD hS (lv_sub hl [0, 1, 2, 3] rfl) back
    by_cases s_14 : (ys 0) &&& 31 = 12
    · refine lv_tableIn (off := 609) (tgt := 642) hx hb dL_law_33 (by rw [s_14]; decide) (by rw [s_14]; decide) (by rw [s_14]; decide) (by decide) ?_
      exact law_12 C0 hL hG hA hA2 h7 (by omega) (by omega) hys hI hP hD hS (lv_sub hl [0, 1, 2, 3] rfl) back
    by_cases s_15 : (ys 0) &&& 31 = 13
    · refine lv_tableIn (off := 642) (tgt := 675) hx hb dL_law_33 (by rw [s_15]; decide) (by rw [s_15]; decide) (by rw [s_15]; decide) (by decide) ?_
      exact law_13 C0 hL hG hA hA2 h7 (by omega) (by omega) hys hI hP hD hS (lv_sub hl [0, 1, 2, 3] rfl) back
    by_cases s_16 : (ys 0) &&& 31 = 14
    · refine lv_tableIn (off := 675) (tgt := 708) hx hb dL_law_33 (by rw [s_16]; decide) (by rw [s_16]; decide) (by rw [s_16]; decide) (by decide) ?_
      exact law_14 C0 hL hG hA hA2 h7 (by omega) (by omega) hys hI hP hD hS (lv_sub hl [0, 1, 2, 3] rfl) back
    by_cases s_17 : (ys 0) &&& 31 = 15
    · refine lv_tableIn (off := 698) (tgt := 731) hx hb dL_law_33 (by rw [s_17]; decide) (by rw [s_17]; decide) (by rw [s_17]; decide) (by decide) ?_
      exact law_15 C0 hL hG hA hA2 h7 (by omega) (by omega) hys hI hP hD hS (lv_sub hl [0, 1, 2, 3] rfl) back
    by_cases s_18 : (ys 0) &&& 31 = 16
    · refine lv_tableIn (off := 721) (tgt := 754) hx hb dL_law_33 (by rw [s_18]; decide) (by rw [s_18]; decide) (by rw [s_18]; decide) (by decide) ?_
      exact law_16 C0 hL hG hA hA2 h7 (by omega) (by omega) hys hI hP hD hS (lv_sub hl [0, 1, 2, 3] rfl) back
    by_cases s_19 : (ys 0) &&& 31 = 17
    · refine lv_tableIn (off := 754) (tgt := 787) hx hb dL_law_33 (by rw [s_19]; decide) (by rw [s_19]; decide) (by rw [s_19]; decide) (by decide) ?_
      exact law_17 C0 hL hG hA hA2 h7 (by omega) (by omega) hys hI hP hD hS (lv_sub hl [0, 1, 2, 3] rfl) back
    by_cases s_20 : (ys 0) &&& 31 = 18
    · refine lv_tableIn (off := 787) (tgt := 820) hx hb dL_law_33 (by rw [s_20]; decide) (by rw [s_20]; decide) (by rw [s_20]; decide) (by decide) ?_
      exact law_18 C0 hL hG hA hA2 h7 (by omega) (by omega) hys hI hP hD hS (lv_sub hl [0, 1, 2, 3] rfl) back
    by_cases s_21 : (ys 0) &&& 31 = 19
    · refine lv_tableIn (off := 840) (tgt := 873) hx hb dL_law_33 (by rw [s_21]; decide) (by rw [s_21]; decide) (by rw [s_21]; decide) (by decide) ?_
      exact law_19 C0 hL hG hA hA2 h7 (by omega) (by omega) hys hI hP hD hS (lv_sub hl [0, 1, 2, 3] rfl) back
    by_cases s_22 : (ys 0) &&& 31 = 20
    · refine lv_tableIn (off := 883) (tgt := 916) hx hb dL_law_33 (by rw [s_22]; decide) (by rw [s_22]; decide) (by rw [s_22]; decide) (by decide) ?_
      exact law_20 C0 hL hG hA hA2 h7 (by omega) (by omega) hys hI hP hD hS (lv_sub hl [0, 1, 2, 3] rfl) back
    by_cases s_23 : (ys 0) &&& 31 = 21
    · refine lv_tableIn (off := 936) (tgt := 969) hx hb dL_law_33 (by rw [s_23]; decide) (by rw [s_23]; decide) (by rw [s_23]; decide) (by decide) ?_
      exact law_21 C0 hL hG hA hA2 h7 (by omega) (by omega) hys hI hP hD hS (lv_sub hl [0, 1, 2, 3] rfl) back
    by_cases s_24 : (ys 0) &&& 31 = 22
    · refine lv_tableIn (off := 989) (tgt := 1022) hx hb dL_law_33 (by rw [s_24]; decide) (by rw [s_24]; decide) (by rw [s_24]; decide) (by decide) ?_
      exact law_22 C0 hL hG hA hA2 h7 (by omega) (by omega) hys hI hP hD hS (lv_sub hl [0, 1, 2, 3] rfl) back
    by_cases s_25 : (ys 0) &&& 31 = 23
    · refine lv_tableIn (off := 1012) (tgt := 1045) hx hb dL_law_33 (by rw [s_25]; decide) (by rw [s_25]; decide) (by rw [s_25]; decide) (by decide) ?_
      exact law_23 C0 hL hG hA hA2 h7 (by omega) (by omega) hys hI hP hD hS (lv_sub hl [0, 1, 2, 3] rfl) back
    refine lv_tableOut (tgt := 1068) hx hb dL_law_33 (my_out (hi := 23) (fun z hz => by rcases (show z = 0 ∨ z = 1 ∨ z = 2 ∨ z = 3 ∨ z = 4 ∨ z = 5 ∨ z = 6 ∨ z = 7 ∨ z = 8 ∨ z = 9 ∨ z = 10 ∨ z = 11 ∨ z = 12 ∨ z = 13 ∨ z = 14 ∨ z = 15 ∨ z = 16 ∨ z = 17 ∨ z = 18 ∨ z = 19 ∨ z = 20 ∨ z = 21 ∨ z = 22 ∨ z = 23 by omega) with rfl | rfl | rfl | rfl | rfl | rfl | rfl | rfl | rfl | rfl | rfl | rfl | rfl | rfl | rfl | rfl | rfl | rfl | rfl | rfl | rfl | rfl | rfl | rfl <;> assumption) (by decide)) (by decide) ?_
    refine W.widen (k := 57 + i + 6) (n := 44758 + 10 * i + 68) (by omega) (by omega) ?_
    exact back n0 ma fM mv mso mrs iv av mi mq mav _ _ _ hI hP hD hS (lv_sub hl [0, 1, 2, 3] rfl)
