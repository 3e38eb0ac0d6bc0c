def IA (n0 : Nat) (ma : Nat → Nat → Nat) (fM : Nat → Option Nat) (i0 m1 : Int32) : Prop := n0 ≤ 10 ∧ (∀ i, i < 10 → (i < n0 → fM i = some (ma i 0)) ∧ (n0 ≤ i → fM i = none)) ∧ i0 = nI n0 ∧ m1 = nI n0
def IB (i1 m7 : Int32) : Prop := ∃ T, T ≤ 10000 ∧ i1 = nI T ∧ m7 = nI T
def WR (wc : Nat) (r9 r10 r11 r12 s17 s18 s19 s20 : Nat → Int32) : Prop := ∀ w, w < wc → r9 w = s17 w ∧ r10 w = s18 w ∧ r11 w = s19 w ∧ r12 w = s20 w ∧ (r12 w = -1 ∨ 0 ≤ r12 w)
def IC (i4 m16 : Int32) (r9 r10 r11 r12 s17 s18 s19 s20 : Nat → Int32) : Prop := ∃ wc, wc ≤ 100 ∧ i4 = nI wc ∧ m16 = nI wc ∧ WR wc r9 r10 r11 r12 s17 s18 s19 s20
def IE (n0 : Nat) (mv : Nat → Nat → Int32) (i19 : Int32) : Prop := (∀ i, i < n0 → ∃ c, c ≤ 333 ∧ mv i 13 = nI c) ∧ (∀ i, i < n0 → ∃ q, q ≤ 8 ∧ mv i 14 = nI q) ∧ ∃ q, q ≤ 8 ∧ i19 = nI q
def IH (s8 s11 s13 : Nat → Int32) : Prop := (∀ i, i < 10 → s8 i = -1 ∨ ∃ c, c ≤ 333 ∧ s8 i = nI c) ∧ (∀ i, i < 10 → ∃ g, g ≤ 3 ∧ s11 i = nI g) ∧ (∀ i, i < 10 → ∃ q, q ≤ 8 ∧ s13 i = nI q)
def small (N : Nat) (x : Int32) : Prop := ∃ k, k ≤ N ∧ x = nI k
def IG (n0 : Nat) (m26 m30 m31 m32 m33 m38 : Int32) (s2 s3 s21 s23 s39 : Nat → Int32) : Prop := small 60 m26 ∧ small 39 m30 ∧ small 39 m31 ∧ (∃ bg lst, bg ≤ lst ∧ lst ≤ 1440 ∧ m32 = nI bg ∧ m33 = nI lst) ∧ (∀ i, i < 10 → small 39 (s2 i) ∧ small 39 (s3 i) ∧ small 600 (s21 i) ∧ small 1000 (s23 i)) ∧ rowsOk n0 m38 s39
/-- the states of class and reference between two calls -/
abbrev INV (n0 : Nat) (ma : Nat → Nat → Nat) (fM : Nat → Option Nat) (mv : Nat → Nat → Int32) (iv : Nat → Int32) (av : Nat → Nat → Int32) (mi mq : Nat → Int32) (mav : Nat → Nat → Int32) : Prop :=
  IA n0 ma fM (iv 0) (mi 1) ∧ IB (iv 1) (mi 7) ∧ IC (iv 4) (mi 16) (av 9) (av 10) (av 11) (av 12) (mav 17) (mav 18) (mav 19) (mav 20) ∧ ordOk (iv 21) (av 26) ∧ IE n0 mv (iv 19) ∧ IH (mav 8) (mav 11) (mav 13) ∧ IG n0 (mi 26) (mi 30) (mi 31) (mi 32) (mi 33) (mq 38) (mav 2) (mav 3) (mav 21) (mav 23) (mav 39)
theorem small_cl {N : Nat} {x : Int32} (hN : N < 2 ^ 31) (h : small N x) : x = nI x.toNatClampNeg ∧ x.toNatClampNeg ≤ N := by
  obtain ⟨k, h1, rfl⟩ := h
  rw [nI_clamp (by omega)]
  exact ⟨rfl, h1⟩
theorem small_rg {N : Nat} {x : Int32} (hN : N < 2 ^ 31) (h : 0 ≤ x ∧ x ≤ nI N) : small N x := by
  obtain ⟨t, h1, h2⟩ := rng_n hN h
  exact ⟨t, h1, h2⟩
theorem ig_mp {n0 : Nat} {ma : Nat → Nat → Nat} {fM : Nat → Option Nat} {i0 : Int32} {mi mq : Nat → Int32} {mav : Nat → Nat → Int32} (hA : IA n0 ma fM i0 (mi 1)) (h : IG n0 (mi 26) (mi 30) (mi 31) (mi 32) (mi 33) (mq 38) (mav 2) (mav 3) (mav 21) (mav 23) (mav 39)) : ∃ px py pm sx sy pc lst, MPok n0 mi mav px py pm sx sy pc lst ∧ (∃ pw : Nat → Nat, ∀ i, i < n0 → (mav 23) i = nI (pw i) ∧ pw i ≤ 1000) ∧ (∃ bg, mi 32 = nI bg ∧ bg ≤ lst) ∧ rowsOk n0 (mq 38) (mav 39) := by
  obtain ⟨h1, h2, h3, ⟨bg, lst, h4, h5, h6, h7⟩, h8, h9⟩ := h
  have c1 := small_cl (by decide) h1
  have c2 := small_cl (by decide) h2
  have c3 := small_cl (by decide) h3
  have hn0 := hA.1
  refine ⟨fun i => (mav 2 i).toNatClampNeg, fun i => (mav 3 i).toNatClampNeg, fun i => (mav 21 i).toNatClampNeg, (mi 30).toNatClampNeg, (mi 31).toNatClampNeg, (mi 26).toNatClampNeg, lst, ⟨hA.1, hA.2.2.2, c2.1, c3.1, c1.1, h7, c2.2, c3.2, c1.2, h5, fun i hi => ?_⟩, ⟨fun i => (mav 23 i).toNatClampNeg, fun i hi => small_cl (by decide) (h8 i (by omega)).2.2.2⟩, ⟨bg, h6, h4⟩, h9⟩
  obtain ⟨g1, g2, g3, -⟩ := h8 i (by omega)
  have d1 := small_cl (by decide) g1
  have d2 := small_cl (by decide) g2
  have d3 := small_cl (by decide) g3
  exact ⟨d1.1, d2.1, d3.1, d1.2, d2.2, d3.2⟩
theorem ie_keep {n0 lo hi : Nat} {mv mv' : Nat → Nat → Int32} {i19 : Int32} (h : IE n0 mv i19) (hk : keepM lo hi mv mv') (hh : hi ≤ 13) : IE n0 mv' i19 :=
  ⟨fun i q => by rw [hk i 13 (by omega)]; exact h.1 i q, fun i q => by rw [hk i 14 (by omega)]; exact h.2.1 i q, h.2.2⟩
theorem ie_job {n0 : Nat} {iv : Nat → Int32} {mv : Nat → Nat → Int32} {x1 x2 x3 x4 r i19 : Int32} {u : Int32 × (Nat → Nat → Int32)} (h : IE n0 mv i19) (hp : (r = 1 ∧ (isM n0 x1 ∧ (0 ≤ x2 ∧ x2 ≤ 600) ∧ (0 ≤ x3 ∧ x3 ≤ 1000) ∧ (0 ≤ x4 ∧ x4 ≤ 1000)) ∧ ∃ i, i < n0 ∧ x1 = nI i ∧ u = (0, mup (mup (mup mv i 3 x2) i 4 x3) i 5 x4)) ∨ (r = 0 ∧ ¬ (isM n0 x1 ∧ (0 ≤ x2 ∧ x2 ≤ 600) ∧ (0 ≤ x3 ∧ x3 ≤ 1000) ∧ (0 ≤ x4 ∧ x4 ≤ 1000)) ∧ u = (iv 3, mv))) : IE n0 u.2 i19 := by
  rcases hp with ⟨-, -, i, -, -, rfl⟩ | ⟨-, -, rfl⟩
  · exact ie_keep (lo := 3) (hi := 6) h (fun j q hq => by dsimp only; rw [mup_k (by omega), mup_k (by omega), mup_k (by omega)]) (by decide)
  · exact h
theorem small_upd {N m : Nat} {f : Nat → Int32} {x : Int32} {i : Nat} (h : small N (f i)) (hx : small N x) : small N (upd f m x i) := by
  show small N (if i = m then x else f i)
  by_cases e : i = m
  · rw [if_pos e]; exact hx
  · rw [if_neg e]; exact h
theorem ig_job {n0 : Nat} {m26 m30 m31 m32 m33 m38 : Int32} {mq : Nat → Int32} {mav : Nat → Nat → Int32} {s2 s3 s39 : Nat → Int32} {x1 x2 x3 x4 r : Int32} {u : (Nat → Int32) × (Nat → Int32) × (Nat → Int32) × Int32} (h : IG n0 m26 m30 m31 m32 m33 m38 s2 s3 (mav 21) (mav 23) s39) (hp : (r = 1 ∧ (isM n0 x1 ∧ (0 ≤ x2 ∧ x2 ≤ 600) ∧ (0 ≤ x3 ∧ x3 ≤ 1000) ∧ (0 ≤ x4 ∧ x4 ≤ 1000)) ∧ ∃ i, i < n0 ∧ x1 = nI i ∧ u = (upd (mav 21) i x2, upd (mav 22) i x3, upd (mav 23) i x4, 0)) ∨ (r = 0 ∧ ¬ (isM n0 x1 ∧ (0 ≤ x2 ∧ x2 ≤ 600) ∧ (0 ≤ x3 ∧ x3 ≤ 1000) ∧ (0 ≤ x4 ∧ x4 ≤ 1000)) ∧ u = (mav 21, mav 22, mav 23, mq 43))) : IG n0 m26 m30 m31 m32 m33 m38 s2 s3 u.1 u.2.2.1 s39 := by
  rcases hp with ⟨-, ⟨-, g1, -, g2⟩, i, -, -, rfl⟩ | ⟨-, -, rfl⟩
  · obtain ⟨h1, h2, h3, h4, h5, h6⟩ := h
    exact ⟨h1, h2, h3, h4, fun j hj => ⟨(h5 j hj).1, (h5 j hj).2.1, small_upd (h5 j hj).2.2.1 (small_rg (N := 600) (by decide) g1), small_upd (h5 j hj).2.2.2 (small_rg (N := 1000) (by decide) g2)⟩, h6⟩
  · exact h
theorem ie_chain {n0 T : Nat} {mv : Nat → Nat → Int32} {x1 x2 x3 x4 r i19 : Int32} {u : Nat → Nat → Int32} (hT : T ≤ 10000) (h : IE n0 mv i19) (hp : (r = 1 ∧ (isM n0 x1 ∧ (1 ≤ x2 ∧ x2 ≤ 1000) ∧ (0 ≤ x3 ∧ x3 ≤ x2) ∧ (0 ≤ x4 ∧ x4 ≤ 3)) ∧ ∃ i, i < n0 ∧ x1 = nI i ∧ u = mup (mup (mup (mup (mup mv i 9 1) i 10 x2) i 11 x3) i 12 x4) i 13 (nI (T / 30))) ∨ (r = 0 ∧ ¬ (isM n0 x1 ∧ (1 ≤ x2 ∧ x2 ≤ 1000) ∧ (0 ≤ x3 ∧ x3 ≤ x2) ∧ (0 ≤ x4 ∧ x4 ≤ 3)) ∧ u = mv)) : IE n0 u i19 := by
  rcases hp with ⟨-, -, i, -, -, rfl⟩ | ⟨-, -, rfl⟩
  · refine ⟨fun j hj => ?_, fun j hj => ?_, h.2.2⟩
    · by_cases e : j = i
      · subst e
        exact ⟨T / 30, by omega, mup_s⟩
      · rw [mup_j e, mup_j e, mup_j e, mup_j e, mup_j e]; exact h.1 j hj
    · rw [mup_k (by decide), mup_k (by decide), mup_k (by decide), mup_k (by decide), mup_k (by decide)]; exact h.2.1 j hj
  · exact h
theorem ih_chain {n0 T : Nat} {mav : Nat → Nat → Int32} {s13 : Nat → Int32} {x1 x2 x3 x4 r : Int32} {u : (Nat → Int32) × (Nat → Int32) × (Nat → Int32) × (Nat → Int32)} (hT : T ≤ 10000) (h : IH (mav 8) (mav 11) s13) (hp : (r = 1 ∧ (isM n0 x1 ∧ (1 ≤ x2 ∧ x2 ≤ 1000) ∧ (0 ≤ x3 ∧ x3 ≤ x2) ∧ (0 ≤ x4 ∧ x4 ≤ 3)) ∧ ∃ i, i < n0 ∧ x1 = nI i ∧ u = (upd (mav 8) i (nI (T / 30)), upd (mav 9) i x2, upd (mav 10) i x3, upd (mav 11) i x4)) ∨ (r = 0 ∧ ¬ (isM n0 x1 ∧ (1 ≤ x2 ∧ x2 ≤ 1000) ∧ (0 ≤ x3 ∧ x3 ≤ x2) ∧ (0 ≤ x4 ∧ x4 ≤ 3)) ∧ u = (mav 8, mav 9, mav 10, mav 11))) : IH u.1 u.2.2.2 s13 := by
  rcases hp with ⟨-, ⟨-, -, -, g⟩, i, -, -, rfl⟩ | ⟨-, -, rfl⟩
  · refine ⟨fun j hj => ?_, fun j hj => ?_, h.2.2⟩
    · show (if j = i then nI (T / 30) else mav 8 j) = -1 ∨ _
      by_cases e : j = i
      · rw [if_pos e]; exact Or.inr ⟨T / 30, by omega, if_pos e⟩
      · rw [if_neg e]
        rcases h.1 j hj with q | ⟨c, q1, q2⟩
        · exact Or.inl q
        · exact Or.inr ⟨c, q1, (if_neg e).trans q2⟩
    · exact small_upd (N := 3) (h.2.1 j hj) (small_rg (N := 3) (by decide) g)
  · exact h
theorem rows_succ {n0 : Nat} {x : Int32} {f : Nat → Int32} (h : rowsOk n0 x f) : rowsOk (n0 + 1) x f := by
  obtain ⟨c, h1, h2, h3⟩ := h
  refine ⟨c, h1, by omega, fun j hj => ?_⟩
  obtain ⟨i, g1, g2⟩ := h3 j hj
  exact ⟨i, by omega, g2⟩
theorem op_eq {wc : Nat} {r9 r10 r11 r12 s17 s18 s19 s20 : Nat → Int32} {x y : Int32} (h : WR wc r9 r10 r11 r12 s17 s18 s19 s20) : (∃ w, w < wc ∧ opC r9 r10 r12 x y w) ↔ (∃ w, w < wc ∧ opM s17 s18 s20 x y w) := by
  have key : ∀ w, w < wc → (opC r9 r10 r12 x y w ↔ opM s17 s18 s20 x y w) := fun w hw => by
    obtain ⟨h1, h2, h3, h4, h5⟩ := h w hw
    unfold opC opM
    rw [← h1, ← h2, ← h4]
    refine and_congr Iff.rfl (and_congr Iff.rfl ?_)
    rcases h5 with q | q
    · rw [q]; decide
    · constructor
      · intro e; rw [e] at q; exact absurd q (by decide)
      · intro e; exact absurd e (Int32.not_lt.mpr q)
  exact ⟨fun ⟨w, hw, q⟩ => ⟨w, hw, (key w hw).mp q⟩, fun ⟨w, hw, q⟩ => ⟨w, hw, (key w hw).mpr q⟩⟩
theorem ic_warn {n0 wc T : Nat} {iv mi : Nat → Int32} {av mav : Nat → Nat → Int32} {x1 x2 r8 r9 : Int32} {u8 u9 : Int32 × (Nat → Int32) × (Nat → Int32) × (Nat → Int32) × (Nat → Int32)} (hwc : wc ≤ 100) (hT8 : iv 1 = nI T) (hT9 : mi 7 = nI T) (hw8 : iv 4 = nI wc) (hw9 : mi 16 = nI wc) (hw : WR wc (av 9) (av 10) (av 11) (av 12) (mav 17) (mav 18) (mav 19) (mav 20)) (h8 : (r8 = nI wc ∧ (isM n0 x1 ∧ (1 ≤ x2 ∧ x2 ≤ 9) ∧ wc < 100 ∧ ¬ (∃ w, w < wc ∧ opC (av 9) (av 10) (av 12) x1 x2 w)) ∧ u8 = (nI (wc + 1), upd (av 9) wc x1, upd (av 10) wc x2, upd (av 11) wc (iv 1), upd (av 12) wc (-1))) ∨ (r8 = -1 ∧ ¬ (isM n0 x1 ∧ (1 ≤ x2 ∧ x2 ≤ 9) ∧ wc < 100 ∧ ¬ (∃ w, w < wc ∧ opC (av 9) (av 10) (av 12) x1 x2 w)) ∧ u8 = (iv 4, av 9, av 10, av 11, av 12))) (h9 : (r9 = nI wc ∧ (isM n0 x1 ∧ (1 ≤ x2 ∧ x2 ≤ 9) ∧ wc < 100 ∧ ¬ (∃ w, w < wc ∧ opM (mav 17) (mav 18) (mav 20) x1 x2 w)) ∧ u9 = (nI (wc + 1), upd (mav 17) wc x1, upd (mav 18) wc x2, upd (mav 19) wc (mi 7), upd (mav 20) wc (-1))) ∨ (r9 = -1 ∧ ¬ (isM n0 x1 ∧ (1 ≤ x2 ∧ x2 ≤ 9) ∧ wc < 100 ∧ ¬ (∃ w, w < wc ∧ opM (mav 17) (mav 18) (mav 20) x1 x2 w)) ∧ u9 = (mi 16, mav 17, mav 18, mav 19, mav 20))) : IC u8.1 u9.1 u8.2.1 u8.2.2.1 u8.2.2.2.1 u8.2.2.2.2 u9.2.1 u9.2.2.1 u9.2.2.2.1 u9.2.2.2.2 := by
  have ho := op_eq (x := x1) (y := x2) hw
  rcases h8 with ⟨-, p8, rfl⟩ | ⟨-, p8, rfl⟩ <;> rcases h9 with ⟨-, p9, rfl⟩ | ⟨-, p9, rfl⟩
  · refine ⟨wc + 1, by omega, rfl, rfl, fun w hwl => ?_⟩
    by_cases e : w = wc
    · subst e
      simp [upd, hT8, hT9]
    · have := hw w (by omega)
      simp only [upd, if_neg e]
      exact this
  · exact absurd ⟨p8.1, p8.2.1, p8.2.2.1, fun q => p8.2.2.2 (ho.mpr q)⟩ p9
  · exact absurd ⟨p9.1, p9.2.1, p9.2.2.1, fun q => p9.2.2.2 (ho.mp q)⟩ p8
  · exact ⟨wc, hwc, hw8, hw9, hw⟩
theorem neg_iff {x : Int32} (h : x = -1 ∨ 0 ≤ x) : x = -1 ↔ x < 0 := by
  rcases h with q | q
  · rw [q]; decide
  · constructor
    · intro e; rw [e] at q; exact absurd q (by decide)
    · intro e; exact absurd e (Int32.not_lt.mpr q)
theorem ic_cancel {wc T : Nat} {iv mi : Nat → Int32} {av mav : Nat → Nat → Int32} {x1 r8 r9 : Int32} {u8 u9 : Nat → Int32} (hwc : wc ≤ 100) (hT : T ≤ 10000) (hT8 : iv 1 = nI T) (hT9 : mi 7 = nI T) (hw8 : iv 4 = nI wc) (hw9 : mi 16 = nI wc) (hw : WR wc (av 9) (av 10) (av 11) (av 12) (mav 17) (mav 18) (mav 19) (mav 20)) (h8 : (r8 = 1 ∧ ∃ i, i < wc ∧ x1 = nI i ∧ av 12 i = -1 ∧ u8 = upd (av 12) i (iv 1)) ∨ (r8 = 0 ∧ (¬ ∃ i, i < wc ∧ x1 = nI i ∧ av 12 i = -1) ∧ u8 = av 12)) (h9 : (r9 = 1 ∧ ∃ i, i < wc ∧ x1 = nI i ∧ mav 20 i < 0 ∧ u9 = upd (mav 20) i (mi 7)) ∨ (r9 = 0 ∧ (¬ ∃ i, i < wc ∧ x1 = nI i ∧ mav 20 i < 0) ∧ u9 = mav 20)) : IC (iv 4) (mi 16) (av 9) (av 10) (av 11) u8 (mav 17) (mav 18) (mav 19) u9 := by
  refine ⟨wc, hwc, hw8, hw9, ?_⟩
  rcases h8 with ⟨-, i, hi, ei, ai, rfl⟩ | ⟨-, n8, rfl⟩ <;> rcases h9 with ⟨-, j, hj, ej, aj, rfl⟩ | ⟨-, n9, rfl⟩
  · have e := (nI_inj9 (by omega) (by omega)).mp (ei.symm.trans ej)
    subst e
    intro w hwl
    obtain ⟨g1, g2, g3, g4, g5⟩ := hw w hwl
    refine ⟨g1, g2, g3, ?_, ?_⟩
    · show (if w = i then iv 1 else av 12 w) = (if w = i then mi 7 else mav 20 w)
      rw [hT8, hT9, g4]
    · show (if w = i then iv 1 else av 12 w) = -1 ∨ 0 ≤ (if w = i then iv 1 else av 12 w)
      by_cases e : w = i
      · rw [if_pos e, hT8]; exact Or.inr (nI_pos' (by omega))
      · rw [if_neg e]; exact g5
  · obtain ⟨g1, g2, g3, g4, g5⟩ := hw i hi
    exact absurd ⟨i, hi, ei, by rw [← g4]; exact (neg_iff g5).mp ai⟩ n9
  · obtain ⟨g1, g2, g3, g4, g5⟩ := hw j hj
    exact absurd ⟨j, hj, ej, (neg_iff g5).mpr (by rw [g4]; exact aj)⟩ n8
  · exact hw
/-- one mark more -/
theorem mg_more {D : va_G} {cl : List vw_C} {A0 : Nat → Prop} {cI cJ : Nat} {ma : Nat → Nat → Nat} {mv : Nat → Nat → Int32} {mso : Nat → Nat → Int64} {mrs : Nat → Nat → Int32} {X : va_W} {H : Heap} {n0 : Nat} (m' : Nat → Nat) (v' : Nat → Int32) (so' : Nat → Int64) (rs' : Nat → Int32) {Y : va_W} (hY : MKc cI cJ (rup ma n0 m') (rup mv n0 v') (rup mso n0 so') (rup mrs n0 rs') n0 = Y) (hP : va_P D cl ((X ++ Y) ++ MG cI cJ ma mv mso mrs n0) H) (hD : va_D A0 ((X ++ Y) ++ MG cI cJ ma mv mso mrs n0)) :
    va_P D cl (X ++ MG cI cJ (rup ma n0 m') (rup mv n0 v') (rup mso n0 so') (rup mrs n0 rs') (n0 + 1)) H ∧ va_D A0 (X ++ MG cI cJ (rup ma n0 m') (rup mv n0 v') (rup mso n0 so') (rup mrs n0 rs') (n0 + 1)) := by
  have e1 : ∀ n, n ≤ n0 → MG cI cJ (rup ma n0 m') (rup mv n0 v') (rup mso n0 so') (rup mrs n0 rs') n = MG cI cJ ma mv mso mrs n := by
    intro n
    induction n with
    | zero => intro _; rfl
    | succ n ih =>
      intro hn
      show MG cI cJ _ _ _ _ n ++ MKc cI cJ _ _ _ _ n = MG cI cJ ma mv mso mrs n ++ MKc cI cJ ma mv mso mrs n
      rw [ih (by omega)]
      have e : n ≠ n0 := by omega
      have q1 : rup ma n0 m' n = ma n := rup_j e
      have q2 : rup mv n0 v' n = mv n := rup_j e
      have q3 : rup mso n0 so' n = mso n := rup_j e
      have q4 : rup mrs n0 rs' n = mrs n := rup_j e
      congr 1
      unfold MKc
      rw [q1, q2, q3, q4]
  have e2 : X ++ MG cI cJ (rup ma n0 m') (rup mv n0 v') (rup mso n0 so') (rup mrs n0 rs') (n0 + 1) = (X ++ MG cI cJ ma mv mso mrs n0) ++ Y := by
    show X ++ (MG cI cJ _ _ _ _ n0 ++ MKc cI cJ _ _ _ _ n0) = _
    rw [e1 n0 (Nat.le_refl _), hY, List.append_assoc]
  rw [e2]
  exact ⟨hP.swap, hD.swap⟩
theorem ia_mark {n0 : Nat} {ma : Nat → Nat → Nat} {fM : Nat → Option Nat} {i0 m1 : Int32} (m' : Nat → Nat) (h : IA n0 ma fM i0 m1) (hl : n0 < 10) : IA (n0 + 1) (rup ma n0 m') (va_up fM n0 (some (m' 0))) (nI (n0 + 1)) (nI (n0 + 1)) := by
  refine ⟨by omega, fun i hi => ⟨fun q => ?_, fun q => ?_⟩, rfl, rfl⟩
  · show (if i = n0 then some (m' 0) else fM i) = some ((if i = n0 then m' else ma i) 0)
    by_cases e : i = n0
    · rw [if_pos e, if_pos e]
    · rw [if_neg e, if_neg e]; exact (h.2.1 i hi).1 (by omega)
  · show (if i = n0 then some (m' 0) else fM i) = none
    rw [if_neg (by omega)]; exact (h.2.1 i hi).2 (by omega)
theorem ie_mark {n0 : Nat} {mv : Nat → Nat → Int32} {i19 : Int32} {v' : Nat → Int32} (h : IE n0 mv i19) (h1 : v' 13 = 0) (h2 : v' 14 = 0) : IE (n0 + 1) (rup mv n0 v') i19 := by
  refine ⟨fun i hi => ?_, fun i hi => ?_, h.2.2⟩
  · show ∃ c, c ≤ 333 ∧ (if i = n0 then v' else mv i) 13 = nI c
    by_cases e : i = n0
    · rw [if_pos e]; exact ⟨0, by decide, h1⟩
    · rw [if_neg e]; exact h.1 i (by omega)
  · show ∃ c, c ≤ 8 ∧ (if i = n0 then v' else mv i) 14 = nI c
    by_cases e : i = n0
    · rw [if_pos e]; exact ⟨0, by decide, h2⟩
    · rw [if_neg e]; exact h.2.1 i (by omega)
theorem ig_mark {n0 : Nat} {m26 m30 m31 m32 m33 m38 : Int32} {s2 s3 s21 s23 s39 : Nat → Int32} {x1 x2 : Int32} (h : IG n0 m26 m30 m31 m32 m33 m38 s2 s3 s21 s23 s39) (hp : placeP x1 x2) : IG (n0 + 1) m26 m30 m31 m32 m33 m38 (upd s2 n0 x1) (upd s3 n0 x2) s21 s23 s39 := by
  obtain ⟨h1, h2, h3, h4, h5, h6⟩ := h
  exact ⟨h1, h2, h3, h4, fun j hj => ⟨small_upd (h5 j hj).1 (small_rg (N := 39) (by decide) hp.1), small_upd (h5 j hj).2.1 (small_rg (N := 39) (by decide) hp.2), (h5 j hj).2.2⟩, rows_succ h6⟩
theorem ig_at {n0 : Nat} {m26 m30 m31 m32 m33 m38 : Int32} {s2 s3 s21 s23 s39 : Nat → Int32} {x1 x2 x3 x4 : Int32} (h : IG n0 m26 m30 m31 m32 m33 m38 s2 s3 s21 s23 s39) (hp : placeP x1 x2 ∧ (0 ≤ x3 ∧ x3 ≤ 1440) ∧ (x3 ≤ x4 ∧ x4 ≤ 1440)) : IG n0 m26 x1 x2 x3 x4 m38 s2 s3 s21 s23 s39 := by
  obtain ⟨h1, h2, h3, h4, h5, h6⟩ := h
  refine ⟨h1, small_rg (N := 39) (by decide) hp.1.1, small_rg (N := 39) (by decide) hp.1.2, ?_, h5, h6⟩
  obtain ⟨b, hb, rfl⟩ := rng_n (N := 1440) (by decide) hp.2.1
  obtain ⟨e, he, rfl⟩ := rng_n (N := 1440) (by decide) ⟨Int32.le_trans hp.2.1.1 hp.2.2.1, hp.2.2.2⟩
  exact ⟨b, e, (nI_leI (by omega) (by omega)).mp hp.2.2.1, he, rfl, rfl⟩
theorem ig_ship {n0 : Nat} {m26 m30 m31 m32 m33 m38 : Int32} {s2 s3 s21 s23 s39 : Nat → Int32} {x1 : Int32} (h : IG n0 m26 m30 m31 m32 m33 m38 s2 s3 s21 s23 s39) (hp : 0 ≤ x1 ∧ x1 ≤ 60) : IG n0 x1 m30 m31 m32 m33 m38 s2 s3 s21 s23 s39 := ⟨small_rg (N := 60) (by decide) hp, h.2⟩
theorem ig_round {n0 : Nat} {m26 m30 m31 m32 m33 m38 m38' : Int32} {s2 s3 s21 s23 s39 s39' : Nat → Int32} (h : IG n0 m26 m30 m31 m32 m33 m38 s2 s3 s21 s23 s39) (hp : rowsOk n0 m38' s39') : IG n0 m26 m30 m31 m32 m33 m38' s2 s3 s21 s23 s39' := ⟨h.1, h.2.1, h.2.2.1, h.2.2.2.1, h.2.2.2.2.1, hp⟩
theorem ib_day {i1 x : Int32} {T : Nat} (hT : T ≤ 10000) (hT8 : i1 = nI T) (hp : i1 ≤ x ∧ x ≤ 10000) : IB x x := by
  have h0 : (0 : Int32) ≤ x := Int32.le_trans (by rw [hT8]; exact nI_pos' (by omega)) hp.1
  obtain ⟨t, h1, rfl⟩ := rng_n (N := 10000) (by decide) ⟨h0, hp.2⟩
  exact ⟨t, h1, rfl, rfl⟩
theorem okI_eq {a b r r' : Int32} {P : Prop} (h : okI a b P r) (h' : okI a b P r') : r = r' := by
  rcases h with ⟨rfl, p⟩ | ⟨rfl, p⟩ <;> rcases h' with ⟨rfl, q⟩ | ⟨rfl, q⟩
  · rfl
  · exact absurd p q
  · exact absurd q p
  · rfl
theorem law_cmp {L i : Nat} (hL : L ≤ 3584) (hi : i ≤ 4000) : (Int32.ofNat L - 7 < nI i) ↔ L < i + 7 := by
  rw [Int32.lt_iff_toInt_lt, show Int32.ofNat L - 7 = nI L - nI 7 from rfl, pk_sub_toInt (by omega) (by decide), nI_toInt (by omega)]
  omega
def ivS : Nat → Int32 := fun k => if k = 8 then 1440 else if k = 9 then 1 else if k = 11 then 12 else 0
def miS : Nat → Int32 := fun k => if k = 26 then 1 else if k = 28 then 12 else if k = 33 then 1440 else 0
def mavS (fc : Nat → Int32) : Nat → Nat → Int32 := fun k => if k = 8 then fc else fun _ => 0
theorem inv_start {ma : Nat → Nat → Nat} {mv : Nat → Nat → Int32} {fc : Nat → Int32} (hc : ∀ i, i < 10 → fc i = -1) : INV 0 ma (fun _ => none) mv ivS (fun _ _ => 0) miS (fun _ => 0) (mavS fc) := by
  refine ⟨⟨by decide, fun i hi => ⟨fun q => absurd q (Nat.not_lt_zero _), fun _ => rfl⟩, rfl, rfl⟩, ⟨0, by decide, rfl, rfl⟩, ⟨0, by decide, rfl, rfl, fun w hw => absurd hw (Nat.not_lt_zero _)⟩, Or.inr ⟨0, rfl, by decide, fun j hj => absurd hj (Nat.not_lt_zero _)⟩, ⟨fun i hi => absurd hi (Nat.not_lt_zero _), fun i hi => absurd hi (Nat.not_lt_zero _), 0, by decide, rfl⟩, ⟨fun i hi => Or.inl (hc i hi), fun i hi => ⟨0, by decide, rfl⟩, fun i hi => ⟨0, by decide, rfl⟩⟩, ⟨1, by decide, rfl⟩, ⟨0, by decide, rfl⟩, ⟨0, by decide, rfl⟩, ⟨0, 1440, by decide, by decide, rfl, rfl⟩, fun i hi => ⟨⟨0, by decide, rfl⟩, ⟨0, by decide, rfl⟩, ⟨0, by decide, rfl⟩, ⟨0, by decide, rfl⟩⟩, ⟨0, rfl, by decide, fun j hj => absurd hj (Nat.not_lt_zero _)⟩⟩
