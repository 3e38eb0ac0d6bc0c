def XS (n0 : Nat) (mv : Nat → Nat → Int32) (s2 s3 : Nat → Int32) : Prop := ∀ i, i < n0 → mv i 0 = s2 i ∧ mv i 1 = s3 i
def XR (n0 : Nat) (mv mrs : Nat → Nat → Int32) (s13 s14 : Nat → Int32) : Prop := (∀ i, i < n0 → mv i 14 = s13 i ∧ ∃ q, q ≤ 8 ∧ q % 2 = 0 ∧ mv i 14 = nI q ∧ ∀ k, k < q → mrs i k = s14 (8 * i + k)) ∧ ∀ i, n0 ≤ i → i < 10 → s13 i = 0
def XJ (n0 : Nat) (mv : Nat → Nat → Int32) (s23 : Nat → Int32) (i8 m33 : Int32) : Prop := (∀ i, i < n0 → mv i 5 = s23 i) ∧ (∀ i, n0 ≤ i → i < 10 → s23 i = 0) ∧ i8 = m33
def XK (n0 : Nat) (mv : Nat → Nat → Int32) (i1 : Int32) (r3 s8 s9 s10 s11 s12 : Nat → Int32) : Prop := (∀ k, k < 48 → r3 k = s12 k) ∧ (∀ i, n0 ≤ i → i < 10 → s8 i = -1) ∧ ∀ i, i < n0 → ∃ c g, c ≤ 333 ∧ g ≤ 3 ∧ mv i 13 = nI c ∧ mv i 12 = nI g ∧ nI (30 * c) ≤ i1 ∧ ((mv i 9 = 0 ∧ s8 i = -1) ∨ (mv i 9 = 1 ∧ s8 i = mv i 13 ∧ s9 i = mv i 10 ∧ s10 i = mv i 11 ∧ s11 i = mv i 12))
abbrev IX (n0 : Nat) (mv mrs : Nat → Nat → Int32) (iv : Nat → Int32) (av : Nat → Nat → Int32) (mi : Nat → Int32) (mav : Nat → Nat → Int32) : Prop := iv 2 = mi 15 ∧ XS n0 mv (mav 2) (mav 3) ∧ XR n0 mv mrs (mav 13) (mav 14) ∧ XJ n0 mv (mav 23) (iv 8) (mi 33) ∧ XK n0 mv (iv 1) (av 3) (mav 8) (mav 9) (mav 10) (mav 11) (mav 12)
theorem alk_congr {s : Nat} {f g f' g' : Nat → Int32} (hf : ∀ j, j < s → f j = f' j) (hg : ∀ j, j < s → g j = g' j) : alkC s f g ↔ alkC s f' g' := by
  have key : ∀ t k, k < s → f ((k + t) % s) = f' ((k + t) % s) := fun t k hk => hf _ (Nat.mod_lt _ (by omega))
  constructor
  · rintro ⟨t, h1, h2, h3⟩
    exact ⟨t, h1, h2, fun k hk => by rw [← key t k hk, ← hg k hk]; exact h3 k hk⟩
  · rintro ⟨t, h1, h2, h3⟩
    exact ⟨t, h1, h2, fun k hk => by rw [key t k hk, hg k hk]; exact h3 k hk⟩
theorem alk_sym {s : Nat} {f g : Nat → Int32} (he : s % 2 = 0) (h : alkC s f g) : alkC s g f := by
  obtain ⟨t, h1, h2, h3⟩ := h
  by_cases e : t = 0
  · subst e
    exact ⟨0, h1, rfl, fun k hk => by
      have := h3 k hk
      rw [Nat.add_zero, Nat.mod_eq_of_lt hk] at this ⊢
      exact this.symm⟩
  · refine ⟨s - t, by omega, by omega, fun k hk => ?_⟩
    have hj : (k + (s - t)) % s < s := Nat.mod_lt _ (by omega)
    have := h3 _ hj
    rw [← this]
    congr 1
    rw [Nat.mod_add_mod, show k + (s - t) + t = k + s by omega, Nat.add_mod_right, Nat.mod_eq_of_lt hk]
theorem nr_eq {n0 : Nat} {mv : Nat → Nat → Int32} {s2 s3 : Nat → Int32} (h : XS n0 mv s2 s3) {i k : Nat} (hi : i < n0) (hk : k < n0) : nrC (mv i) (mv k) = nrM s2 s3 i k := by
  unfold nrC nrM
  rw [(h i hi).1, (h i hi).2, (h k hk).1, (h k hk).2]
/-- two marks alike: on both sides -/
theorem al_iff {n0 : Nat} {mv mrs : Nat → Nat → Int32} {s13 s14 : Nat → Int32} (h : XR n0 mv mrs s13 s14) {i k : Nat} (hi : i < n0) (hk : k < n0) : (mv i 14 = mv k 14 ∧ alkC (mv i 14).toNatClampNeg (mrs i) (mrs k)) ↔ (s13 i = s13 k ∧ alkC (s13 i).toNatClampNeg (rwM s14 i) (rwM s14 k)) := by
  obtain ⟨a1, q, a2, a3, a4, a5⟩ := h.1 i hi
  obtain ⟨b1, p, b2, b3, b4, b5⟩ := h.1 k hk
  rw [← a1, ← b1]
  refine and_congr_right (fun e => ?_)
  rw [a4, nI_clamp (by omega)]
  have e2 : q = p := (nI_inj9 (by omega) (by omega)).mp (a4.symm.trans (e.trans b4))
  subst e2
  exact alk_congr (fun j hj => a5 j hj) (fun j hj => b5 j hj)
theorem cw_iff {n0 : Nat} {mv mrs : Nat → Nat → Int32} {s2 s3 s13 s14 : Nat → Int32} {x : Int32} (hs : XS n0 mv s2 s3) (h : XR n0 mv mrs s13 s14) : (∃ i k, i < k ∧ k < n0 ∧ cwC x mv mrs i k) ↔ (∃ m, m < n0 ∧ ∃ k, k < n0 ∧ clM x s2 s3 s13 s14 m k) := by
  constructor
  · rintro ⟨i, k, h1, h2, h3, h4⟩
    exact ⟨i, by omega, k, h2, by omega, by rw [← nr_eq hs (by omega) h2]; exact h3, (al_iff h (by omega) h2).mp h4⟩
  · rintro ⟨m, h1, k, h2, h3, h4, h5⟩
    rw [← nr_eq hs h1 h2] at h4
    have h6 := (al_iff h h1 h2).mpr h5
    rcases Nat.lt_or_ge m k with q | q
    · exact ⟨m, k, q, h2, h4, h6⟩
    · refine ⟨k, m, by omega, h1, ?_, h6.1.symm, ?_⟩
      · have : nrC (mv k) (mv m) = nrC (mv m) (mv k) := by
          unfold nrC
          have e : ∀ a b : Int32, (a - b) * (a - b) = (b - a) * (b - a) := fun a b => by
            have e1 : b - a = -(a - b) := Int32.neg_sub.symm
            rw [e1, Int32.neg_mul, Int32.mul_neg, Int32.neg_neg]
          rw [e (mv k 0), e (mv k 1)]
        rw [this]; exact h4
      · obtain ⟨_, s, b2, b3, b4, _⟩ := h.1 m h1
        rw [← h6.1]
        have := h6.2
        rw [b4, nI_clamp (by omega)] at this ⊢
        exact alk_sym b3 this
theorem near_ans {n0 : Nat} {mv mrs : Nat → Nat → Int32} {iv mi : Nat → Int32} {mav : Nat → Nat → Int32} {x1 r8 r9 u8 u9 : Int32} (hs : XS n0 mv (mav 2) (mav 3)) (h : XR n0 mv mrs (mav 13) (mav 14)) (e : iv 2 = mi 15) (h8 : (r8 = 1 ∧ ((0 ≤ x1 ∧ x1 ≤ 5000) ∧ ¬ ∃ i k, i < k ∧ k < n0 ∧ cwC x1 mv mrs i k) ∧ u8 = x1) ∨ (r8 = 0 ∧ ¬ ((0 ≤ x1 ∧ x1 ≤ 5000) ∧ ¬ ∃ i k, i < k ∧ k < n0 ∧ cwC x1 mv mrs i k) ∧ u8 = iv 2)) (h9 : (r9 = 1 ∧ ((0 ≤ x1 ∧ x1 ≤ 5000) ∧ ¬ ∃ m, m < n0 ∧ ∃ k, k < n0 ∧ clM x1 (mav 2) (mav 3) (mav 13) (mav 14) m k) ∧ u9 = x1) ∨ (r9 = 0 ∧ ¬ ((0 ≤ x1 ∧ x1 ≤ 5000) ∧ ¬ ∃ m, m < n0 ∧ ∃ k, k < n0 ∧ clM x1 (mav 2) (mav 3) (mav 13) (mav 14) m k) ∧ u9 = mi 15)) : r8 = r9 ∧ u8 = u9 := by
  have hi : ((0 ≤ x1 ∧ x1 ≤ 5000) ∧ ¬ ∃ i k, i < k ∧ k < n0 ∧ cwC x1 mv mrs i k) ↔ ((0 ≤ x1 ∧ x1 ≤ 5000) ∧ ¬ ∃ m, m < n0 ∧ ∃ k, k < n0 ∧ clM x1 (mav 2) (mav 3) (mav 13) (mav 14) m k) := and_congr Iff.rfl (not_congr (cw_iff hs h))
  rcases h8 with ⟨a1, a2, a3⟩ | ⟨a1, a2, a3⟩ <;> rcases h9 with ⟨b1, b2, b3⟩ | ⟨b1, b2, b3⟩
  · exact ⟨a1.trans b1.symm, a3.trans b3.symm⟩
  · exact absurd (hi.mp a2) b2
  · exact absurd (hi.mpr b2) a2
  · exact ⟨a1.trans b1.symm, a3.trans (e.trans b3.symm)⟩
theorem pos_iff {n0 : Nat} {mv mrs : Nat → Nat → Int32} {s13 s14 : Nat → Int32} (h : XR n0 mv mrs s13 s14) {i : Nat} (hi : i < n0) : 0 < mv i 14 ↔ ¬ s13 i = 0 := by
  obtain ⟨a1, q, a2, a3, a4, a5⟩ := h.1 i hi
  rw [← a1, a4]
  constructor
  · intro p e
    rw [e] at p; exact absurd p (by decide)
  · intro p
    have : q ≠ 0 := fun e => p (by rw [e]; rfl)
    exact (nI_ltI (a := 0) (by decide) (by omega)).mpr (by omega)
theorem alike_ans {n0 : Nat} {mv mrs : Nat → Nat → Int32} {mav : Nat → Nat → Int32} {x1 x2 r r' : Int32} (hn : n0 ≤ 10) (h : XR n0 mv mrs (mav 13) (mav 14)) (h8 : akC n0 mv mrs x1 x2 r) (h9 : (∃ i k, i < n0 ∧ k < n0 ∧ x1 = nI i ∧ x2 = nI k ∧ ¬ i = k ∧ ¬ (mav 13) i = 0 ∧ ¬ (mav 13) k = 0 ∧ okI 1 0 ((mav 13) i = (mav 13) k ∧ alkC ((mav 13) i).toNatClampNeg (rwM (mav 14) i) (rwM (mav 14) k)) r') ∨ (r' = -1 ∧ ¬ ∃ i k, i < n0 ∧ k < n0 ∧ x1 = nI i ∧ x2 = nI k ∧ ¬ i = k ∧ ¬ (mav 13) i = 0 ∧ ¬ (mav 13) k = 0)) : r = r' := by
  have hi : (∃ i k, i < n0 ∧ k < n0 ∧ x1 = nI i ∧ x2 = nI k ∧ ¬ i = k ∧ 0 < mv i 14 ∧ 0 < mv k 14) ↔ (∃ i k, i < n0 ∧ k < n0 ∧ x1 = nI i ∧ x2 = nI k ∧ ¬ i = k ∧ ¬ (mav 13) i = 0 ∧ ¬ (mav 13) k = 0) := by
    constructor
    · rintro ⟨i, k, a1, a2, a3, a4, a5, a6, a7⟩
      exact ⟨i, k, a1, a2, a3, a4, a5, (pos_iff h a1).mp a6, (pos_iff h a2).mp a7⟩
    · rintro ⟨i, k, a1, a2, a3, a4, a5, a6, a7⟩
      exact ⟨i, k, a1, a2, a3, a4, a5, (pos_iff h a1).mpr a6, (pos_iff h a2).mpr a7⟩
  rcases h8 with ⟨i, k, a1, a2, a3, a4, a5, a6, a7, a8⟩ | ⟨a1, a2⟩ <;> rcases h9 with ⟨j, l, b1, b2, b3, b4, b5, b6, b7, b8⟩ | ⟨b1, b2⟩
  · have e1 := (nI_inj9 (by omega) (by omega)).mp (a3.symm.trans b3)
    have e2 := (nI_inj9 (by omega) (by omega)).mp (a4.symm.trans b4)
    subst e1; subst e2
    exact okI_eq (okI_iff (al_iff h a1 a2) a8) b8
  · exact absurd (hi.mp ⟨i, k, a1, a2, a3, a4, a5, a6, a7⟩) b2
  · exact absurd (hi.mpr ⟨j, l, b1, b2, b3, b4, b5, b6, b7⟩) a2
  · exact a1.trans b1.symm
