theorem dn_eq2 {a b r r' : Int32} {P P' X Y X' Y' : Prop} (hp : P ↔ P') (h : (r = a ∧ P ∧ X) ∨ (r = b ∧ ¬ P ∧ Y)) (h' : (r' = a ∧ P' ∧ X') ∨ (r' = b ∧ ¬ P' ∧ Y')) : r = r' := by
  rcases h with ⟨h1, h2, -⟩ | ⟨h1, h2, -⟩ <;> rcases h' with ⟨g1, g2, -⟩ | ⟨g1, g2, -⟩
  · rw [h1, g1]
  · exact absurd (hp.mp h2) g2
  · exact absurd (hp.mpr g2) h2
  · rw [h1, g1]
theorem dn_eq {a b r r' : Int32} {P X Y X' Y' : Prop} (h : (r = a ∧ P ∧ X) ∨ (r = b ∧ ¬ P ∧ Y)) (h' : (r' = a ∧ P ∧ X') ∨ (r' = b ∧ ¬ P ∧ Y')) : r = r' := dn_eq2 Iff.rfl h h'
theorem wr_out {wc : Nat} {r9 r10 r11 r12 s17 s18 s19 s20 : Nat → Int32} (h : WR wc r9 r10 r11 r12 s17 s18 s19 s20) (d : Int32) : ∀ w, w < wc → (outC r11 r12 d w ↔ outM s19 s20 d w) := fun w hw => by
  obtain ⟨-, -, h3, h4, h5⟩ := h w hw
  unfold outC outM
  rw [← h3, ← h4, neg_iff h5]
theorem cnt_iff {P Q : Nat → Prop} {k : Nat} (h : ∀ w, w < k → (P w ↔ Q w)) : ∀ j, j ≤ k → cntP P j = cntP Q j := by
  intro j
  induction j with
  | zero => intro _; rfl
  | succ j ih =>
    intro hj
    by_cases p : P j
    · rw [cntP_t p, cntP_t ((h j (by omega)).mp p), ih (by omega)]
    · rw [cntP_f p, cntP_f (fun q => p ((h j (by omega)).mpr q)), ih (by omega)]
theorem cnt_mono {P : Nat → Prop} : ∀ k j, j ≤ k → cntP P j ≤ cntP P k := by
  intro k
  induction k with
  | zero => intro j hj; rw [show j = 0 by omega]; exact Nat.le_refl _
  | succ k ih =>
    intro j hj
    by_cases e : j = k + 1
    · rw [e]; exact Nat.le_refl _
    · refine Nat.le_trans (ih j (by omega)) ?_
      by_cases p : P k
      · rw [cntP_t p]; omega
      · rw [cntP_f p]; exact Nat.le_refl _
theorem cnt_inj {P : Nat → Prop} {w w' : Nat} (h : P w) (h' : P w') (e : cntP P w = cntP P w') : w = w' := by
  rcases Nat.lt_trichotomy w w' with q | q | q
  · have := cnt_mono (P := P) w' (w + 1) (by omega)
    rw [cntP_t h] at this; omega
  · exact q
  · have := cnt_mono (P := P) w (w' + 1) (by omega)
    rw [cntP_t h'] at this; omega
theorem num_eq {P Q : Nat → Prop} {k : Nat} {x r r' : Int32} (hk : k ≤ 100) (h : ∀ w, w < k → (P w ↔ Q w)) (a : numP P k x r) (b : numP Q k x r') : r = r' := by
  have hc := cnt_iff h
  rcases a with ⟨w, h1, h2, h3, h4⟩ | ⟨h1, h2⟩ <;> rcases b with ⟨w', g1, g2, g3, g4⟩ | ⟨g1, g2⟩
  · have e1 : cntP P w = cntP P w' := by
      have l1 := cntP_le P w
      have l2 := cntP_le P w'
      have e0 := hc w' (by omega)
      rw [← e0] at g3
      exact (nI_inj9 (by omega) (by omega)).mp (h3.trans g3.symm)
    rw [h4, g4, cnt_inj h2 ((h w' g1).mpr g2) e1]
  · exact absurd (by rw [← hc w (by omega)]; exact h3) (g2 w h1 ((h w h1).mp h2))
  · exact absurd (by rw [hc w' (by omega)]; exact g3) (h2 w' g1 ((h w' g1).mpr g2))
  · rw [h1, g1]
theorem ld_eq {wc : Nat} {r9 r10 r11 r12 s17 s18 s19 s20 : Nat → Int32} {x1 x2 r r' i1 m7 : Int32} (hk : wc ≤ 100) (e : i1 = m7) (h : WR wc r9 r10 r11 r12 s17 s18 s19 s20) (a : ldM (outC r11 r12 x1) wc x2 (0 ≤ x1 ∧ x1 ≤ i1) r) (b : ldM (outM s19 s20 x1) wc x2 (0 ≤ x1 ∧ x1 ≤ m7) r') : r = r' := by
  subst e
  rcases a with ⟨h1, h2⟩ | ⟨h1, h2⟩ <;> rcases b with ⟨g1, g2⟩ | ⟨g1, g2⟩
  · exact num_eq hk (wr_out h x1) h2 g2
  · exact absurd h1 g1
  · exact absurd g1 h1
  · rw [h2, g2]
theorem li_eq {wc : Nat} {r9 r10 r11 r12 s17 s18 s19 s20 : Nat → Int32} {x1 r r' i1 m7 : Int32} (e : i1 = m7) (h : WR wc r9 r10 r11 r12 s17 s18 s19 s20) (a : okI (nI (cntP (outC r11 r12 x1) wc)) (-1) (0 ≤ x1 ∧ x1 ≤ i1) r) (b : okI (nI (cntP (outM s19 s20 x1) wc)) (-1) (0 ≤ x1 ∧ x1 ≤ m7) r') : r = r' := by
  subst e
  rw [cnt_iff (wr_out h x1) wc (Nat.le_refl _)] at a
  exact okI_eq a b
theorem wg_eq {wc : Nat} {r9 r10 r11 r12 s17 s18 s19 s20 : Nat → Int32} {x1 x2 r r' : Int32} (hk : wc ≤ 100) (h : WR wc r9 r10 r11 r12 s17 s18 s19 s20) (a : (∃ i, i < wc ∧ x1 = nI i ∧ wgP r9 r10 r11 r12 i x2 r) ∨ ((¬ isM wc x1) ∧ r = -1)) (b : (∃ i, i < wc ∧ x1 = nI i ∧ wgP s17 s18 s19 s20 i x2 r') ∨ ((¬ isM wc x1) ∧ r' = -1)) : r = r' := by
  rcases a with ⟨i, h1, h2, h3⟩ | ⟨h1, h2⟩ <;> rcases b with ⟨j, g1, g2, g3⟩ | ⟨g1, g2⟩
  · have e := (nI_inj9 (by omega) (by omega)).mp (h2.symm.trans g2)
    subst e
    obtain ⟨w1, w2, w3, w4, -⟩ := h i h1
    have key : ∀ {u v : Int32}, u = v → ¬ (0 : Int32) = 1 := fun _ => by decide
    unfold wgP at h3 g3
    rw [w1, w2, w3, w4] at h3
    rcases h3 with ⟨p, q⟩ | ⟨p, q⟩ | ⟨p, q⟩ | ⟨p, q⟩ | ⟨p0, p1, p2, p3, q⟩ <;> rcases g3 with ⟨p', q'⟩ | ⟨p', q'⟩ | ⟨p', q'⟩ | ⟨p', q'⟩ | ⟨p0', p1', p2', p3', q'⟩ <;> first | (rw [q, q']; done) | (exact absurd (p.symm.trans p') (by decide)) | contradiction
  · exact absurd ⟨i, h1, h2⟩ g1
  · exact absurd ⟨j, g1, g2⟩ h1
  · rw [h2, g2]
theorem ca_eq {wc : Nat} {r9 r10 r11 r12 s17 s18 s19 s20 : Nat → Int32} {x1 r r' i1 m7 : Int32} {u u' : Nat → Int32} (h : WR wc r9 r10 r11 r12 s17 s18 s19 s20) (a : (r = 1 ∧ ∃ i, i < wc ∧ x1 = nI i ∧ r12 i = -1 ∧ u = upd r12 i i1) ∨ (r = 0 ∧ (¬ ∃ i, i < wc ∧ x1 = nI i ∧ r12 i = -1) ∧ u = r12)) (b : (r' = 1 ∧ ∃ i, i < wc ∧ x1 = nI i ∧ s20 i < 0 ∧ u' = upd s20 i m7) ∨ (r' = 0 ∧ (¬ ∃ i, i < wc ∧ x1 = nI i ∧ s20 i < 0) ∧ u' = s20)) : r = r' := by
  rcases a with ⟨h1, i, h2, h3, h4, -⟩ | ⟨h1, h2, -⟩ <;> rcases b with ⟨g1, j, g2, g3, g4, -⟩ | ⟨g1, g2, -⟩
  · rw [h1, g1]
  · obtain ⟨-, -, -, w4, w5⟩ := h i h2
    exact absurd ⟨i, h2, h3, by rw [← w4]; exact (neg_iff w5).mp h4⟩ g2
  · obtain ⟨-, -, -, w4, w5⟩ := h j g2
    exact absurd ⟨j, g2, g3, (neg_iff w5).mpr (by rw [w4]; exact g4)⟩ h2
  · rw [h1, g1]
