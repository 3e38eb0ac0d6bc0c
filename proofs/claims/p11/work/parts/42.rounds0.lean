def vset (g : Nat → Nat → Int32) (k : Nat) (f : Nat → Int32) : Nat → Nat → Int32 := fun j => if j = k then f else g j
theorem cntP_le (P : Nat → Prop) : ∀ k, cntP P k ≤ k := by
  intro k
  induction k with
  | zero => exact Nat.le_refl _
  | succ k ih =>
    by_cases h : P k
    · rw [cntP_t h]; omega
    · rw [cntP_f h]; omega
theorem cntP_congr {P Q : Nat → Prop} : ∀ k, (∀ j, j < k → (P j ↔ Q j)) → cntP P k = cntP Q k := by
  intro k
  induction k with
  | zero => intro _; rfl
  | succ k ih =>
    intro h
    have h1 := ih (fun j hj => h j (by omega))
    by_cases hp : P k
    · rw [cntP_t hp, cntP_t ((h k (by omega)).mp hp), h1]
    · rw [cntP_f hp, cntP_f (fun q => hp ((h k (by omega)).mpr q)), h1]
theorem cnt_bit {S m : Nat} : ∀ n0, m < n0 → S.testBit m = false → cntP (fun j => (S ||| 2 ^ m).testBit j = true) n0 = cntP (fun j => S.testBit j = true) n0 + 1 := by
  intro n0
  induction n0 with
  | zero => intro h; exact absurd h (Nat.not_lt_zero _)
  | succ k ih =>
    intro h hb
    by_cases e : m = k
    · subst e
      have h1 : (S ||| 2 ^ m).testBit m = true := by rw [Nat.testBit_or, Nat.testBit_two_pow_self]; simp
      rw [cntP_t (P := fun j => (S ||| 2 ^ m).testBit j = true) h1, cntP_f (P := fun j => S.testBit j = true) (show ¬ S.testBit m = true by rw [hb]; decide)]
      rw [cntP_congr (P := fun j => (S ||| 2 ^ m).testBit j = true) (Q := fun j => S.testBit j = true) m (fun j hj => by
        show (S ||| 2 ^ m).testBit j = true ↔ S.testBit j = true
        rw [Nat.testBit_or, Nat.testBit_two_pow_of_ne (by omega), Bool.or_false])]
    · have h2 := ih (by omega) hb
      have h3 : (S ||| 2 ^ m).testBit k = S.testBit k := by rw [Nat.testBit_or, Nat.testBit_two_pow_of_ne e, Bool.or_false]
      by_cases hk : S.testBit k = true
      · rw [cntP_t (P := fun j => (S ||| 2 ^ m).testBit j = true) (show (S ||| 2 ^ m).testBit k = true by rw [h3]; exact hk), cntP_t (P := fun j => S.testBit j = true) hk, h2]
      · rw [cntP_f (P := fun j => (S ||| 2 ^ m).testBit j = true) (show ¬ (S ||| 2 ^ m).testBit k = true by rw [h3]; exact hk), cntP_f (P := fun j => S.testBit j = true) hk, h2]
theorem fRel_some {p : Nat × Nat} {x y : Int32} (h : fRel (some p) x y) : x = nI p.1 ∧ y = nI p.2 := ⟨h.1, (h.2 p rfl).1⟩
theorem fRel_eq {f : Option (Nat × Nat)} {p : Nat × Nat} {x y : Int32} (h : fRel f x y) (hx : x = nI p.1) (hy : y = nI p.2) (h1 : p.1 ≤ 10000) (h2 : p.2 ≤ 5000) : f = some p := by
  cases f with
  | none =>
    have h3 : x = -1 := h.1
    rw [hx] at h3
    have := nI_gt_m1 (n := p.1) (by omega)
    rw [h3] at this
    exact (Int32.lt_irrefl this).elim
  | some q =>
    obtain ⟨e1, e2⟩ := fRel_some h
    obtain ⟨-, b1, b2⟩ := h.2 q rfl
    rw [hx] at e1
    rw [hy] at e2
    have g1 := (nI_eq (by omega) (by omega)).mp e1
    have g2 := (nI_eq (by omega) (by omega)).mp e2
    exact congrArg some (Prod.ext g1.symm g2.symm)
theorem best_bound {w : Nat → Nat} {wh : Option Nat → Nat} {lst : Nat} {Q : DS → Prop} {p : Nat × Nat} (h : BestOf w wh lst Q (some p)) : p.2 ≤ lst := by
  obtain ⟨τ, -, h2, rfl⟩ := h.1 p rfl
  exact h2
theorem best_wt {w : Nat → Nat} {wh : Option Nat → Nat} {lst M : Nat} {dz : DZ} {σ : DS} {p : Nat × Nat} (hz : dzOk dz M) (h : BestOf w wh lst (dR dz σ) (some p)) (hs : σ.1 < 2 ^ M) (hw : ∀ S, S < 2 ^ M → w S ≤ 10000) : p.1 ≤ 10000 := by
  obtain ⟨τ, h1, h2, rfl⟩ := h.1 p rfl
  exact hw _ (dR_lt hz h1 hs)
