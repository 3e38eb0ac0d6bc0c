/-- what 'steps' makes of the earliest minutes: marks 0 .. k - 1 tried -/
def eSt (dz : DZ) (E : ET) (S : Nat) (a : Option Nat) (t : Nat) : Nat → ET
  | 0 => E
  | k + 1 => match dz S a t k with
    | none => eSt dz E S a t k
    | some u => eSet (eSt dz E S a t k) (S ||| 2 ^ k) k u
theorem eSt_none {dz : DZ} {E : ET} {S : Nat} {a : Option Nat} {t k : Nat} (h : dz S a t k = none) : eSt dz E S a t (k + 1) = eSt dz E S a t k := by
  show (match dz S a t k with | none => _ | some u => _) = _
  rw [h]
theorem eSt_some {dz : DZ} {E : ET} {S : Nat} {a : Option Nat} {t k u : Nat} (h : dz S a t k = some u) : eSt dz E S a t (k + 1) = eSet (eSt dz E S a t k) (S ||| 2 ^ k) k u := by
  show (match dz S a t k with | none => _ | some u => _) = _
  rw [h]
def eB (E : ET) : Prop := ∀ S l t, E S l = some t → t ≤ 1440
theorem eSet_B {E : ET} {S l u : Nat} (h : eB E) (hu : u ≤ 1440) : eB (eSet E S l u) := by
  intro S' l' t ht
  unfold eSet at ht
  by_cases q : S' = S ∧ l' = l
  · rw [if_pos q] at ht
    cases hE : E S l with
    | none => rw [hE] at ht; cases ht; exact hu
    | some t0 =>
      rw [hE] at ht
      have ht : some (min u t0) = some t := ht
      cases ht
      exact Nat.le_trans (Nat.min_le_left _ _) hu
  · rw [if_neg q] at ht
    exact h _ _ _ ht
theorem eSt_B {dz : DZ} {E : ET} {S : Nat} {a : Option Nat} {t : Nat} (h : eB E) (hd : ∀ S a t k u, dz S a t k = some u → u ≤ 1440) : ∀ k, eB (eSt dz E S a t k) := by
  intro k
  induction k with
  | zero => exact h
  | succ k ih =>
    cases hz : dz S a t k with
    | none => rw [eSt_none hz]; exact ih
    | some u => rw [eSt_some hz]; exact eSet_B ih (hd _ _ _ _ _ hz)
def eRel (f : Nat → Int32) (E : ET) (n0 : Nat) : Prop := ∀ S l, S < 2 ^ n0 → l < 10 → f ((10 * S) + l) = encO (E S l)
theorem eRel_w {f : Nat → Int32} {E : ET} {n0 S l u : Nat} (h : eRel f E n0) (hl : l < 10) (hm : ∀ t, E S l = some t → u < t) : eRel (upd f ((10 * S) + l) (nI u)) (eSet E S l u) n0 := by
  intro S' l' hS' hl'
  unfold eSet
  by_cases q : S' = S ∧ l' = l
  · obtain ⟨rfl, rfl⟩ := q
    rw [pk_us, if_pos ⟨rfl, rfl⟩]
    cases hE : E S' l' with
    | none => rfl
    | some t => show nI u = nI (min u t); rw [Nat.min_eq_left (Nat.le_of_lt (hm t hE))]
  · rw [if_neg q, pk_un (fun e => q (by omega))]
    exact h S' l' hS' hl'
theorem eRel_k {f : Nat → Int32} {E : ET} {n0 S l u t : Nat} (h : eRel f E n0) (hE : E S l = some t) (hm : t ≤ u) : eRel f (eSet E S l u) n0 := by
  intro S' l' hS' hl'
  unfold eSet
  by_cases q : S' = S ∧ l' = l
  · obtain ⟨rfl, rfl⟩ := q
    rw [if_pos ⟨rfl, rfl⟩, h S' l' hS' hl', hE]
    show nI t = nI (min u t)
    rw [Nat.min_eq_right hm]
  · rw [if_neg q]
    exact h S' l' hS' hl'
