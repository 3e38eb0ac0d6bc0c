/-! THE REFERENCE'S WAY TO THE ROUND, in numbers: a state is (set of marks done, the last of them or none, the minute); dz S a t m: when mark m is done if it comes next, none if it can't. -/
abbrev DS : Type := Nat × Option Nat × Nat
abbrev DZ : Type := Nat → Option Nat → Nat → Nat → Option Nat
def dstep (dz : DZ) (σ : DS) (m : Nat) : Option DS := match dz σ.1 σ.2.1 σ.2.2 m with
  | none => none
  | some u => some (σ.1 ||| 2 ^ m, some m, u)
def drun (dz : DZ) : List Nat → DS → Option DS
  | [], σ => some σ
  | m :: ms, σ => match dstep dz σ m with
    | none => none
    | some ρ => drun dz ms ρ
def dR (dz : DZ) (σ τ : DS) : Prop := ∃ ms, drun dz ms σ = some τ
theorem dstep_some {dz : DZ} {σ τ : DS} {m : Nat} : dstep dz σ m = some τ ↔ ∃ u, dz σ.1 σ.2.1 σ.2.2 m = some u ∧ τ = (σ.1 ||| 2 ^ m, some m, u) := by
  unfold dstep
  cases h : dz σ.1 σ.2.1 σ.2.2 m with
  | none => simp
  | some u =>
    constructor
    · intro q
      exact ⟨u, rfl, (Option.some.inj q).symm⟩
    · rintro ⟨u', hu, rfl⟩
      rw [Option.some.inj hu]
theorem dR_refl {dz : DZ} {σ : DS} : dR dz σ σ := ⟨[], rfl⟩
theorem dR_step {dz : DZ} {σ ρ τ : DS} {m : Nat} (h : dstep dz σ m = some ρ) (h2 : dR dz ρ τ) : dR dz σ τ := by
  obtain ⟨ms, hm⟩ := h2
  exact ⟨m :: ms, by simp only [drun, h]; exact hm⟩
theorem dR_cases {dz : DZ} {σ τ : DS} (h : dR dz σ τ) : τ = σ ∨ ∃ m ρ, dstep dz σ m = some ρ ∧ dR dz ρ τ := by
  obtain ⟨ms, hm⟩ := h
  cases ms with
  | nil => exact Or.inl (Option.some.inj hm).symm
  | cons m ms =>
    simp only [drun] at hm
    cases hs : dstep dz σ m with
    | none => rw [hs] at hm; cases hm
    | some ρ =>
      rw [hs] at hm
      exact Or.inr ⟨m, ρ, hs, ms, hm⟩
theorem dR_last_aux {dz : DZ} {τ : DS} : ∀ (ms : List Nat) (σ : DS), drun dz ms σ = some τ → τ = σ ∨ ∃ ρ m, dR dz σ ρ ∧ dstep dz ρ m = some τ := by
  intro ms
  induction ms with
  | nil => intro σ h; exact Or.inl (Option.some.inj h).symm
  | cons m ms ih =>
    intro σ h
    simp only [drun] at h
    cases hs : dstep dz σ m with
    | none => rw [hs] at h; cases h
    | some ρ =>
      rw [hs] at h
      rcases ih ρ h with rfl | ⟨ρ', m', hr, hst⟩
      · exact Or.inr ⟨σ, m, dR_refl, hs⟩
      · exact Or.inr ⟨ρ', m', dR_step hs hr, hst⟩
theorem dR_last {dz : DZ} {σ τ : DS} (h : dR dz σ τ) : τ = σ ∨ ∃ ρ m, dR dz σ ρ ∧ dstep dz ρ m = some τ := by
  obtain ⟨ms, hm⟩ := h
  exact dR_last_aux ms σ hm
theorem dR_trans {dz : DZ} {σ ρ τ : DS} (h : dR dz σ ρ) (h2 : dR dz ρ τ) : dR dz σ τ := by
  obtain ⟨ms, hm⟩ := h
  induction ms generalizing σ with
  | nil => cases hm; exact h2
  | cons m ms ih =>
    simp only [drun] at hm
    cases hs : dstep dz σ m with
    | none => rw [hs] at hm; cases hm
    | some κ =>
      rw [hs] at hm
      exact dR_step hs (ih hm)
theorem dR_snoc {dz : DZ} {σ ρ τ : DS} {m : Nat} (h : dR dz σ ρ) (h2 : dstep dz ρ m = some τ) : dR dz σ τ := dR_trans h (dR_step h2 dR_refl)
/-- what is asked of dz: a mark that is done was not, and is one of M; earlier never ends later -/
def dzOk (dz : DZ) (M : Nat) : Prop := (∀ S a t m u, dz S a t m = some u → m < M ∧ S.testBit m = false) ∧ ∀ S a t t' m u', t ≤ t' → dz S a t' m = some u' → ∃ u, dz S a t m = some u ∧ u ≤ u'
theorem or_gt {S m : Nat} (h : S.testBit m = false) : S < S ||| 2 ^ m := by
  rcases Nat.lt_or_ge S (S ||| 2 ^ m) with q | q
  · exact q
  · exfalso
    have h1 : S ||| 2 ^ m = S := Nat.le_antisymm q Nat.left_le_or
    have h2 : (S ||| 2 ^ m).testBit m = true := by rw [Nat.testBit_or, Nat.testBit_two_pow_self]; simp
    rw [h1, h] at h2
    cases h2
theorem or_lt {S m M : Nat} (hS : S < 2 ^ M) (hm : m < M) : S ||| 2 ^ m < 2 ^ M := Nat.or_lt_two_pow hS (Nat.pow_lt_pow_right (by decide) hm)
theorem dstep_gt {dz : DZ} {M : Nat} (hz : dzOk dz M) {ρ τ : DS} {m : Nat} (h : dstep dz ρ m = some τ) : ρ.1 < τ.1 ∧ m < M ∧ τ.1 = ρ.1 ||| 2 ^ m ∧ τ.2.1 = some m := by
  obtain ⟨u, hu, rfl⟩ := dstep_some.mp h
  obtain ⟨h1, h2⟩ := hz.1 _ _ _ _ _ hu
  exact ⟨or_gt h2, h1, rfl, rfl⟩
theorem dR_lt {dz : DZ} {M : Nat} (hz : dzOk dz M) {σ τ : DS} (h : dR dz σ τ) (hs : σ.1 < 2 ^ M) : τ.1 < 2 ^ M := by
  obtain ⟨ms, hm⟩ := h
  induction ms generalizing σ with
  | nil => cases hm; exact hs
  | cons m ms ih =>
    simp only [drun] at hm
    cases hst : dstep dz σ m with
    | none => rw [hst] at hm; cases hm
    | some κ =>
      rw [hst] at hm
      obtain ⟨-, h2, h3, -⟩ := dstep_gt hz hst
      exact ih (by rw [h3]; exact or_lt hs h2) hm
theorem dR_ge {dz : DZ} {M : Nat} (hz : dzOk dz M) {σ τ : DS} (h : dR dz σ τ) : τ = σ ∨ σ.1 < τ.1 := by
  obtain ⟨ms, hm⟩ := h
  induction ms generalizing σ with
  | nil => cases hm; exact Or.inl rfl
  | cons m ms ih =>
    simp only [drun] at hm
    cases hst : dstep dz σ m with
    | none => rw [hst] at hm; cases hm
    | some κ =>
      rw [hst] at hm
      obtain ⟨h1, -⟩ := dstep_gt hz hst
      rcases ih hm with rfl | q
      · exact Or.inr h1
      · exact Or.inr (Nat.lt_trans h1 q)
/-- bits that are there stay -/
theorem dR_and {dz : DZ} {M : Nat} (hz : dzOk dz M) {σ τ : DS} (h : dR dz σ τ) : τ.1 &&& σ.1 = σ.1 := by
  obtain ⟨ms, hm⟩ := h
  induction ms generalizing σ with
  | nil => cases hm; exact Nat.and_self _
  | cons m ms ih =>
    simp only [drun] at hm
    cases hst : dstep dz σ m with
    | none => rw [hst] at hm; cases hm
    | some κ =>
      rw [hst] at hm
      obtain ⟨-, -, h3, -⟩ := dstep_gt hz hst
      have h4 := ih hm
      rw [h3] at h4
      apply Nat.eq_of_testBit_eq
      intro i
      have h5 := congrArg (fun z => z.testBit i) h4
      simp only [Nat.testBit_and, Nat.testBit_or] at h5 ⊢
      cases h6 : σ.1.testBit i
      · simp
      · rw [h6] at h5; simpa using h5
/-- the earliest minutes that are known: E S l -/
abbrev ET : Type := Nat → Nat → Option Nat
def eLe (E E' : ET) : Prop := ∀ S l t, E S l = some t → ∃ t', E' S l = some t' ∧ t' ≤ t
def eSound (dz : DZ) (σ : DS) (E : ET) : Prop := ∀ S l t, E S l = some t → dR dz σ (S, some l, t)
/-- steps out of the states Z are served -/
def eCmp (dz : DZ) (σ : DS) (Z : DS → Nat → Prop) (E : ET) : Prop := ∀ ρ m τ, dR dz σ ρ → Z ρ m → dstep dz ρ m = some τ → ∃ t, E τ.1 m = some t ∧ t ≤ τ.2.2
def eStart (σ : DS) (E : ET) : Prop := ∀ l, σ.2.1 = some l → ∃ t, E σ.1 l = some t ∧ t ≤ σ.2.2
theorem eLe_refl (E : ET) : eLe E E := fun _ _ t h => ⟨t, h, Nat.le_refl _⟩
theorem eCmp_le {dz : DZ} {σ : DS} {Z : DS → Nat → Prop} {E E' : ET} (h : eCmp dz σ Z E) (hl : eLe E E') : eCmp dz σ Z E' := by
  intro ρ m τ h1 h2 h3
  obtain ⟨t, e1, e2⟩ := h ρ m τ h1 h2 h3
  obtain ⟨t', e3, e4⟩ := hl _ _ _ e1
  exact ⟨t', e3, Nat.le_trans e4 e2⟩
theorem eStart_le {σ : DS} {E E' : ET} (h : eStart σ E) (hl : eLe E E') : eStart σ E' := by
  intro l hσ
  obtain ⟨t, e1, e2⟩ := h l hσ
  obtain ⟨t', e3, e4⟩ := hl _ _ _ e1
  exact ⟨t', e3, Nat.le_trans e4 e2⟩
/-- all states below the set K served: the row of K is known -/
theorem e_reach {dz : DZ} {M K : Nat} (hz : dzOk dz M) {σ : DS} {E : ET} {Z : DS → Nat → Prop} (hC : eCmp dz σ Z E) (hZ : ∀ ρ m, ρ.1 < K → Z ρ m) (hS : eStart σ E) {τ : DS} {l : Nat} (hR : dR dz σ τ) (hK : τ.1 ≤ K) (hl : τ.2.1 = some l) : ∃ t, E τ.1 l = some t ∧ t ≤ τ.2.2 := by
  rcases dR_last hR with rfl | ⟨ρ, m, h1, h2⟩
  · exact hS l hl
  · obtain ⟨g1, g2, g3, g4⟩ := dstep_gt hz h2
    have : m = l := by rw [hl] at g4; exact (Option.some.inj g4).symm
    subst this
    exact hC ρ m τ h1 (hZ ρ m (by omega)) h2
/-- one entry written: the earlier of two -/
def eSet (E : ET) (S l u : Nat) : ET := fun S' l' => if S' = S ∧ l' = l then (match E S l with | none => some u | some t => some (min u t)) else E S' l'
theorem eSet_le (E : ET) (S l u : Nat) : eLe E (eSet E S l u) := by
  intro S' l' t h
  unfold eSet
  by_cases q : S' = S ∧ l' = l
  · obtain ⟨rfl, rfl⟩ := q
    rw [if_pos ⟨rfl, rfl⟩, h]
    exact ⟨_, rfl, Nat.min_le_right _ _⟩
  · rw [if_neg q]
    exact ⟨t, h, Nat.le_refl _⟩
theorem eSet_at (E : ET) (S l u : Nat) : ∃ t, eSet E S l u S l = some t ∧ t ≤ u := by
  unfold eSet
  rw [if_pos ⟨rfl, rfl⟩]
  cases E S l with
  | none => exact ⟨u, rfl, Nat.le_refl _⟩
  | some t => exact ⟨_, rfl, Nat.min_le_left _ _⟩
theorem eSet_sound {dz : DZ} {σ : DS} {E : ET} {S l u : Nat} (h : eSound dz σ E) (hu : dR dz σ (S, some l, u)) : eSound dz σ (eSet E S l u) := by
  intro S' l' t ht
  unfold eSet at ht
  by_cases q : S' = S ∧ l' = l
  · obtain ⟨rfl, rfl⟩ := q
    rw [if_pos ⟨rfl, rfl⟩] at ht
    cases hE : E S' l' with
    | none => rw [hE] at ht; cases ht; exact hu
    | some t0 =>
      rw [hE] at ht
      have ht : some (min u t0) = some t := ht
      rcases Nat.le_total u t0 with g | g
      · rw [Nat.min_eq_left g] at ht; cases ht; exact hu
      · rw [Nat.min_eq_right g] at ht; cases ht; exact h _ _ _ hE
  · rw [if_neg q] at ht
    exact h _ _ _ ht
theorem eSet_row {E : ET} {S l u K j : Nat} (h : K ≠ S) : eSet E S l u K j = E K j := by
  unfold eSet
  rw [if_neg (fun q => h q.1)]
/-- the best that was found: weight, then the minute of being back -/
def better (a b : Nat × Nat) : Prop := b.1 < a.1 ∨ (a.1 = b.1 ∧ a.2 < b.2)
def bkd (wh : Option Nat → Nat) (τ : DS) : Nat := τ.2.2 + wh τ.2.1
def BestOf (w : Nat → Nat) (wh : Option Nat → Nat) (last : Nat) (Q : DS → Prop) (f : Option (Nat × Nat)) : Prop := (∀ p, f = some p → ∃ τ, Q τ ∧ bkd wh τ ≤ last ∧ p = (w τ.1, bkd wh τ)) ∧ ∀ τ, Q τ → bkd wh τ ≤ last → ∃ p, f = some p ∧ ¬ better (w τ.1, bkd wh τ) p
theorem best_uniq {w : Nat → Nat} {wh : Option Nat → Nat} {last : Nat} {Q : DS → Prop} {f g : Option (Nat × Nat)} (hf : BestOf w wh last Q f) (hg : BestOf w wh last Q g) : f = g := by
  cases f with
  | none =>
    cases g with
    | none => rfl
    | some q =>
      obtain ⟨τ, h1, h2, -⟩ := hg.1 q rfl
      obtain ⟨p, h3, -⟩ := hf.2 τ h1 h2
      cases h3
  | some p =>
    obtain ⟨τ, h1, h2, h3⟩ := hf.1 p rfl
    obtain ⟨q, h4, h5⟩ := hg.2 τ h1 h2
    obtain ⟨τ', g1, g2, g3⟩ := hg.1 q h4
    obtain ⟨p', g4, g5⟩ := hf.2 τ' g1 g2
    cases g4
    rw [h4]
    rw [← h3] at h5
    rw [← g3] at g5
    unfold better at h5 g5
    have e1 : p.1 = q.1 := by omega
    have e2 : p.2 = q.2 := by omega
    exact congrArg some (Prod.ext e1 e2)
theorem best_next {dz : DZ} {w : Nat → Nat} {wh : Option Nat → Nat} {last : Nat} {σ : DS} {p : Nat × Nat} (hB : BestOf w wh last (dR dz σ) (some p)) (hlt : w σ.1 < p.1) : ∃ m ρ, dstep dz σ m = some ρ ∧ BestOf w wh last (dR dz ρ) (some p) := by
  obtain ⟨τ, h1, h2, h3⟩ := hB.1 p rfl
  rcases dR_cases h1 with rfl | ⟨m, ρ, hs, hr⟩
  · rw [h3] at hlt
    exact absurd hlt (Nat.lt_irrefl _)
  · refine ⟨m, ρ, hs, fun q hq => ?_, fun τ' h4 h5 => hB.2 τ' (dR_step hs h4) h5⟩
    cases hq
    exact ⟨τ, hr, h2, h3⟩
/-- one more state looked at -/
noncomputable def fUp (last : Nat) (f : Option (Nat × Nat)) (p : Nat × Nat) : Option (Nat × Nat) := @ite _ (p.2 ≤ last ∧ ∀ q, f = some q → better p q) (Classical.propDecidable _) (some p) f
theorem best_up {w : Nat → Nat} {wh : Option Nat → Nat} {last : Nat} {Q Q' : DS → Prop} {f : Option (Nat × Nat)} {ρ : DS} (h : BestOf w wh last Q f) (hρ : Q' ρ) (hQ : ∀ τ, Q τ → Q' τ) (hn : ∀ τ, Q' τ → Q τ ∨ (τ.1 = ρ.1 ∧ bkd wh ρ ≤ bkd wh τ)) : BestOf w wh last Q' (fUp last f (w ρ.1, bkd wh ρ)) := by
  unfold fUp
  by_cases c : bkd wh ρ ≤ last ∧ ∀ q, f = some q → better (w ρ.1, bkd wh ρ) q
  · rw [if_pos c]
    refine ⟨fun p hp => ?_, fun τ h1 h2 => ⟨_, rfl, ?_⟩⟩
    · cases hp
      exact ⟨ρ, hρ, c.1, rfl⟩
    · rcases hn τ h1 with g | ⟨g1, g2⟩
      · obtain ⟨q, e1, e2⟩ := h.2 τ g h2
        have e3 := c.2 q e1
        unfold better at e2 e3 ⊢
        simp only at e2 e3 ⊢
        omega
      · unfold better
        simp only [g1]
        omega
  · rw [if_neg c]
    refine ⟨fun p hp => ?_, fun τ h1 h2 => ?_⟩
    · obtain ⟨τ, e1, e2, e3⟩ := h.1 p hp
      exact ⟨τ, hQ τ e1, e2, e3⟩
    · rcases hn τ h1 with g | ⟨g1, g2⟩
      · exact h.2 τ g h2
      · have c2 : ¬ ∀ q, f = some q → better (w ρ.1, bkd wh ρ) q := fun z => c ⟨by omega, z⟩
        cases hf : f with
        | none => exact absurd (fun q hq => by rw [hf] at hq; cases hq) c2
        | some q =>
          refine ⟨q, rfl, fun b => c2 (fun q' hq' => ?_)⟩
          rw [hf] at hq'
          cases hq'
          unfold better at b ⊢
          simp only [g1] at b ⊢
          omega
theorem best_same {w : Nat → Nat} {wh : Option Nat → Nat} {last : Nat} {Q Q' : DS → Prop} {f : Option (Nat × Nat)} (h : BestOf w wh last Q f) (hQ : ∀ τ, Q τ ↔ Q' τ) : BestOf w wh last Q' f :=
  ⟨fun p hp => by obtain ⟨τ, e1, e2, e3⟩ := h.1 p hp; exact ⟨τ, (hQ τ).mp e1, e2, e3⟩, fun τ h1 h2 => h.2 τ ((hQ τ).mpr h1) h2⟩
