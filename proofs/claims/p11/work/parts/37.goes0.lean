theorem eLe_trans {E E' E'' : ET} (h : eLe E E') (h2 : eLe E' E'') : eLe E E'' := by
  intro S l t ht
  obtain ⟨t', e1, e2⟩ := h S l t ht
  obtain ⟨t'', e3, e4⟩ := h2 S l t' e1
  exact ⟨t'', e3, Nat.le_trans e4 e2⟩
theorem eSt_inv {dz : DZ} {M : Nat} (hz : dzOk dz M) {σ : DS} {E : ET} {Z : DS → Nat → Prop} {K : Nat} {a : Option Nat} {t : Nat} (hs : eSound dz σ E) (hc : eCmp dz σ Z E) (hr : dR dz σ (K, a, t)) (hm : ∀ ρ, dR dz σ ρ → ρ.1 = K → ρ.2.1 = a → t ≤ ρ.2.2) :
    ∀ k, eSound dz σ (eSt dz E K a t k) ∧ eLe E (eSt dz E K a t k) ∧ eCmp dz σ (fun ρ m => Z ρ m ∨ (ρ.1 = K ∧ ρ.2.1 = a ∧ m < k)) (eSt dz E K a t k) ∧ ∀ l, eSt dz E K a t k K l = E K l := by
  intro k
  induction k with
  | zero =>
    refine ⟨hs, eLe_refl E, ?_, fun _ => rfl⟩
    intro ρ m τ h1 h2 h3
    rcases h2 with h2 | ⟨-, -, h2⟩
    · exact hc ρ m τ h1 h2 h3
    · exact absurd h2 (Nat.not_lt_zero _)
  | succ k ih =>
    obtain ⟨i1, i2, i3, i4⟩ := ih
    cases hk : dz K a t k with
    | none =>
      rw [eSt_none hk]
      refine ⟨i1, i2, ?_, i4⟩
      intro ρ m τ h1 h2 h3
      rcases h2 with h2 | ⟨g1, g2, g3⟩
      · exact i3 ρ m τ h1 (Or.inl h2) h3
      · rcases Nat.lt_or_ge m k with q | q
        · exact i3 ρ m τ h1 (Or.inr ⟨g1, g2, q⟩) h3
        · have e : m = k := by omega
          subst e
          obtain ⟨u, hu, -⟩ := dstep_some.mp h3
          rw [g1, g2] at hu
          obtain ⟨u', hu', -⟩ := hz.2 _ _ _ _ _ _ (hm ρ h1 g1 g2) hu
          rw [hk] at hu'
          cases hu'
    | some u =>
      rw [eSt_some hk]
      have hst : dstep dz (K, a, t) k = some (K ||| 2 ^ k, some k, u) := dstep_some.mpr ⟨u, hk, rfl⟩
      have hbit := (hz.1 _ _ _ _ _ hk).2
      refine ⟨eSet_sound i1 (dR_snoc hr hst), eLe_trans i2 (eSet_le _ _ _ _), ?_, ?_⟩
      · intro ρ m τ h1 h2 h3
        rcases h2 with h2 | ⟨g1, g2, g3⟩
        · exact eCmp_le i3 (eSet_le _ _ _ _) ρ m τ h1 (Or.inl h2) h3
        · rcases Nat.lt_or_ge m k with q | q
          · exact eCmp_le i3 (eSet_le _ _ _ _) ρ m τ h1 (Or.inr ⟨g1, g2, q⟩) h3
          · have e : m = k := by omega
            subst e
            obtain ⟨u2, hu2, rfl⟩ := dstep_some.mp h3
            rw [g1, g2] at hu2
            obtain ⟨u', hu', hle⟩ := hz.2 _ _ _ _ _ _ (hm ρ h1 g1 g2) hu2
            rw [hk] at hu'
            cases hu'
            obtain ⟨t2, e1, e2⟩ := eSet_at (eSt dz E K a t m) (K ||| 2 ^ m) m u
            refine ⟨t2, ?_, Nat.le_trans e2 hle⟩
            show eSet _ _ _ _ (ρ.1 ||| 2 ^ m) m = _
            rw [g1]
            exact e1
      · intro l
        rw [eSet_row (Nat.ne_of_lt (or_gt hbit))]
        exact i4 l
abbrev GX : Type := ET × Option (Nat × Nat)
/-- the marks 0 .. l - 1 as last ones of the set K -/
noncomputable def gL (dz : DZ) (wt : Nat → Nat) (wh : Option Nat → Nat) (lst n0 K : Nat) (x : GX) : Nat → GX
  | 0 => x
  | l + 1 => match (gL dz wt wh lst n0 K x l).1 K l with
    | none => gL dz wt wh lst n0 K x l
    | some t => (eSt dz (gL dz wt wh lst n0 K x l).1 K (some l) t n0, fUp lst (gL dz wt wh lst n0 K x l).2 (wt K, t + wh (some l)))
theorem gL_none {dz : DZ} {wt : Nat → Nat} {wh : Option Nat → Nat} {lst n0 K : Nat} {x : GX} {l : Nat} (h : (gL dz wt wh lst n0 K x l).1 K l = none) : gL dz wt wh lst n0 K x (l + 1) = gL dz wt wh lst n0 K x l := by
  show (match (gL dz wt wh lst n0 K x l).1 K l with | none => _ | some t => _) = _
  rw [h]
theorem gL_some {dz : DZ} {wt : Nat → Nat} {wh : Option Nat → Nat} {lst n0 K : Nat} {x : GX} {l t : Nat} (h : (gL dz wt wh lst n0 K x l).1 K l = some t) : gL dz wt wh lst n0 K x (l + 1) = (eSt dz (gL dz wt wh lst n0 K x l).1 K (some l) t n0, fUp lst (gL dz wt wh lst n0 K x l).2 (wt K, t + wh (some l))) := by
  show (match (gL dz wt wh lst n0 K x l).1 K l with | none => _ | some t => _) = _
  rw [h]
noncomputable def gN (dz : DZ) (n0 : Nat) (σ : DS) (K : Nat) (y : GX) : GX := @ite _ (K = σ.1 ∧ σ.2.1 = none) (Classical.propDecidable _) (eSt dz y.1 K none σ.2.2 n0, y.2) y
noncomputable def gK (dz : DZ) (wt : Nat → Nat) (wh : Option Nat → Nat) (lst n0 : Nat) (σ : DS) (K : Nat) (y : GX) : GX := if K &&& σ.1 = σ.1 then gL dz wt wh lst n0 K (gN dz n0 σ K y) n0 else y
noncomputable def gS (dz : DZ) (wt : Nat → Nat) (wh : Option Nat → Nat) (lst n0 : Nat) (σ : DS) (x : GX) : Nat → GX
  | 0 => x
  | j + 1 => gK dz wt wh lst n0 σ (σ.1 + j) (gS dz wt wh lst n0 σ x j)
def gE0 (σ : DS) : ET := fun S l => if σ.2.1 = some l ∧ S = σ.1 then some σ.2.2 else none
noncomputable def goX (dz : DZ) (wt : Nat → Nat) (wh : Option Nat → Nat) (lst n0 : Nat) (σ : DS) : GX := gS dz wt wh lst n0 σ (gE0 σ, fUp lst none (wt σ.1, bkd wh σ)) (2 ^ n0 - σ.1)
def GI (dz : DZ) (wt : Nat → Nat) (wh : Option Nat → Nat) (lst : Nat) (σ : DS) (Z : DS → Prop) (x : GX) : Prop := eSound dz σ x.1 ∧ eStart σ x.1 ∧ eCmp dz σ (fun ρ _ => Z ρ) x.1 ∧ BestOf wt wh lst (fun τ => dR dz σ τ ∧ (τ = σ ∨ (Z τ ∧ τ.2.1 ≠ none))) x.2
theorem dR_none {dz : DZ} {σ τ : DS} (h : dR dz σ τ) (hn : τ.2.1 = none) : τ = σ := by
  rcases dR_last h with rfl | ⟨ρ, m, h1, h2⟩
  · rfl
  · obtain ⟨u, -, rfl⟩ := dstep_some.mp h2
    cases hn
theorem gL_inv {dz : DZ} {wt : Nat → Nat} {wh : Option Nat → Nat} {lst n0 : Nat} (hz : dzOk dz n0) {σ : DS} {K : Nat} {y : GX} (h : GI dz wt wh lst σ (fun ρ => ρ.1 < K ∨ (ρ.1 = K ∧ ρ.2.1 = none)) y) :
    ∀ l, GI dz wt wh lst σ (fun ρ => ρ.1 < K ∨ (ρ.1 = K ∧ (ρ.2.1 = none ∨ ∃ j, j < l ∧ ρ.2.1 = some j))) (gL dz wt wh lst n0 K y l) := by
  intro l
  induction l with
  | zero =>
    obtain ⟨h1, h2, h3, h4⟩ := h
    refine ⟨h1, h2, ?_, ?_⟩
    · intro ρ m τ g1 g2 g3
      rcases g2 with g2 | ⟨g2, g4 | ⟨j, g4, -⟩⟩
      · exact h3 ρ m τ g1 (Or.inl g2) g3
      · exact h3 ρ m τ g1 (Or.inr ⟨g2, g4⟩) g3
      · exact absurd g4 (Nat.not_lt_zero _)
    · refine best_same h4 (fun τ => and_congr_right (fun _ => or_congr_right (and_congr_left (fun hne => ?_))))
      constructor
      · rintro (q | ⟨q1, q2⟩)
        · exact Or.inl q
        · exact Or.inr ⟨q1, Or.inl q2⟩
      · rintro (q | ⟨q1, q2 | ⟨j, q3, -⟩⟩)
        · exact Or.inl q
        · exact Or.inr ⟨q1, q2⟩
        · exact absurd q3 (Nat.not_lt_zero _)
  | succ l ih =>
    obtain ⟨h1, h2, h3, h4⟩ := ih
    have hreach : ∀ τ, dR dz σ τ → τ.1 = K → τ.2.1 = some l → ∃ t, (gL dz wt wh lst n0 K y l).1 K l = some t ∧ t ≤ τ.2.2 := fun τ r1 r2 r3 => by
      have := e_reach hz h3 (K := K) (fun ρ m q => Or.inl q) h2 r1 (Nat.le_of_eq r2) r3
      rw [r2] at this
      exact this
    cases hE : (gL dz wt wh lst n0 K y l).1 K l with
    | none =>
      rw [gL_none hE]
      have hno : ∀ τ, dR dz σ τ → τ.1 = K → τ.2.1 = some l → False := fun τ r1 r2 r3 => by
        obtain ⟨t, e1, -⟩ := hreach τ r1 r2 r3
        rw [hE] at e1
        cases e1
      refine ⟨h1, h2, ?_, ?_⟩
      · intro ρ m τ g1 g2 g3
        rcases g2 with g2 | ⟨g2, g4 | ⟨j, g4, g5⟩⟩
        · exact h3 ρ m τ g1 (Or.inl g2) g3
        · exact h3 ρ m τ g1 (Or.inr ⟨g2, Or.inl g4⟩) g3
        · rcases Nat.lt_or_ge j l with q | q
          · exact h3 ρ m τ g1 (Or.inr ⟨g2, Or.inr ⟨j, q, g5⟩⟩) g3
          · have e : j = l := by omega
            subst e
            exact (hno ρ g1 g2 g5).elim
      · refine best_same h4 (fun τ => and_congr_right (fun r1 => or_congr_right (and_congr_left (fun hne => ?_))))
        constructor
        · rintro (q | ⟨q1, q2 | ⟨j, q3, q4⟩⟩)
          · exact Or.inl q
          · exact Or.inr ⟨q1, Or.inl q2⟩
          · exact Or.inr ⟨q1, Or.inr ⟨j, by omega, q4⟩⟩
        · rintro (q | ⟨q1, q2 | ⟨j, q3, q4⟩⟩)
          · exact Or.inl q
          · exact Or.inr ⟨q1, Or.inl q2⟩
          · rcases Nat.lt_or_ge j l with q | q
            · exact Or.inr ⟨q1, Or.inr ⟨j, q, q4⟩⟩
            · have e : j = l := by omega
              subst e
              exact (hno τ r1 q1 q4).elim
    | some t =>
      rw [gL_some hE]
      have hr : dR dz σ (K, some l, t) := h1 _ _ _ hE
      have hm : ∀ ρ, dR dz σ ρ → ρ.1 = K → ρ.2.1 = some l → t ≤ ρ.2.2 := fun ρ r1 r2 r3 => by
        obtain ⟨t', e1, e2⟩ := hreach ρ r1 r2 r3
        rw [hE] at e1
        cases e1
        exact e2
      obtain ⟨i1, i2, i3, i4⟩ := eSt_inv hz h1 h3 hr hm n0
      refine ⟨i1, eStart_le h2 i2, ?_, ?_⟩
      · intro ρ m τ g1 g2 g3
        rcases g2 with g2 | ⟨g2, g4 | ⟨j, g4, g5⟩⟩
        · exact i3 ρ m τ g1 (Or.inl (Or.inl g2)) g3
        · exact i3 ρ m τ g1 (Or.inl (Or.inr ⟨g2, Or.inl g4⟩)) g3
        · rcases Nat.lt_or_ge j l with q | q
          · exact i3 ρ m τ g1 (Or.inl (Or.inr ⟨g2, Or.inr ⟨j, q, g5⟩⟩)) g3
          · have e : j = l := by omega
            subst e
            exact i3 ρ m τ g1 (Or.inr ⟨g2, g5, (dstep_gt hz g3).2.1⟩) g3
      · refine best_up (ρ := (K, some l, t)) h4 ⟨hr, Or.inr ⟨Or.inr ⟨rfl, Or.inr ⟨l, Nat.lt_succ_self l, rfl⟩⟩, fun z => by cases z⟩⟩ ?_ ?_
        · rintro τ ⟨r1, q | ⟨q, hne⟩⟩
          · exact ⟨r1, Or.inl q⟩
          · refine ⟨r1, Or.inr ⟨?_, hne⟩⟩
            rcases q with q | ⟨q1, q2 | ⟨j, q3, q4⟩⟩
            · exact Or.inl q
            · exact Or.inr ⟨q1, Or.inl q2⟩
            · exact Or.inr ⟨q1, Or.inr ⟨j, by omega, q4⟩⟩
        · rintro τ ⟨r1, q | ⟨q, hne⟩⟩
          · exact Or.inl ⟨r1, Or.inl q⟩
          · rcases q with q | ⟨q1, q2 | ⟨j, q3, q4⟩⟩
            · exact Or.inl ⟨r1, Or.inr ⟨Or.inl q, hne⟩⟩
            · exact absurd q2 hne
            · rcases Nat.lt_or_ge j l with z | z
              · exact Or.inl ⟨r1, Or.inr ⟨Or.inr ⟨q1, Or.inr ⟨j, z, q4⟩⟩, hne⟩⟩
              · have e : j = l := by omega
                subst e
                refine Or.inr ⟨q1, ?_⟩
                have := hm τ r1 q1 q4
                unfold bkd
                rw [q4]
                show t + wh (some j) ≤ τ.2.2 + wh (some j)
                omega
theorem gK_inv {dz : DZ} {wt : Nat → Nat} {wh : Option Nat → Nat} {lst n0 : Nat} (hz : dzOk dz n0) {σ : DS} (ha : ∀ i, σ.2.1 = some i → i < n0) {K : Nat} {y : GX} (h : GI dz wt wh lst σ (fun ρ => ρ.1 < K) y) : GI dz wt wh lst σ (fun ρ => ρ.1 < K + 1) (gK dz wt wh lst n0 σ K y) := by
  unfold gK
  by_cases c : K &&& σ.1 = σ.1
  · rw [if_pos c]
    have h' : GI dz wt wh lst σ (fun ρ => ρ.1 < K ∨ (ρ.1 = K ∧ ρ.2.1 = none)) (gN dz n0 σ K y) := by
      obtain ⟨h1, h2, h3, h4⟩ := h
      unfold gN
      by_cases d : K = σ.1 ∧ σ.2.1 = none
      · rw [if_pos d]
        have hσ : (K, none, σ.2.2) = σ := by
          obtain ⟨d1, d2⟩ := d
          rw [d1, ← d2]
        obtain ⟨i1, i2, i3, i4⟩ := eSt_inv hz (K := K) (a := none) (t := σ.2.2) h1 h3 (by rw [hσ]; exact dR_refl) (fun ρ r1 r2 r3 => by rw [dR_none r1 r3]; exact Nat.le_refl _) n0
        refine ⟨i1, eStart_le h2 i2, ?_, ?_⟩
        · intro ρ m τ g1 g2 g3
          rcases g2 with g2 | ⟨g2, g4⟩
          · exact i3 ρ m τ g1 (Or.inl g2) g3
          · exact i3 ρ m τ g1 (Or.inr ⟨g2, g4, (dstep_gt hz g3).2.1⟩) g3
        · refine best_same h4 (fun τ => and_congr_right (fun _ => or_congr_right (and_congr_left (fun hne => ?_))))
          exact ⟨Or.inl, fun q => q.elim id (fun z => absurd z.2 hne)⟩
      · rw [if_neg d]
        refine ⟨h1, h2, ?_, ?_⟩
        · intro ρ m τ g1 g2 g3
          rcases g2 with g2 | ⟨g2, g4⟩
          · exact h3 ρ m τ g1 g2 g3
          · have := dR_none g1 g4
            subst this
            exact (d ⟨g2.symm, g4⟩).elim
        · refine best_same h4 (fun τ => and_congr_right (fun _ => or_congr_right (and_congr_left (fun hne => ?_))))
          exact ⟨Or.inl, fun q => q.elim id (fun z => absurd z.2 hne)⟩
    obtain ⟨h1, h2, h3, h4⟩ := gL_inv (n0 := n0) hz h' n0
    have hlast : ∀ ρ, dR dz σ ρ → ρ.1 = K → ρ.2.1 = none ∨ ∃ j, j < n0 ∧ ρ.2.1 = some j := fun ρ r1 _ => by
      cases hρ : ρ.2.1 with
      | none => exact Or.inl rfl
      | some j =>
        refine Or.inr ⟨j, ?_, rfl⟩
        rcases dR_last r1 with rfl | ⟨κ, m, _, k2⟩
        · exact ha j hρ
        · obtain ⟨-, k3, -, k4⟩ := dstep_gt hz k2
          rw [hρ] at k4
          cases k4
          exact k3
    refine ⟨h1, h2, ?_, ?_⟩
    · intro ρ m τ g1 g2 g3
      rcases Nat.lt_or_ge ρ.1 K with q | q
      · exact h3 ρ m τ g1 (Or.inl q) g3
      · have e : ρ.1 = K := by omega
        exact h3 ρ m τ g1 (Or.inr ⟨e, hlast ρ g1 e⟩) g3
    · refine best_same h4 (fun τ => and_congr_right (fun r1 => or_congr_right (and_congr_left (fun hne => ?_))))
      constructor
      · rintro (q | ⟨q, -⟩) <;> omega
      · intro q
        rcases Nat.lt_or_ge τ.1 K with z | z
        · exact Or.inl z
        · have e : τ.1 = K := by omega
          exact Or.inr ⟨e, hlast τ r1 e⟩
  · rw [if_neg c]
    obtain ⟨h1, h2, h3, h4⟩ := h
    have hno : ∀ ρ, dR dz σ ρ → ρ.1 ≠ K := fun ρ r1 e => c (by have := dR_and hz r1; rw [e] at this; exact this)
    refine ⟨h1, h2, ?_, ?_⟩
    · intro ρ m τ g1 g2 g3
      have := hno ρ g1
      exact h3 ρ m τ g1 (by omega) g3
    · refine best_same h4 (fun τ => and_congr_right (fun r1 => or_congr_right (and_congr_left (fun hne => ?_))))
      have := hno τ r1
      constructor <;> intro q <;> omega
theorem gS_inv {dz : DZ} {wt : Nat → Nat} {wh : Option Nat → Nat} {lst n0 : Nat} (hz : dzOk dz n0) {σ : DS} (ha : ∀ i, σ.2.1 = some i → i < n0) : ∀ j, GI dz wt wh lst σ (fun ρ => ρ.1 < σ.1 + j) (gS dz wt wh lst n0 σ (gE0 σ, fUp lst none (wt σ.1, bkd wh σ)) j) := by
  intro j
  induction j with
  | zero =>
    refine ⟨?_, ?_, ?_, ?_⟩
    · intro S l t ht
      have ht : (if σ.2.1 = some l ∧ S = σ.1 then some σ.2.2 else none) = some t := ht
      by_cases q : σ.2.1 = some l ∧ S = σ.1
      · rw [if_pos q] at ht
        cases ht
        obtain ⟨q1, q2⟩ := q
        rw [q2, ← q1]
        exact dR_refl
      · rw [if_neg q] at ht
        cases ht
    · intro l hl
      refine ⟨σ.2.2, ?_, Nat.le_refl _⟩
      show (if σ.2.1 = some l ∧ σ.1 = σ.1 then some σ.2.2 else none) = _
      rw [if_pos ⟨hl, rfl⟩]
    · intro ρ m τ g1 g2 g3
      rcases dR_ge hz g1 with rfl | q
      · exact absurd g2 (Nat.lt_irrefl _)
      · have g2 : ρ.1 < σ.1 + 0 := g2
        omega
    · have h0 : BestOf wt wh lst (fun _ => False) none := ⟨fun p hp => (by cases hp), fun τ hf => False.elim hf⟩
      refine best_up (ρ := σ) h0 ⟨dR_refl, Or.inl rfl⟩ (fun τ hf => False.elim hf) ?_
      rintro τ ⟨r1, rfl | ⟨q, -⟩⟩
      · exact Or.inr ⟨rfl, Nat.le_refl _⟩
      · rcases dR_ge hz r1 with rfl | z
        · exact Or.inr ⟨rfl, Nat.le_refl _⟩
        · have q : τ.1 < σ.1 + 0 := q
          omega
  | succ j ih => exact gK_inv hz ha ih
/-- what goesOn finds is the best of all ways to go on -/
theorem goX_best {dz : DZ} {wt : Nat → Nat} {wh : Option Nat → Nat} {lst n0 : Nat} (hz : dzOk dz n0) {σ : DS} (ha : ∀ i, σ.2.1 = some i → i < n0) (hs : σ.1 < 2 ^ n0) : BestOf wt wh lst (dR dz σ) (goX dz wt wh lst n0 σ).2 := by
  obtain ⟨-, -, -, h4⟩ := gS_inv (wt := wt) (wh := wh) (lst := lst) hz ha (2 ^ n0 - σ.1)
  refine best_same h4 (fun τ => ⟨fun q => q.1, fun r => ⟨r, ?_⟩⟩)
  by_cases e : τ = σ
  · exact Or.inl e
  · refine Or.inr ⟨?_, fun hn => e (dR_none r hn)⟩
    have := dR_lt hz r hs
    show τ.1 < σ.1 + (2 ^ n0 - σ.1)
    omega
