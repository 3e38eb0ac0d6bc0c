/-! THE CLASS'S WAY TO THE ROUND, in numbers. 1000000 stands for never. -/
def leastN (P : Nat → Prop) (v : Nat) : Prop := (v = 1000000 ∨ (P v ∧ v < 1000000)) ∧ ∀ t, P t → v ≤ t
theorem least_le {P : Nat → Prop} {v : Nat} (h : leastN P v) : v ≤ 1000000 := by
  rcases h.1 with q | ⟨-, q⟩ <;> omega
theorem least_no {P : Nat → Prop} (h : ∀ t, ¬ P t) : leastN P 1000000 := ⟨Or.inl rfl, fun t q => absurd q (h t)⟩
theorem least_iff {P Q : Nat → Prop} {v : Nat} (h : leastN P v) (e : ∀ t, P t ↔ Q t) : leastN Q v :=
  ⟨h.1.elim Or.inl (fun q => Or.inr ⟨(e v).mp q.1, q.2⟩), fun t q => h.2 t ((e t).mpr q)⟩
section CLS
variable {op : Nat → Nat → Prop} {wy : Option Nat → Nat → Nat} {wh : Option Nat → Nat} {mn : Nat → Nat} {L : Nat → Prop} {bg lst : Nat}
/-- t: an end of the jobs S, j the last of them -/
def zPE (op : Nat → Nat → Prop) (wy : Option Nat → Nat → Nat) (mn : Nat → Nat) (L : Nat → Prop) (bg lst S j t : Nat) : Prop := L S ∧ ∃ ms, isP S (ms ++ [j]) ∧ orun op wy mn none bg (ms ++ [j]) = some t ∧ t ≤ lst
/-- t: a coming to j behind the jobs S -/
def zPC (op : Nat → Nat → Prop) (wy : Option Nat → Nat → Nat) (mn : Nat → Nat) (bg lst S j t : Nat) : Prop := ∃ ms u, isP S ms ∧ orun op wy mn none bg ms = some u ∧ u ≤ lst ∧ t = u + wy (olast none ms) j
/-- t: a coming behind the jobs S, one of the first k the last, f i the way from it -/
def zPQ (op : Nat → Nat → Prop) (wy : Option Nat → Nat → Nat) (mn : Nat → Nat) (L : Nat → Prop) (bg lst : Nat) (f : Nat → Nat) (k S t : Nat) : Prop := ∃ i u, i < k ∧ zPE op wy mn L bg lst S i u ∧ t = u + f i
/-- t: a minute of being back behind the jobs S -/
def zPB (op : Nat → Nat → Prop) (wy : Option Nat → Nat → Nat) (wh : Option Nat → Nat) (mn : Nat → Nat) (L : Nat → Prop) (bg lst S t : Nat) : Prop := L S ∧ ∃ ms u, isP S ms ∧ orun op wy mn none bg ms = some u ∧ t = u + wh (olast none ms) ∧ t ≤ lst
theorem pq_zero {f : Nat → Nat} {S : Nat} : leastN (zPQ op wy mn L bg lst f 0 S) 1000000 := least_no (fun t ⟨i, u, h, _⟩ => absurd h (Nat.not_lt_zero _))
theorem pq_step {f : Nat → Nat} {k S v w : Nat} (h : leastN (zPQ op wy mn L bg lst f k S) v) (hw : leastN (zPE op wy mn L bg lst S k) w) : leastN (zPQ op wy mn L bg lst f (k + 1) S) (min v (w + f k)) := by
  refine ⟨?_, ?_⟩
  · rcases Nat.lt_or_ge (w + f k) v with q | q
    · rw [Nat.min_eq_right (Nat.le_of_lt q)]
      have := least_le h
      rcases hw.1 with e | ⟨e1, e2⟩
      · omega
      · exact Or.inr ⟨⟨k, w, by omega, e1, rfl⟩, by omega⟩
    · rw [Nat.min_eq_left q]
      rcases h.1 with e | ⟨⟨i, u, e1, e2, e3⟩, e4⟩
      · exact Or.inl e
      · exact Or.inr ⟨⟨i, u, by omega, e2, e3⟩, e4⟩
  · rintro t ⟨i, u, h1, h2, h3⟩
    rcases Nat.lt_or_ge i k with q | q
    · have := h.2 t ⟨i, u, q, h2, h3⟩
      exact Nat.le_trans (Nat.min_le_left _ _) this
    · have e : i = k := by omega
      subst e
      have := hw.2 u h2
      exact Nat.le_trans (Nat.min_le_right _ _) (by omega)
theorem pe_bit {S j t : Nat} (h : zPE op wy mn L bg lst S j t) : S.testBit j = true := by
  obtain ⟨-, ms, h1, -⟩ := h
  exact ((isP_snoc ms S).mp h1).1
theorem pe_no {S j : Nat} (h : ¬ L S ∨ ¬ S.testBit j = true) : leastN (zPE op wy mn L bg lst S j) 1000000 :=
  least_no (fun t q => h.elim (fun z => z q.1) (fun z => z (pe_bit q)))
theorem pq_skip {f : Nat → Nat} {k S v : Nat} (h : leastN (zPQ op wy mn L bg lst f k S) v) (hk : ¬ S.testBit k = true) : leastN (zPQ op wy mn L bg lst f (k + 1) S) v := by
  refine least_iff h (fun t => ⟨fun ⟨i, u, h1, h2⟩ => ⟨i, u, by omega, h2⟩, fun ⟨i, u, h1, h2, h3⟩ => ⟨i, u, ?_, h2, h3⟩⟩)
  have : i ≠ k := fun e => hk (by rw [← e]; exact pe_bit h2)
  omega
theorem pc_pq {S j cc t : Nat} (hS : S ≠ 0) (hS2 : S < 2 ^ cc) (hL : L S) : zPQ op wy mn L bg lst (fun i => wy (some i) j) cc S t ↔ zPC op wy mn bg lst S j t := by
  constructor
  · rintro ⟨i, u, h1, ⟨-, ms, h2, h3, h4⟩, h5⟩
    exact ⟨ms ++ [i], u, h2, h3, h4, by rw [olast_snoc]; exact h5⟩
  · rintro ⟨ms, u, h1, h2, h3, h4⟩
    rcases lst_end ms with rfl | ⟨p, i, rfl⟩
    · exact absurd h1 hS
    · rw [olast_snoc] at h4
      exact ⟨i, u, xb_m hS2 ((isP_snoc p S).mp h1).1, ⟨hL, p, h1, h2, h3⟩, h4⟩
theorem pc_zero {j : Nat} (h1 : bg ≤ lst) (h2 : bg + wy none j < 1000000) : leastN (zPC op wy mn bg lst 0 j) (bg + wy none j) := by
  refine ⟨Or.inr ⟨⟨[], bg, rfl, rfl, h1, rfl⟩, h2⟩, ?_⟩
  rintro t ⟨ms, u, g1, g2, g3, g4⟩
  have := isP_z g1
  subst this
  have g2 : some bg = some u := g2
  cases g2
  rw [g4]
  exact Nat.le_refl _
/-- the first minute not ahead of v at which job j may begin -/
noncomputable def zbv (op : Nat → Nat → Prop) (j v : Nat) : Nat := match bgF op j v with
  | none => 1000000
  | some b => b
theorem bv_s {j v b : Nat} (h : bgF op j v = some b) : zbv op j v = b := by unfold zbv; rw [h]
theorem bv_n {j v : Nat} (h : bgF op j v = none) : zbv op j v = 1000000 := by unfold zbv; rw [h]
theorem bv_lt {j v : Nat} (h : zbv op j v < 1000000) : bgF op j v = some (zbv op j v) := by
  cases q : bgF op j v with
  | none => rw [bv_n q] at h; omega
  | some b => rw [bv_s q]
theorem bv_le (j v : Nat) : zbv op j v ≤ 1000000 := by
  cases q : bgF op j v with
  | none => rw [bv_n q]; exact Nat.le_refl _
  | some b => rw [bv_s q]; have := bgF_lt q; omega
theorem pe_step {S j v : Nat} (hL : L S) (hb : S.testBit j = true) (hl : lst ≤ 1440) (h : leastN (zPC op wy mn bg lst (S ^^^ 2 ^ j) j) v) : leastN (zPE op wy mn L bg lst S j) (if zbv op j v + mn j ≤ lst then zbv op j v + mn j else 1000000) := by
  refine ⟨?_, ?_⟩
  · by_cases c : zbv op j v + mn j ≤ lst
    · rw [if_pos c]
      have h1 := bv_lt (op := op) (j := j) (v := v) (by omega)
      have h2 := bgF_lt h1
      rcases h.1 with e | ⟨⟨ms, u, g1, g2, g3, g4⟩, -⟩
      · omega
      · refine Or.inr ⟨⟨hL, ms, (isP_snoc ms S).mpr ⟨hb, g1⟩, ?_, c⟩, by omega⟩
        exact orun_snoc g2 (by rw [← g4]; exact h1)
    · rw [if_neg c]; exact Or.inl rfl
  · rintro t ⟨-, ms, h1, h2, h3⟩
    obtain ⟨u, b, g1, g2, g3⟩ := orun_snoc_s h2
    have g4 := bgF_lt g2
    have g5 := h.2 _ ⟨ms, u, ((isP_snoc ms S).mp h1).2, g1, by omega, rfl⟩
    obtain ⟨b', g6, g7⟩ := bgF_mono g5 g2
    have g8 := bv_s g6
    rw [g8, if_pos (by omega)]
    omega
theorem pb_zero (h0 : L 0) (h1 : bg ≤ lst) (h2 : lst ≤ 1440) (hw : wh none = 0) : leastN (zPB op wy wh mn L bg lst 0) bg := by
  refine ⟨Or.inr ⟨⟨h0, [], bg, rfl, rfl, ?_, h1⟩, by omega⟩, ?_⟩
  · show bg = bg + wh none
    rw [hw]; rfl
  · rintro t ⟨-, ms, u, g1, g2, g3, g4⟩
    have := isP_z g1
    subst this
    have g2 : some bg = some u := g2
    cases g2
    rw [g3]
    exact Nat.le_add_right _ _
theorem pb_step {S cc v : Nat} (hS : S ≠ 0) (hS2 : S < 2 ^ cc) (hl : lst ≤ 1440) (h : leastN (zPQ op wy mn L bg lst (fun i => wh (some i)) cc S) v) : leastN (zPB op wy wh mn L bg lst S) (if v ≤ lst then v else 1000000) := by
  refine ⟨?_, ?_⟩
  · by_cases c : v ≤ lst
    · rw [if_pos c]
      rcases h.1 with e | ⟨⟨i, u, g1, ⟨g2, ms, g3, g4, g5⟩, g6⟩, g7⟩
      · omega
      · exact Or.inr ⟨⟨g2, ms ++ [i], u, g3, g4, by rw [olast_snoc]; exact g6, c⟩, g7⟩
    · rw [if_neg c]; exact Or.inl rfl
  · rintro t ⟨hL, ms, u, g1, g2, g3, g4⟩
    rcases lst_end ms with rfl | ⟨p, i, rfl⟩
    · exact absurd g1 hS
    · rw [olast_snoc] at g3
      have := h.2 t ⟨i, u, xb_m hS2 ((isP_snoc p S).mp g1).1, ⟨hL, p, g1, g2, by omega⟩, g3⟩
      rw [if_pos (by omega)]
      exact this
end CLS
/-- the best of the first k sets -/
def zCB (w b : Nat → Nat) (k W B : Nat) : Prop := (∃ S, S < k ∧ b S = B ∧ B ≠ 1000000 ∧ w S = W) ∧ ∀ S, S < k → b S ≠ 1000000 → w S < W ∨ (w S = W ∧ B ≤ b S)
theorem cb_start {w b : Nat → Nat} (h : b 0 ≠ 1000000) : zCB w b 1 (w 0) (b 0) := by
  refine ⟨⟨0, by decide, rfl, h, rfl⟩, fun S hS _ => ?_⟩
  have e : S = 0 := by omega
  subst e
  exact Or.inr ⟨rfl, Nat.le_refl _⟩
theorem cb_no {w b : Nat → Nat} {k W B : Nat} (h : zCB w b k W B) (hn : b k = 1000000 ∨ ¬ (W < w k ∨ (w k = W ∧ b k < B))) : zCB w b (k + 1) W B := by
  obtain ⟨⟨S, h1, h2⟩, h3⟩ := h
  refine ⟨⟨S, by omega, h2⟩, fun S' hS' hb => ?_⟩
  rcases Nat.lt_or_ge S' k with q | q
  · exact h3 S' q hb
  · have e : S' = k := by omega
    subst e
    rcases hn with z | z
    · exact absurd z hb
    · omega
theorem cb_yes {w b : Nat → Nat} {k W B : Nat} (h : zCB w b k W B) (hb : b k ≠ 1000000) (hn : W < w k ∨ (w k = W ∧ b k < B)) : zCB w b (k + 1) (w k) (b k) := by
  obtain ⟨-, h3⟩ := h
  refine ⟨⟨k, by omega, rfl, hb, rfl⟩, fun S' hS' hb' => ?_⟩
  rcases Nat.lt_or_ge S' k with q | q
  · have := h3 S' q hb'
    omega
  · have e : S' = k := by omega
    subst e
    exact Or.inr ⟨rfl, Nat.le_refl _⟩
section LAT
variable {op : Nat → Nat → Prop} {wy : Option Nat → Nat → Nat} {wh : Option Nat → Nat} {mn : Nat → Nat} {B : Nat}
/-- the jobs S can be done from h in minute t on, so that the ship is back at B -/
def zoF (op : Nat → Nat → Prop) (wy : Option Nat → Nat → Nat) (wh : Option Nat → Nat) (mn : Nat → Nat) (B S : Nat) (h : Option Nat) (t : Nat) : Prop := ∃ ms u, isP S ms ∧ orun op wy mn h t ms = some u ∧ u + wh (olast h ms) ≤ B
/-- job m may come next -/
def zoN (op : Nat → Nat → Prop) (wy : Option Nat → Nat → Nat) (wh : Option Nat → Nat) (mn : Nat → Nat) (B S : Nat) (h : Option Nat) (t m : Nat) : Prop := S.testBit m = true ∧ ∃ b, bgF op m (t + wy h m) = some b ∧ zoF op wy wh mn B (S ^^^ 2 ^ m) (some m) (b + mn m)
theorem of_zero {h : Option Nat} {t : Nat} : zoF op wy wh mn B 0 h t ↔ t + wh h ≤ B := by
  constructor
  · rintro ⟨ms, u, h1, h2, h3⟩
    have := isP_z h1
    subst this
    have h2 : some t = some u := h2
    cases h2
    exact h3
  · intro q
    exact ⟨[], t, rfl, rfl, q⟩
theorem of_next {S : Nat} {h : Option Nat} {t : Nat} (hS : S ≠ 0) : zoF op wy wh mn B S h t ↔ ∃ m, zoN op wy wh mn B S h t m := by
  constructor
  · rintro ⟨ms, u, h1, h2, h3⟩
    obtain ⟨m, ns, rfl⟩ := isP_nz hS h1
    obtain ⟨b, h4, h5⟩ := orun_s h2
    exact ⟨m, h1.1, b, h4, ns, u, h1.2, h5, h3⟩
  · rintro ⟨m, h1, b, h2, ms, u, h3, h4, h5⟩
    exact ⟨m :: ms, u, ⟨h1, h3⟩, by rw [orun_c h2]; exact h4, h5⟩
theorem of_mono {S : Nat} {h : Option Nat} {t t' : Nat} (ht : t ≤ t') (q : zoF op wy wh mn B S h t') : zoF op wy wh mn B S h t := by
  obtain ⟨ms, u', h1, h2, h3⟩ := q
  obtain ⟨u, h4, h5⟩ := orun_mono ms ht h2
  exact ⟨ms, u, h1, h4, by omega⟩
def inL (x : Int32) : Prop := -1010000 ≤ x.toInt ∧ x.toInt ≤ 1440
def isL (op : Nat → Nat → Prop) (wy : Option Nat → Nat → Nat) (wh : Option Nat → Nat) (mn : Nat → Nat) (B S : Nat) (h : Option Nat) (x : Int32) : Prop := inL x ∧ ∀ t : Nat, (t : Int) ≤ x.toInt ↔ zoF op wy wh mn B S h t
def isLk (op : Nat → Nat → Prop) (wy : Option Nat → Nat → Nat) (wh : Option Nat → Nat) (mn : Nat → Nat) (B S : Nat) (h : Option Nat) (k : Nat) (x : Int32) : Prop := inL x ∧ ∀ t : Nat, (t : Int) ≤ x.toInt ↔ ∃ m, m < k ∧ zoN op wy wh mn B S h t m
/-- g: the last coming to j from which it may begin not behind y -/
def isU (op : Nat → Nat → Prop) (j : Nat) (y : Int) (g : Int32) : Prop := (-1000000 ≤ g.toInt ∧ g.toInt ≤ 1439) ∧ ∀ c : Nat, (c : Int) ≤ g.toInt ↔ ∃ b, bgF op j c = some b ∧ (b : Int) ≤ y
theorem lk_zero {S : Nat} {h : Option Nat} : isLk op wy wh mn B S h 0 (-1000000) := by
  have e : (-1000000 : Int32).toInt = -1000000 := by decide
  refine ⟨⟨by rw [e]; decide, by rw [e]; decide⟩, fun t => ?_⟩
  rw [e]
  constructor
  · intro q; omega
  · rintro ⟨m, q, -⟩; exact absurd q (Nat.not_lt_zero _)
theorem lk_skip {S k : Nat} {h : Option Nat} {x : Int32} (q : isLk op wy wh mn B S h k x) (hk : ¬ S.testBit k = true) : isLk op wy wh mn B S h (k + 1) x := by
  refine ⟨q.1, fun t => (q.2 t).trans ⟨fun ⟨m, h1, h2⟩ => ⟨m, by omega, h2⟩, fun ⟨m, h1, h2⟩ => ⟨m, ?_, h2⟩⟩⟩
  have : m ≠ k := fun e => hk (by rw [← e]; exact h2.1)
  omega
theorem lk_step {S k : Nat} {h : Option Nat} {x x' g z : Int32} (q : isLk op wy wh mn B S h k x) (hk : S.testBit k = true) (hx : isL op wy wh mn B (S ^^^ 2 ^ k) (some k) x') (hg : isU op k (x'.toInt - (mn k : Int)) g) (hw : wy h k ≤ 2340) (hz : z.toInt = max x.toInt (g.toInt - (wy h k : Int))) : isLk op wy wh mn B S h (k + 1) z := by
  have q1 := q.1
  have g1 := hg.1
  unfold inL at q1
  refine ⟨⟨by omega, by omega⟩, fun t => ?_⟩
  have key : (t : Int) ≤ g.toInt - (wy h k : Int) ↔ zoN op wy wh mn B S h t k := by
    have a1 : (t : Int) ≤ g.toInt - (wy h k : Int) ↔ ((t + wy h k : Nat) : Int) ≤ g.toInt := by omega
    rw [a1, hg.2]
    constructor
    · rintro ⟨b, h1, h2⟩
      exact ⟨hk, b, h1, (hx.2 (b + mn k)).mp (by omega)⟩
    · rintro ⟨-, b, h1, h2⟩
      have := (hx.2 (b + mn k)).mpr h2
      exact ⟨b, h1, by omega⟩
  have a2 : (t : Int) ≤ z.toInt ↔ ((t : Int) ≤ x.toInt ∨ (t : Int) ≤ g.toInt - (wy h k : Int)) := by omega
  rw [a2, q.2 t, key]
  constructor
  · rintro (⟨m, h1, h2⟩ | h1)
    · exact ⟨m, by omega, h2⟩
    · exact ⟨k, by omega, h1⟩
  · rintro ⟨m, h1, h2⟩
    rcases Nat.lt_or_ge m k with z | z
    · exact Or.inl ⟨m, z, h2⟩
    · have e : m = k := by omega
      subst e
      exact Or.inr h2
theorem zlk_end {S cc : Nat} {h : Option Nat} {x : Int32} (hS : S ≠ 0) (hS2 : S < 2 ^ cc) (q : isLk op wy wh mn B S h cc x) : isL op wy wh mn B S h x := by
  refine ⟨q.1, fun t => (q.2 t).trans ?_⟩
  rw [of_next hS]
  exact ⟨fun ⟨m, _, h2⟩ => ⟨m, h2⟩, fun ⟨m, h2⟩ => ⟨m, xb_m hS2 h2.1, h2⟩⟩
theorem l_zero {h : Option Nat} {x : Int32} (hB : B ≤ 1440) (hw : wh h ≤ 2340) (hx : x.toInt = (B : Int) - (wh h : Int)) : isL op wy wh mn B 0 h x := by
  refine ⟨⟨by omega, by omega⟩, fun t => ?_⟩
  rw [of_zero, hx]
  omega
/-- the test of lowestNext -/
theorem l_test {S m t : Nat} {h : Option Nat} {x : Int32} (hb : S.testBit m = true) (hx : isL op wy wh mn B (S ^^^ 2 ^ m) (some m) x) : ((zbv op m (t + wy h m) + mn m : Nat) : Int) ≤ x.toInt ↔ zoN op wy wh mn B S h t m := by
  have h1 := hx.1
  unfold inL at h1
  constructor
  · intro q
    have h2 := bv_lt (op := op) (j := m) (v := t + wy h m) (by omega)
    exact ⟨hb, _, h2, (hx.2 _).mp q⟩
  · rintro ⟨-, b, h2, h3⟩
    rw [bv_s h2]
    exact (hx.2 _).mpr h3
end LAT
section TRY
variable {op : Nat → Nat → Prop} {wy : Option Nat → Nat → Nat} {wh : Option Nat → Nat} {mn : Nat → Nat} {B bg : Nat}
/-- a way to do the jobs S that is back at B -/
def zoK (op : Nat → Nat → Prop) (wy : Option Nat → Nat → Nat) (wh : Option Nat → Nat) (mn : Nat → Nat) (B bg S : Nat) (ms : List Nat) : Prop := isP S ms ∧ ∃ u, orun op wy mn none bg ms = some u ∧ u + wh (olast none ms) ≤ B
/-- what holds while the first order of the jobs S is sought: p found, R left -/
def zTF (op : Nat → Nat → Prop) (wy : Option Nat → Nat → Nat) (wh : Option Nat → Nat) (mn : Nat → Nat) (B bg S : Nat) (p : List Nat) (R : Nat) (h : Option Nat) (t : Nat) : Prop := (∀ ms, isP R ms ↔ isP S (p ++ ms)) ∧ h = olast none p ∧ orun op wy mn none bg p = some t ∧ zoF op wy wh mn B R h t ∧ ∀ ms, zoK op wy wh mn B bg S ms → (∃ r, ms = p ++ r) ∨ ∀ r, zlx (p ++ r) ms
theorem tf_start {S : Nat} (h : zoF op wy wh mn B S none bg) : zTF op wy wh mn B bg S [] S none bg :=
  ⟨fun _ => Iff.rfl, rfl, rfl, h, fun ms _ => Or.inl ⟨ms, rfl⟩⟩
theorem tf_xor {S R m : Nat} {p : List Nat} (h : ∀ ms, isP R ms ↔ isP S (p ++ ms)) (hm : R.testBit m = true) : ∀ ms, isP (R ^^^ 2 ^ m) ms ↔ isP S ((p ++ [m]) ++ ms) := by
  intro ms
  have e : (p ++ [m]) ++ ms = p ++ (m :: ms) := by rw [List.append_assoc]; rfl
  rw [e, ← h (m :: ms)]
  exact ⟨fun q => ⟨hm, q⟩, fun q => q.2⟩
theorem tf_next {S R t : Nat} {p : List Nat} {h : Option Nat} (q : zTF op wy wh mn B bg S p R h t) (hR : R ≠ 0) : ∃ m, zoN op wy wh mn B R h t m := (of_next hR).mp q.2.2.2.1
theorem tf_step {S R t m b : Nat} {p : List Nat} {h : Option Nat} (q : zTF op wy wh mn B bg S p R h t) (hb : bgF op m (t + wy h m) = some b) (hm : zoN op wy wh mn B R h t m) (hl : ∀ m', m' < m → ¬ zoN op wy wh mn B R h t m') : zTF op wy wh mn B bg S (p ++ [m]) (R ^^^ 2 ^ m) (some m) (b + mn m) := by
  obtain ⟨q1, q2, q3, q4, q5⟩ := q
  subst q2
  obtain ⟨m1, b', m2, m3⟩ := hm
  rw [hb] at m2
  cases m2
  refine ⟨tf_xor q1 m1, olast_snoc.symm, orun_snoc q3 hb, m3, fun ms hk => ?_⟩
  rcases q5 ms hk with ⟨r, rfl⟩ | z
  · obtain ⟨k1, u, k2, k3⟩ := hk
    have k1 := (q1 r).mpr k1
    obtain ⟨a, r', rfl⟩ := isP_nz (fun e => by rw [e, Nat.zero_testBit] at m1; cases m1) k1
    obtain ⟨u', k4, k5⟩ := orun_app_s p k2
    rw [q3] at k4
    cases k4
    obtain ⟨b2, k6, k7⟩ := orun_s k5
    have ha : zoN op wy wh mn B R (olast none p) t a := ⟨k1.1, b2, k6, r', u, k1.2, k7, by rw [olast_app] at k3; exact k3⟩
    rcases Nat.lt_trichotomy a m with z | z | z
    · exact absurd ha (hl a z)
    · subst z
      exact Or.inl ⟨r', by rw [List.append_assoc]; rfl⟩
    · refine Or.inr (fun s => ?_)
      rw [List.append_assoc]
      exact lx_app p _ _ (Or.inl z)
  · exact Or.inr (fun s => by rw [List.append_assoc]; exact z _)
theorem tf_end {S t : Nat} {p : List Nat} {h : Option Nat} (q : zTF op wy wh mn B bg S p 0 h t) : zoK op wy wh mn B bg S p ∧ ∀ ms, zoK op wy wh mn B bg S ms → zlx p ms := by
  obtain ⟨q1, q2, q3, q4, q5⟩ := q
  have hp : isP S p := by
    have := (q1 []).mp rfl
    rw [List.append_nil] at this
    exact this
  refine ⟨⟨hp, t, q3, ?_⟩, fun ms hk => ?_⟩
  · rw [← q2]; exact of_zero.mp q4
  · rcases q5 ms hk with ⟨r, rfl⟩ | z
    · have := isP_z ((q1 r).mpr hk.1)
      subst this
      rw [List.append_nil]
      exact lx_refl p
    · have := z []
      rw [List.append_nil] at this
      exact this
theorem tf_len {S R t n : Nat} {p : List Nat} {h : Option Nat} (q : zTF op wy wh mn B bg S p R h t) (hS : S < 2 ^ n) : p.length ≤ n ∧ (R ≠ 0 → p.length + 1 ≤ n) := by
  obtain ⟨q1, -, -, ⟨ms, u, h1, -⟩, -⟩ := q
  have h2 := isP_len _ ((q1 ms).mp h1) hS
  rw [List.length_append] at h2
  refine ⟨by omega, fun hR => ?_⟩
  obtain ⟨m, ns, rfl⟩ := isP_nz hR h1
  have : (m :: ns).length = ns.length + 1 := rfl
  omega
theorem tf_lt {S R t n : Nat} {p : List Nat} {h : Option Nat} (q : zTF op wy wh mn B bg S p R h t) (hS : S < 2 ^ n) : R < 2 ^ n := by
  obtain ⟨q1, -, -, ⟨ms, u, h1, -⟩, -⟩ := q
  have h2 := (q1 ms).mp h1
  rw [← isP_set h1]
  refine oset_lt ms (fun m hm => ?_)
  exact xb_m hS (((isP_mem _ h2).2 m).mp (List.mem_append.mpr (Or.inr hm)))
/-- the first order of all sets below k that are candidates: none yet, or O -/
def zCO (op : Nat → Nat → Prop) (wy : Option Nat → Nat → Nat) (wh : Option Nat → Nat) (mn : Nat → Nat) (B bg : Nat) (Z : Nat → Prop) (k : Nat) (o : Option (List Nat)) : Prop := (o = none ∧ ∀ S, S < k → ¬ Z S) ∨ ∃ O S, o = some O ∧ S < k ∧ Z S ∧ zoK op wy wh mn B bg S O ∧ ∀ S' ms, S' < k → Z S' → zoK op wy wh mn B bg S' ms → zlx O ms
theorem co_start {Z : Nat → Prop} : zCO op wy wh mn B bg Z 0 none := Or.inl ⟨rfl, fun S h => absurd h (Nat.not_lt_zero _)⟩
theorem co_skip {Z : Nat → Prop} {k : Nat} {o : Option (List Nat)} (h : zCO op wy wh mn B bg Z k o) (hz : ¬ Z k) : zCO op wy wh mn B bg Z (k + 1) o := by
  have key : ∀ S, S < k + 1 → Z S → S < k := fun S h1 h2 => by
    have : S ≠ k := fun e => hz (by rw [← e]; exact h2)
    omega
  rcases h with ⟨h1, h2⟩ | ⟨O, S, h1, h2, h3, h4, h5⟩
  · exact Or.inl ⟨h1, fun S a b => h2 S (key S a b) b⟩
  · exact Or.inr ⟨O, S, h1, by omega, h3, h4, fun S' ms a b c => h5 S' ms (key S' a b) b c⟩
theorem co_new {Z : Nat → Prop} {k : Nat} {o : Option (List Nat)} {T : List Nat} (h : zCO op wy wh mn B bg Z k o) (hz : Z k) (hT : zoK op wy wh mn B bg k T) (hl : ∀ ms, zoK op wy wh mn B bg k ms → zlx T ms) (ho : ∀ O, o = some O → zlx T O) : zCO op wy wh mn B bg Z (k + 1) (some T) := by
  refine Or.inr ⟨T, k, rfl, by omega, hz, hT, fun S' ms a b c => ?_⟩
  rcases Nat.lt_or_ge S' k with q | q
  · rcases h with ⟨h1, h2⟩ | ⟨O, S, h1, h2, h3, h4, h5⟩
    · exact absurd b (h2 S' q)
    · exact lx_trans _ _ _ (ho O h1) (h5 S' ms q b c)
  · have e : S' = k := by omega
    subst e
    exact hl ms c
theorem co_old {Z : Nat → Prop} {k : Nat} {O T : List Nat} (h : zCO op wy wh mn B bg Z k (some O)) (hl : ∀ ms, zoK op wy wh mn B bg k ms → zlx T ms) (ho : zlx O T) : zCO op wy wh mn B bg Z (k + 1) (some O) := by
  rcases h with ⟨h1, h2⟩ | ⟨O', S, h1, h2, h3, h4, h5⟩
  · cases h1
  · cases h1
    refine Or.inr ⟨O, S, rfl, by omega, h3, h4, fun S' ms a b c => ?_⟩
    rcases Nat.lt_or_ge S' k with q | q
    · exact h5 S' ms q b c
    · have e : S' = k := by omega
      subst e
      exact lx_trans _ _ _ ho (hl ms c)
end TRY
