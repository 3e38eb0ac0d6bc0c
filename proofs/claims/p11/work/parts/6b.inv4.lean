theorem ck_chain {n0 T : Nat} {mv : Nat → Nat → Int32} {x1 x2 x3 x4 r : Int32} {u : Nat → Nat → Int32} (hp : (r = 1 ∧ (isM n0 x1 ∧ (1 ≤ x2 ∧ x2 ≤ 1000) ∧ (0 ≤ x3 ∧ x3 ≤ x2) ∧ (0 ≤ x4 ∧ x4 ≤ 3)) ∧ ∃ i, i < n0 ∧ x1 = nI i ∧ u = mup (mup (mup (mup (mup mv i 9 1) i 10 x2) i 11 x3) i 12 x4) i 13 (nI (T / 30))) ∨ (r = 0 ∧ ¬ (isM n0 x1 ∧ (1 ≤ x2 ∧ x2 ≤ 1000) ∧ (0 ≤ x3 ∧ x3 ≤ x2) ∧ (0 ≤ x4 ∧ x4 ≤ 3)) ∧ u = mv)) : ∀ i q, (q < 9 ∨ 13 < q) → u i q = mv i q := fun i q hq => by
  rcases hp with ⟨-, -, j, -, -, rfl⟩ | ⟨-, -, rfl⟩
  · rw [mup_k (by omega), mup_k (by omega), mup_k (by omega), mup_k (by omega), mup_k (by omega)]
  · rfl
theorem ck_job {n0 : Nat} {iv : Nat → Int32} {mv : Nat → Nat → Int32} {x1 x2 x3 x4 r : Int32} {u : Int32 × (Nat → Nat → Int32)} (hp : (r = 1 ∧ (isM n0 x1 ∧ (0 ≤ x2 ∧ x2 ≤ 600) ∧ (0 ≤ x3 ∧ x3 ≤ 1000) ∧ (0 ≤ x4 ∧ x4 ≤ 1000)) ∧ ∃ i, i < n0 ∧ x1 = nI i ∧ u = (0, mup (mup (mup mv i 3 x2) i 4 x3) i 5 x4)) ∨ (r = 0 ∧ ¬ (isM n0 x1 ∧ (0 ≤ x2 ∧ x2 ≤ 600) ∧ (0 ≤ x3 ∧ x3 ≤ 1000) ∧ (0 ≤ x4 ∧ x4 ≤ 1000)) ∧ u = (iv 3, mv))) : ∀ i q, (q < 3 ∨ 5 < q) → u.2 i q = mv i q := fun i q hq => by
  rcases hp with ⟨-, -, j, -, -, rfl⟩ | ⟨-, -, rfl⟩
  · dsimp only; rw [mup_k (by omega), mup_k (by omega), mup_k (by omega)]
  · rfl
theorem ck_light {n0 : Nat} {near x1 x2 x3 r p : Int32} {mv mrs mv' mrs' : Nat → Nat → Int32} {pf : Nat → Int32} (hp : ltC n0 near mv mrs x1 x2 x3 r p pf mv' mrs') : ∀ i q, (q < 14 ∨ 14 < q) → mv' i q = mv i q := fun i q hq => by
  rcases hp with ⟨-, ⟨-, j, -, -, -, rfl, -⟩ | ⟨-, j, -, -, -, -, -, -, -, rfl, -⟩ | ⟨-, -, rfl, -⟩⟩
  · rw [mup_k (by omega)]
  · rw [mup_k (by omega)]
  · rfl
theorem ie_light {n0 : Nat} {near x1 x2 x3 r p i19 : Int32} {mv mrs mv' mrs' : Nat → Nat → Int32} {pf u13 u14 : Nat → Int32} (h : IE n0 mv i19) (hp : ltC n0 near mv mrs x1 x2 x3 r p pf mv' mrs') (hr : XR n0 mv' mrs' u13 u14) : IE n0 mv' p :=
  ⟨fun i hi => by rw [ck_light hp i 13 (by omega)]; exact h.1 i hi, fun i hi => by
    obtain ⟨-, q, h1, -, h2, -⟩ := hr.1 i hi
    exact ⟨q, h1, h2⟩, hp.1⟩
theorem xk_si {n0 T : Nat} {mv : Nat → Nat → Int32} {i1 : Int32} {r3 s8 s9 s10 s11 s12 : Nat → Int32} (hT8 : i1 = nI T) (hT : T ≤ 10000) (h : XK n0 mv i1 r3 s8 s9 s10 s11 s12) : ∀ i, i < n0 → ∃ c g, c ≤ 333 ∧ g ≤ 3 ∧ mv i 13 = nI c ∧ mv i 12 = nI g ∧ c ≤ T / 30 := fun i hi => by
  obtain ⟨c, g, a1, a2, a3, a4, a5, -⟩ := h.2.2 i hi
  rw [hT8] at a5
  have := (nI_leI (by omega) (by omega)).mp a5
  exact ⟨c, g, a1, a2, a3, a4, by omega⟩
theorem xk_ch {n0 T : Nat} {mv : Nat → Nat → Int32} {i1 : Int32} {r3 s8 s9 s10 s11 s12 : Nat → Int32} (hT8 : i1 = nI T) (hT : T ≤ 10000) (h : XK n0 mv i1 r3 s8 s9 s10 s11 s12) : ∀ i, i < 10 → s8 i = -1 ∨ ∃ c, c ≤ 333 ∧ c ≤ T / 30 ∧ s8 i = nI c := fun i hi => by
  rcases Nat.lt_or_ge i n0 with q | q
  · obtain ⟨c, g, a1, a2, a3, a4, a5, a6⟩ := h.2.2 i q
    rw [hT8] at a5
    have := (nI_leI (by omega) (by omega)).mp a5
    rcases a6 with ⟨-, b⟩ | ⟨-, b, -⟩
    · exact Or.inl b
    · exact Or.inr ⟨c, a1, by omega, b.trans a3⟩
  · exact Or.inl (h.2.1 i q hi)
theorem ix_start {mv mrs : Nat → Nat → Int32} {fc : Nat → Int32} (hc : ∀ i, i < 10 → fc i = -1) : IX 0 mv mrs ivS (fun _ _ => 0) miS (mavS fc) :=
  ⟨rfl, fun i hi => absurd hi (Nat.not_lt_zero _), ⟨fun i hi => absurd hi (Nat.not_lt_zero _), fun _ _ _ => rfl⟩, ⟨fun i hi => absurd hi (Nat.not_lt_zero _), fun _ _ _ => rfl, rfl⟩, ⟨fun _ _ => rfl, fun i _ hi => hc i hi, fun i hi => absurd hi (Nat.not_lt_zero _)⟩⟩
theorem ab_ans {a0 a1 a2 a3 a4 a5 b0 b1 b2 b3 b4 b5 x r r' : Int32} (e0 : a0 = b0) (e1 : a1 = b1) (e2 : a2 = b2) (e3 : a3 = b3) (e4 : a4 = b4) (e5 : a5 = b5) (h : abP a0 a1 a2 a3 a4 a5 x r) (h' : abP b0 b1 b2 b3 b4 b5 x r') : r = r' := by
  subst e0; subst e1; subst e2; subst e3; subst e4; subst e5
  exact ab_un h h'
