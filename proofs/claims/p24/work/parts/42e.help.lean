/-! HOURS: the last open hour below k, the first open hour from h on, as the program has them -/
def lastO (P : Nat → Prop) (k : Nat) (z : Int32) : Prop := (z = -1 ∧ ∀ h, h < k → ¬ P h) ∨ ∃ h1, z = nI h1 ∧ h1 < k ∧ P h1 ∧ ∀ h, h1 < h → h < k → ¬ P h
def firstO (P : Nat → Prop) (k : Nat) (z : Int32) : Prop := (z = -1 ∧ ∀ h, k ≤ h → h < 24 → ¬ P h) ∨ ∃ h1, z = nI h1 ∧ k ≤ h1 ∧ h1 < 24 ∧ P h1 ∧ ∀ h, k ≤ h → h < h1 → ¬ P h
theorem last_zero (P : Nat → Prop) : lastO P 0 (-1) := Or.inl ⟨rfl, fun h q => absurd q (Nat.not_lt_zero _)⟩
theorem last_y {P : Nat → Prop} {k : Nat} (h : P k) : lastO P (k + 1) (nI k) := Or.inr ⟨k, rfl, by omega, h, fun h' a b => by omega⟩
theorem last_n {P : Nat → Prop} {k : Nat} {z : Int32} (q : lastO P k z) (h : ¬ P k) : lastO P (k + 1) z := by
  have key : ∀ h', h' < k + 1 → h' < k ∨ h' = k := fun h' a => by omega
  rcases q with ⟨h1, h2⟩ | ⟨h1, a1, a2, a3, a4⟩
  · refine Or.inl ⟨h1, fun h' a => ?_⟩
    rcases key h' a with b | b
    · exact h2 h' b
    · rw [b]; exact h
  · refine Or.inr ⟨h1, a1, by omega, a3, fun h' b c => ?_⟩
    rcases key h' c with d | d
    · exact a4 h' b d
    · rw [d]; exact h
theorem first_zero (P : Nat → Prop) : firstO P 24 (-1) := Or.inl ⟨rfl, fun h a b => by omega⟩
theorem first_y {P : Nat → Prop} {k : Nat} (hk : k < 24) (h : P k) : firstO P k (nI k) := Or.inr ⟨k, rfl, Nat.le_refl _, hk, h, fun h' a b => by omega⟩
theorem first_n {P : Nat → Prop} {k : Nat} {z : Int32} (q : firstO P (k + 1) z) (h : ¬ P k) : firstO P k z := by
  have key : ∀ h', k ≤ h' → k + 1 ≤ h' ∨ h' = k := fun h' a => by omega
  rcases q with ⟨h1, h2⟩ | ⟨h1, a1, a2, a3, a4, a5⟩
  · refine Or.inl ⟨h1, fun h' a b => ?_⟩
    rcases key h' a with c | c
    · exact h2 h' c b
    · rw [c]; exact h
  · refine Or.inr ⟨h1, a1, by omega, a3, a4, fun h' b c => ?_⟩
    rcases key h' b with d | d
    · exact a5 h' d c
    · rw [d]; exact h
theorem last_iff {P Q : Nat → Prop} {k : Nat} {z : Int32} (e : ∀ h, h < k → (P h ↔ Q h)) (q : lastO P k z) : lastO Q k z := by
  rcases q with ⟨h1, h2⟩ | ⟨h1, a1, a2, a3, a4⟩
  · exact Or.inl ⟨h1, fun h' a b => h2 h' a ((e h' a).mpr b)⟩
  · exact Or.inr ⟨h1, a1, a2, (e h1 a2).mp a3, fun h' b c d => a4 h' b c ((e h' c).mpr d)⟩
theorem first_iff {P Q : Nat → Prop} {k : Nat} {z : Int32} (e : ∀ h, h < 24 → (P h ↔ Q h)) (q : firstO P k z) : firstO Q k z := by
  rcases q with ⟨h1, h2⟩ | ⟨h1, a1, a2, a3, a4, a5⟩
  · exact Or.inl ⟨h1, fun h' a b c => h2 h' a b ((e h' b).mpr c)⟩
  · exact Or.inr ⟨h1, a1, a2, a3, (e h1 a3).mp a4, fun h' b c d => a5 h' b c ((e h' (by omega)).mpr d)⟩
section BV
variable {op : Nat → Nat → Prop} {j t : Nat}
theorem bv_ge (h : 1440 ≤ t) : zbv op j t = 1000000 := by
  cases q : bgF op j t with
  | none => exact bv_n q
  | some b => have := bgF_lt q; omega
theorem bg_some {b : Nat} (h1 : t ≤ b) (h2 : b < 1440) (h3 : op j (b / 60)) (h4 : ∀ k, t ≤ k → k < b → ¬ op j (k / 60)) : bgF op j t = some b := bgP_uniq (bgF_P op j t) (Or.inr ⟨b, rfl, h1, h2, h3, h4⟩)
theorem bg_none (h : ∀ k, t ≤ k → k < 1440 → ¬ op j (k / 60)) : bgF op j t = none := bgP_uniq (bgF_P op j t) (Or.inl ⟨rfl, h⟩)
theorem bv_here (h1 : t < 1440) (h2 : op j (t / 60)) : zbv op j t = t := bv_s (bg_some (Nat.le_refl _) h1 h2 (fun k a b => by omega))
theorem bv_later {h1 : Nat} (a : t / 60 < h1) (b : h1 < 24) (c : op j h1) (d : ∀ h, t / 60 ≤ h → h < h1 → ¬ op j h) : zbv op j t = h1 * 60 := by
  refine bv_s (bg_some (by omega) (by omega) ?_ (fun k e f => d (k / 60) (by omega) (by omega)))
  rw [Nat.mul_div_cancel _ (by decide)]
  exact c
theorem bv_none (d : ∀ h, t / 60 ≤ h → h < 24 → ¬ op j h) : zbv op j t = 1000000 := bv_n (bg_none (fun k e f => d (k / 60) (by omega) (by omega)))
/-- there is a begin from c on that is not behind y -/
theorem bg_upto {c : Nat} {y : Int} : (∃ b, bgF op j c = some b ∧ (b : Int) ≤ y) ↔ ∃ b, c ≤ b ∧ b < 1440 ∧ op j (b / 60) ∧ (b : Int) ≤ y := by
  constructor
  · rintro ⟨b, h1, h2⟩
    rcases bgF_P op j c with ⟨q, -⟩ | ⟨b', q, g1, g2, g3, -⟩
    · rw [q] at h1; cases h1
    · rw [q] at h1; cases h1; exact ⟨b, g1, g2, g3, h2⟩
  · rintro ⟨b, h1, h2, h3, h4⟩
    rcases bgF_P op j c with ⟨q, g1⟩ | ⟨b', q, g1, g2, g3, g4⟩
    · exact absurd h3 (g1 b h1 h2)
    · refine ⟨b', q, ?_⟩
      rcases Nat.lt_or_ge b b' with z | z
      · exact absurd h3 (g4 b h1 z)
      · omega
theorem u_neg {x : Int32} (h : ¬ 0 ≤ x) : isU op j x.toInt (-1000000) := by
  have e : (-1000000 : Int32).toInt = -1000000 := by decide
  have h1 : x.toInt < 0 := by
    have := Int32.not_le.mp h
    rw [Int32.lt_iff_toInt_lt] at this
    exact this
  refine ⟨⟨by rw [e]; decide, by rw [e]; decide⟩, fun c => ?_⟩
  rw [e]
  constructor
  · intro q; omega
  · rintro ⟨b, -, q⟩; omega
theorem u_none (ht : t < 2 ^ 31) (d : ∀ h, h < min t 1439 / 60 + 1 → ¬ op j h) : isU op j (nI t).toInt (-1000000) := by
  have e : (-1000000 : Int32).toInt = -1000000 := by decide
  refine ⟨⟨by rw [e]; decide, by rw [e]; decide⟩, fun c => ?_⟩
  rw [e, bg_upto, nI_toInt ht]
  constructor
  · intro q; omega
  · rintro ⟨b, h1, h2, h3, h4⟩
    exact absurd h3 (d (b / 60) (by omega))
theorem u_here (ht : t < 2 ^ 31) (d : op j (min t 1439 / 60)) : isU op j (nI t).toInt (nI (min t 1439)) := by
  have e : (nI (min t 1439)).toInt = ((min t 1439 : Nat) : Int) := nI_toInt (by omega)
  refine ⟨⟨by rw [e]; omega, by rw [e]; omega⟩, fun c => ?_⟩
  rw [e, bg_upto, nI_toInt ht]
  constructor
  · intro q; exact ⟨min t 1439, by omega, by omega, d, by omega⟩
  · rintro ⟨b, h1, h2, h3, h4⟩; omega
theorem u_back {h1 : Nat} (ht : t < 2 ^ 31) (a : h1 < min t 1439 / 60) (c : op j h1) (d : ∀ h, h1 < h → h < min t 1439 / 60 + 1 → ¬ op j h) : isU op j (nI t).toInt (nI (h1 * 60 + 60 - 1)) := by
  have e : (nI (h1 * 60 + 60 - 1)).toInt = ((h1 * 60 + 60 - 1 : Nat) : Int) := nI_toInt (by omega)
  refine ⟨⟨by rw [e]; omega, by rw [e]; omega⟩, fun c' => ?_⟩
  rw [e, bg_upto, nI_toInt ht]
  constructor
  · intro q
    refine ⟨h1 * 60 + 60 - 1, by omega, by omega, ?_, by omega⟩
    rw [show (h1 * 60 + 60 - 1) / 60 = h1 by omega]
    exact c
  · rintro ⟨b, g1, g2, g3, g4⟩
    rcases Nat.lt_or_ge h1 (b / 60) with q | q
    · exact absurd g3 (d (b / 60) q (by omega))
    · omega
end BV
theorem sm_t {f : Nat → Nat} {S k : Nat} (h : S.testBit k = true) : zsm f S (k + 1) = zsm f S k + f k := by
  show zsm f S k + (if S.testBit k = true then f k else 0) = _
  rw [if_pos h]
theorem sm_f {f : Nat → Nat} {S k : Nat} (h : ¬ S.testBit k = true) : zsm f S (k + 1) = zsm f S k + 0 := by
  show zsm f S k + (if S.testBit k = true then f k else 0) = _
  rw [if_neg h]
theorem wo_all : ∀ j, j < 10 → ∀ S, S < 1024 → S.testBit j = true → nI S &&& (nI (2 ^ j) ^^^ (-1)) = nI (S ^^^ 2 ^ j) := by decide +kernel
theorem nI_min {t b : Nat} (ht : t < 2 ^ 31) (hb : b < 2 ^ 31) : (if nI b < nI t then nI b else nI t) = nI (min t b) := by
  by_cases h : b < t
  · rw [if_pos ((nI_ltI hb ht).mpr h), Nat.min_eq_right (Nat.le_of_lt h)]
  · rw [if_neg (fun q => h ((nI_ltI hb ht).mp q)), Nat.min_eq_left (Nat.le_of_not_lt h)]
theorem abs_ad {a b : Nat} (ha : a < 2 ^ 30) (hb : b < 2 ^ 30) : (if 0 ≤ nI a - nI b then nI a - nI b else 0 - (nI a - nI b)) = nI (ad a b) := by
  by_cases h : 0 ≤ nI a - nI b
  · rw [if_pos h]; exact ad_pos ha hb h
  · rw [if_neg h, Int32.zero_sub]; exact ad_neg ha hb h
theorem nI_max {a b : Nat} (ha : a < 2 ^ 31) (hb : b < 2 ^ 31) : (if nI a < nI b then nI b else nI a) = nI (max a b) := by
  by_cases h : a < b
  · rw [if_pos (nI_lt h hb), Nat.max_eq_right (Nat.le_of_lt h)]
  · rw [if_neg (fun q => h ((nI_ltI ha hb).mp q)), Nat.max_eq_left (Nat.le_of_not_lt h)]
theorem sub_n {x : Int32} {m : Nat} (h1 : -1010000 ≤ x.toInt) (h2 : x.toInt ≤ 1440) (hm : m ≤ 2340) : (x - nI m).toInt = x.toInt - (m : Int) := by
  rw [Int32.toInt_sub, nI_toInt (by omega)]
  apply Int.bmod_eq_of_le_mul_two <;> omega
theorem max_i {x y z : Int32} (h : z = if x < y then y else x) : z.toInt = max x.toInt y.toInt := by
  rw [h]
  by_cases c : x < y
  · rw [if_pos c]
    rw [Int32.lt_iff_toInt_lt] at c
    omega
  · rw [if_neg c]
    rw [Int32.lt_iff_toInt_lt] at c
    omega
theorem le_i {x : Int32} {n : Nat} (hn : n < 2 ^ 31) : (¬ x < nI n) ↔ (n : Int) ≤ x.toInt := by
  rw [Int32.lt_iff_toInt_lt, nI_toInt hn]
  omega
def jbN (n0 : Nat) (pw : Nat → Nat) (m : Nat) : Prop := m < n0 ∧ 0 < pw m
theorem len_s {q m : Nat} {p : List Nat} (h : q = p.length) : q + 1 = (p ++ [m]).length := by rw [List.length_append, h]; rfl
theorem list_at {O p r : List Nat} {k : Nat} (h : O = p ++ r) (hk : k = p.length) (hl : k < List.length O) : ∃ m s, r = m :: s ∧ O.getD k 0 = m := by
  subst h; subst hk
  cases r with
  | nil => rw [List.append_nil] at hl; exact absurd hl (Nat.lt_irrefl _)
  | cons m s =>
    refine ⟨m, s, rfl, ?_⟩
    rw [List.getD_eq_getElem?_getD, List.getElem?_append_right (Nat.le_refl _), Nat.sub_self]
    rfl
theorem list_end {O p r : List Nat} {k : Nat} (h : O = p ++ r) (hk : k = p.length) (hl : List.length O ≤ k) : r = [] := by
  subst h
  rw [List.length_append] at hl
  cases r with
  | nil => rfl
  | cons m s =>
    have : (m :: s).length = s.length + 1 := rfl
    omega
theorem getD_mem {p : List Nat} {k : Nat} (hk : k < List.length p) : p.getD k 0 ∈ p := by
  rw [List.getD_eq_getElem?_getD, List.getElem?_eq_getElem hk]
  exact List.getElem_mem hk
/-- what is told of the steps of the round -/
def rdP (L : Nat) (g1 g2 : Nat → Int32) (x r : Int32) : Prop := (∃ j, j < L ∧ x = nI (100 + j) ∧ r = g1 j) ∨ (∃ j, j < L ∧ x = nI (200 + j) ∧ r = g2 j) ∨ ((∀ j, j < L → ¬ x = nI (100 + j) ∧ ¬ x = nI (200 + j)) ∧ r = -1)
section RD
variable {L : Nat} {g1 g2 : Nat → Int32} {x r : Int32}
theorem rd_1 (j : Nat) (h : j < L) (e : x = nI (100 + j)) (er : r = g1 j) : rdP L g1 g2 x r := Or.inl ⟨j, h, e, er⟩
theorem rd_2 (j : Nat) (h : j < L) (e : x = nI (200 + j)) (er : r = g2 j) : rdP L g1 g2 x r := Or.inr (Or.inl ⟨j, h, e, er⟩)
theorem rd_3 (h : ∀ j, j < L → ¬ x = nI (100 + j) ∧ ¬ x = nI (200 + j)) (er : r = -1) : rdP L g1 g2 x r := Or.inr (Or.inr ⟨h, er⟩)
theorem sub_eq {k j : Nat} (e : x - nI k = nI j) : x = nI (k + j) := by
  rw [← nI_add k j, ← e, Int32.add_comm, Int32.sub_add_cancel]
theorem nlt_no {k j : Nat} (e : x = nI (k + j)) (h : x < nI k) (hk : k + j < 2 ^ 31 := by omega) : False := by
  rw [e] at h
  have := (nI_ltI hk (by omega)).mp h
  omega
theorem nge_no {k j : Nat} (e : x = nI (k + j)) (hj : j < L) (hk : k + L < 2 ^ 31) (h : nI (k + L) ≤ x) : False := by
  rw [e] at h
  have := (nI_leI hk (by omega)).mp h
  omega
end RD
theorem rng_sub {x : Int32} {k L : Nat} (hk : 0 < k) (hb : k + L < 2 ^ 31) (h : nI k ≤ x ∧ x ≤ nI ((k - 1) + L)) : ∃ j, j < L ∧ x - nI k = nI j := by
  obtain ⟨h1, h2⟩ := h
  obtain ⟨j, hj, rfl⟩ := nI_of (x := x) (fun q => nI_pos (n := k) (by omega) (Int32.lt_of_le_of_lt h1 q))
  have g1 := (nI_leI (by omega) hj).mp h1
  have g2 := (nI_leI hj (by omega)).mp h2
  exact ⟨j - k, by omega, pk_sub g1⟩
theorem rng_no {x : Int32} {k L j : Nat} (hk : 0 < k) (hb : k + L < 2 ^ 31) (hj : j < L) (h : ¬ (nI k ≤ x ∧ x ≤ nI ((k - 1) + L))) : ¬ x = nI (k + j) := fun e => h (by
  rw [e]
  exact ⟨nI_le (by omega) (by omega), nI_le (by omega) (by omega)⟩)
/-- what is told of the round -/
def zAN (W B : Nat) (ms bs : List Nat) (ls : Nat) (x r : Int32) : Prop := (x = 0 ∧ r = nI W) ∨ (x = 1 ∧ r = nI B) ∨ (x = 2 ∧ r = nI (List.length ms)) ∨ (x = 3 ∧ r = nI ls) ∨ ((¬ x = 0 ∧ ¬ x = 1 ∧ ¬ x = 2 ∧ ¬ x = 3) ∧ rdP (List.length ms) (fun j => nI (ms.getD j 0)) (fun j => nI (bs.getD j 0)) x r)
section ZAN
variable {W B : Nat} {ms bs : List Nat} {ls : Nat} {x r r' : Int32}
theorem an_0 (h : x = 0) (e : r = nI W) : zAN W B ms bs ls x r := Or.inl ⟨h, e⟩
theorem an_1 (h : x = 1) (e : r = nI B) : zAN W B ms bs ls x r := Or.inr (Or.inl ⟨h, e⟩)
theorem an_2 (h : x = 2) (e : r = nI (List.length ms)) : zAN W B ms bs ls x r := Or.inr (Or.inr (Or.inl ⟨h, e⟩))
theorem an_3 (h : x = 3) (e : r = nI ls) : zAN W B ms bs ls x r := Or.inr (Or.inr (Or.inr (Or.inl ⟨h, e⟩)))
theorem an_4 (h0 : ¬ x = 0) (h1 : ¬ x = 1) (h2 : ¬ x = 2) (h3 : ¬ x = 3) (e : rdP (List.length ms) (fun j => nI (ms.getD j 0)) (fun j => nI (bs.getD j 0)) x r) : zAN W B ms bs ls x r := Or.inr (Or.inr (Or.inr (Or.inr ⟨⟨h0, h1, h2, h3⟩, e⟩)))
theorem rd_un {L : Nat} {g1 g2 : Nat → Int32} (hL : L ≤ 10) (h : rdP L g1 g2 x r) (h' : rdP L g1 g2 x r') : r = r' := by
  have inj : ∀ a b : Nat, a < 2 ^ 20 → b < 2 ^ 20 → nI a = nI b → a = b := fun a b ha hb e => (nI_eq (by omega) (by omega)).mp e
  rcases h with ⟨j, a1, a2, a3⟩ | ⟨j, a1, a2, a3⟩ | ⟨a1, a2⟩ <;> rcases h' with ⟨k, b1, b2, b3⟩ | ⟨k, b1, b2, b3⟩ | ⟨b1, b2⟩
  · have e := inj _ _ (by omega) (by omega) (a2.symm.trans b2)
    have : j = k := by omega
    rw [a3, b3, this]
  · have e := inj _ _ (by omega) (by omega) (a2.symm.trans b2)
    omega
  · exact absurd a2 (b1 j a1).1
  · have e := inj _ _ (by omega) (by omega) (a2.symm.trans b2)
    omega
  · have e := inj _ _ (by omega) (by omega) (a2.symm.trans b2)
    have : j = k := by omega
    rw [a3, b3, this]
  · exact absurd a2 (b1 j a1).2
  · exact absurd b2 (a1 k b1).1
  · exact absurd b2 (a1 k b1).2
  · rw [a2, b2]
theorem an_un (hL : List.length ms ≤ 10) (h : zAN W B ms bs ls x r) (h' : zAN W B ms bs ls x r') : r = r' := by
  rcases h with ⟨p, q⟩ | ⟨p, q⟩ | ⟨p, q⟩ | ⟨p, q⟩ | ⟨⟨p0, p1, p2, p3⟩, q⟩ <;> rcases h' with ⟨p', q'⟩ | ⟨p', q'⟩ | ⟨p', q'⟩ | ⟨p', q'⟩ | ⟨⟨p0', p1', p2', p3'⟩, q'⟩ <;> first | (rw [q, q']; done) | exact rd_un hL q q' | (exact absurd (p.symm.trans p') (by decide)) | contradiction
theorem rd_conv {L : Nat} {g1 g2 g1' g2' : Nat → Int32} (h1 : ∀ j, j < L → g1 j = g1' j) (h2 : ∀ j, j < L → g2 j = g2' j) (h : rdP L g1 g2 x r) : rdP L g1' g2' x r := by
  rcases h with ⟨j, a1, a2, a3⟩ | ⟨j, a1, a2, a3⟩ | h
  · exact Or.inl ⟨j, a1, a2, a3.trans (h1 j a1)⟩
  · exact Or.inr (Or.inl ⟨j, a1, a2, a3.trans (h2 j a1)⟩)
  · exact Or.inr (Or.inr h)
end ZAN
/-- the chart behind a telling of depths: ix x y the place's index; where Q holds it is d, else as it was -/
def ixC (x y : Nat) : Nat := (y * 40) + x
def ixM (x y : Nat) : Nat := (40 * x) + y
def zDp (ix : Nat → Nat → Nat) (Q : Nat → Nat → Prop) (d : Int32) (f0 f : Nat → Int32) : Prop := ∀ x y, x < 40 → y < 40 → (Q x y → f (ix x y) = d) ∧ (¬ Q x y → f (ix x y) = f0 (ix x y))
def zDX (ix : Nat → Nat → Nat) (x1 x2 x3 x4 x5 : Int32) (f0 f : Nat → Int32) : Prop := ∃ dx dy dp dq, x1 = nI dx ∧ x2 = nI dy ∧ x3 = nI dp ∧ x4 = nI dq ∧ dx < 40 ∧ dy < 40 ∧ dp < 40 ∧ dq < 40 ∧ zDp ix (fun x y => (dx ≤ x ∧ x ≤ dp) ∧ dy ≤ y ∧ y ≤ dq) x5 f0 f
section ZDP
variable {ix : Nat → Nat → Nat} {Q Q' : Nat → Nat → Prop} {d : Int32} {f0 f : Nat → Int32}
theorem dp_start (h : ∀ x y, x < 40 → y < 40 → ¬ Q x y) : zDp ix Q d f f := fun x y a b => ⟨fun q => absurd q (h x y a b), fun _ => rfl⟩
theorem dp_iff (h : zDp ix Q d f0 f) (e : ∀ x y, x < 40 → y < 40 → (Q x y ↔ Q' x y)) : zDp ix Q' d f0 f := fun x y a b => ⟨fun q => (h x y a b).1 ((e x y a b).mpr q), fun q => (h x y a b).2 (fun z => q ((e x y a b).mp z))⟩
theorem dp_put {a b : Nat} (hi : ∀ x y, x < 40 → y < 40 → ix x y = ix a b → x = a ∧ y = b) (h : zDp ix Q d f0 f) : zDp ix (fun x y => Q x y ∨ (x = a ∧ y = b)) d f0 (upd f (ix a b) d) := fun x y p q => by
  by_cases e : ix x y = ix a b
  · have e2 := hi x y p q e
    refine ⟨fun _ => by rw [e, pk_us], fun z => absurd (Or.inr e2) z⟩
  · rw [pk_un e]
    refine ⟨fun z => ?_, fun z => (h x y p q).2 (fun y => z (Or.inl y))⟩
    rcases z with z | ⟨z1, z2⟩
    · exact (h x y p q).1 z
    · exact absurd (by rw [z1, z2]) e
end ZDP
