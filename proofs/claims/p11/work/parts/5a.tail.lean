/-- one number of one mark changed -/
def mup (mv : Nat → Nat → Int32) (i k : Nat) (v : Int32) : Nat → Nat → Int32 := fun j q => if q = k then (if j = i then v else mv j q) else mv j q
theorem mup_s {mv : Nat → Nat → Int32} {i k : Nat} {v : Int32} : mup mv i k v i k = v := by
  show (if k = k then (if i = i then v else mv i k) else mv i k) = v
  rw [if_pos rfl, if_pos rfl]
theorem mup_k {mv : Nat → Nat → Int32} {i k j q : Nat} {v : Int32} (h : q ≠ k) : mup mv i k v j q = mv j q := by
  show (if q = k then (if j = i then v else mv j q) else mv j q) = mv j q
  rw [if_neg h]
theorem mup_j {mv : Nat → Nat → Int32} {i k j q : Nat} {v : Int32} (h : j ≠ i) : mup mv i k v j q = mv j q := by
  show (if q = k then (if j = i then v else mv j q) else mv j q) = mv j q
  by_cases e : q = k
  · rw [if_pos e, if_neg h]
  · rw [if_neg e]
/-- one row of one mark changed -/
def rup {α : Type} (f : Nat → α) (i : Nat) (g : α) : Nat → α := fun j => if j = i then g else f j
theorem rup_s {α : Type} {f : Nat → α} {i : Nat} {g : α} : rup f i g i = g := by
  show (if i = i then g else f i) = g
  rw [if_pos rfl]
theorem rup_j {α : Type} {f : Nat → α} {i j : Nat} {g : α} (h : j ≠ i) : rup f i g j = f j := by
  show (if j = i then g else f j) = f j
  rw [if_neg h]
section TAILS
variable {cI cJ : Nat} {ma : Nat → Nat → Nat} {mv mv' : Nat → Nat → Int32} {mso mso' : Nat → Nat → Int64} {mrs mrs' : Nat → Nat → Int32}
theorem MKc_congr {j : Nat} (h : (∀ q, mv' j q = mv j q) ∧ mso' j = mso j ∧ mrs' j = mrs j) : MKc cI cJ ma mv' mso' mrs' j = MKc cI cJ ma mv mso mrs j := by
  obtain ⟨h1, h2, h3⟩ := h
  unfold MKc
  rw [h1, h1, h1, h1, h1, h1, h1, h1, h1, h1, h1, h1, h1, h1, h1, h2, h3]
theorem mg_congr : ∀ n, (∀ j, j < n → (∀ q, mv' j q = mv j q) ∧ mso' j = mso j ∧ mrs' j = mrs j) → MG cI cJ ma mv' mso' mrs' n = MG cI cJ ma mv mso mrs n := by
  intro n
  induction n with
  | zero => intro _; rfl
  | succ n ih =>
    intro h
    show MG cI cJ ma mv' mso' mrs' n ++ MKc cI cJ ma mv' mso' mrs' n = MG cI cJ ma mv mso mrs n ++ MKc cI cJ ma mv mso mrs n
    rw [ih (fun j hj => h j (by omega)), MKc_congr (h n (by omega))]
theorem mg_setM {i k : Nat} {c : Nat × va_E} (hk : k < 6) (ho : ∀ j, j ≠ i → (∀ q, mv' j q = mv j q) ∧ mso' j = mso j ∧ mrs' j = mrs j) (hi : MKc cI cJ ma mv' mso' mrs' i = (MKc cI cJ ma mv mso mrs i).set k c) : ∀ n, i < n → (MG cI cJ ma mv mso mrs n).set (6 * i + k) c = MG cI cJ ma mv' mso' mrs' n := by
  intro n
  induction n with
  | zero => intro h; exact absurd h (Nat.not_lt_zero _)
  | succ n ih =>
    intro h
    have hlen := mg_len (cI := cI) (cJ := cJ) (ma := ma) (mv := mv) (mso := mso) (mrs := mrs) n
    show (MG cI cJ ma mv mso mrs n ++ MKc cI cJ ma mv mso mrs n).set (6 * i + k) c = MG cI cJ ma mv' mso' mrs' n ++ MKc cI cJ ma mv' mso' mrs' n
    by_cases e : i = n
    · subst e
      rw [List.set_append_right _ _ (by omega), hlen, show 6 * i + k - 6 * i = k by omega, ← hi, mg_congr i (fun j hj => ho j (by omega))]
    · rw [List.set_append_left _ _ (by omega), ih (by omega), MKc_congr (ho n (fun q => e q.symm))]
theorem mg_set {X : va_W} {N n i k : Nat} {c : Nat × va_E} (hN : X.length = N) (hin : i < n) (hk : k < 6) (ho : ∀ j, j ≠ i → (∀ q, mv' j q = mv j q) ∧ mso' j = mso j ∧ mrs' j = mrs j) (hi : MKc cI cJ ma mv' mso' mrs' i = (MKc cI cJ ma mv mso mrs i).set k c) : (X ++ MG cI cJ ma mv mso mrs n).set (N + (6 * i + k)) c = X ++ MG cI cJ ma mv' mso' mrs' n := by
  rw [List.set_append_right _ _ (by omega), show N + (6 * i + k) - X.length = 6 * i + k by omega, mg_setM hk ho hi n hin]
theorem MKc_len {i : Nat} : (MKc cI cJ ma mv mso mrs i).length = 6 := rfl
theorem MKc_adr {i r : Nat} {q : Nat × va_E} (h : (MKc cI cJ ma mv' mso' mrs' i)[r]? = some q) : ∃ e, (MKc cI cJ ma mv mso mrs i)[r]? = some (q.1, e) := by
  have hr : r < 6 := by
    have := (List.getElem?_eq_some_iff.mp h).1
    exact this
  rcases (show r = 0 ∨ r = 1 ∨ r = 2 ∨ r = 3 ∨ r = 4 ∨ r = 5 by omega) with rfl | rfl | rfl | rfl | rfl | rfl <;> (cases h; exact ⟨_, rfl⟩)
theorem mg_cov {X : va_W} {N n i : Nat} (hN : X.length = N) (hin : i < n) {rs : List Nat} (ho : ∀ j, j ≠ i → (∀ q, mv' j q = mv j q) ∧ mso' j = mso j ∧ mrs' j = mrs j) (hs : ∀ r, r < 6 → r ∉ rs → (MKc cI cJ ma mv' mso' mrs' i)[r]? = (MKc cI cJ ma mv mso mrs i)[r]?) (k : Nat) (q : Nat × va_E) (hq : (X ++ MG cI cJ ma mv' mso' mrs' n)[k]? = some q) :
    (∃ r, r < 6 ∧ r ∈ rs ∧ k = N + (6 * i + r) ∧ (MKc cI cJ ma mv' mso' mrs' i)[r]? = some q) ∨ ((∀ r, r < 6 → r ∈ rs → k ≠ N + (6 * i + r)) ∧ (X ++ MG cI cJ ma mv mso mrs n)[k]? = some q) := by
  by_cases h1 : k < N
  · refine Or.inr ⟨fun r _ _ => by omega, ?_⟩
    rw [List.getElem?_append_left (by omega)] at hq ⊢
    exact hq
  · have hk : k < N + 6 * n := by
      have := (List.getElem?_eq_some_iff.mp hq).1
      rw [List.length_append, mg_len, hN] at this
      exact this
    have e1 : k = N + (6 * ((k - N) / 6) + (k - N) % 6) := by omega
    have hj : (k - N) / 6 < n := by omega
    have hr : (k - N) % 6 < 6 := Nat.mod_lt _ (by decide)
    rw [e1, mg_x hN hj hr] at hq
    by_cases h2 : (k - N) / 6 = i
    · by_cases h3 : (k - N) % 6 ∈ rs
      · rw [h2] at hq
        exact Or.inl ⟨(k - N) % 6, hr, h3, by omega, hq⟩
      · refine Or.inr ⟨fun r hr' hm e => h3 (by rw [show (k - N) % 6 = r by omega]; exact hm), ?_⟩
        rw [e1, mg_x hN hj hr, h2, ← hs _ hr h3, ← h2]
        exact hq
    · refine Or.inr ⟨fun r hr' _ => by omega, ?_⟩
      rw [e1, mg_x hN hj hr, ← MKc_congr (ho _ h2)]
      exact hq
/-- behind a call that had cells of X and of one mark, the first unchanged -/
theorem mg_rep {D : va_G} {cl : List vw_C} {A0 : Nat → Prop} {X wx wm w1 : va_W} {N n i : Nat} {H H1 : Heap} (hP : va_P D cl (X ++ MG cI cJ ma mv mso mrs n) H) (hD : va_D A0 (X ++ MG cI cJ ma mv mso mrs n)) (hN : X.length = N) (hin : i < n) (ps rs : List Nat) (hx : ps.map (fun p => X[p]?) = wx.map some) (hm : rs.map (fun r => (MKc cI cJ ma mv mso mrs i)[r]?) = wm.map some) (hm1 : rs.map (fun r => (MKc cI cJ ma mv' mso' mrs' i)[r]?) = w1.map some)
    (ho : ∀ j, j ≠ i → (∀ q, mv' j q = mv j q) ∧ mso' j = mso j ∧ mrs' j = mrs j) (hs : ∀ r, r < 6 → r ∉ rs → (MKc cI cJ ma mv' mso' mrs' i)[r]? = (MKc cI cJ ma mv mso mrs i)[r]?)
    (hk : ∀ q : Nat, q < H.size → ¬ va_A (wx ++ wm) H.size q → H1[q]? = H[q]?) (hP1 : va_P D cl (wx ++ w1) H1) : va_P D cl (X ++ MG cI cJ ma mv' mso' mrs' n) H1 ∧ va_D A0 (X ++ MG cI cJ ma mv' mso' mrs' n) := by
  have key : ∀ (k : Nat) (q : Nat × va_E), (X ++ MG cI cJ ma mv' mso' mrs' n)[k]? = some q → ∃ e, (X ++ MG cI cJ ma mv mso mrs n)[k]? = some (q.1, e) := by
    intro k q hq
    rcases mg_cov hN hin ho hs k q hq with ⟨r, h1, h2, h3, h4⟩ | ⟨-, h2⟩
    · obtain ⟨e, he⟩ := MKc_adr (mv := mv) (mso := mso) (mrs := mrs) h4
      exact ⟨e, by rw [h3, mg_x hN hin h1]; exact he⟩
    · exact ⟨q.2, h2⟩
  refine ⟨fun k q hq => ?_, fun a b p q hp hq hpq => ?_, fun k q hq => ?_⟩
  · rcases mg_cov hN hin ho hs k q hq with ⟨r, h1, h2, h3, h4⟩ | ⟨h1, h2⟩
    · obtain ⟨j, hj⟩ := List.mem_iff_getElem?.mp h2
      have e1 : (rs.map (fun r => (MKc cI cJ ma mv' mso' mrs' i)[r]?))[j]? = some (some q) := by rw [List.getElem?_map, hj]; exact congrArg some h4
      rw [hm1, List.getElem?_map] at e1
      have e2 : w1[j]? = some q := by
        cases h5 : w1[j]? with
        | none => rw [h5] at e1; cases e1
        | some z => rw [h5] at e1; exact Option.some.inj e1
      refine hP1 (wx.length + j) q ?_
      rw [List.getElem?_append_right (by omega), show wx.length + j - wx.length = j by omega]
      exact e2
    · have hl := (hP k q h2).lt
      by_cases h3 : ∃ (j : Nat) (e : va_E), wx[j]? = some (q.1, e)
      · obtain ⟨j, e, h3⟩ := h3
        obtain ⟨p, g1, g2⟩ := va_in_of ps hx h3
        have g3 : (X ++ MG cI cJ ma mv mso mrs n)[p]? = some (q.1, e) := by rw [List.getElem?_append_left (List.getElem?_eq_some_iff.mp g2).1]; exact g2
        have g4 := hD.1 _ _ _ _ h2 g3 rfl
        subst g4
        have g5 : q = (q.1, e) := Option.some.inj (h2.symm.trans g3)
        rw [← g5] at h3
        refine hP1 j q ?_
        rw [List.getElem?_append_left (List.getElem?_eq_some_iff.mp h3).1]
        exact h3
      · refine (hP k q h2).kept (hk q.1 hl (fun hA => ?_))
        rcases hA with ⟨j, e, hA⟩ | hA
        · by_cases h4 : j < wx.length
          · rw [List.getElem?_append_left h4] at hA
            exact h3 ⟨j, e, hA⟩
          · rw [List.getElem?_append_right (by omega)] at hA
            have e1 : (rs.map (fun r => (MKc cI cJ ma mv mso mrs i)[r]?))[j - wx.length]? = some (some (q.1, e)) := by rw [hm, List.getElem?_map, hA]; rfl
            rw [List.getElem?_map] at e1
            cases h5 : rs[j - wx.length]? with
            | none => rw [h5] at e1; cases e1
            | some r =>
              rw [h5] at e1
              have e2 : (MKc cI cJ ma mv mso mrs i)[r]? = some (q.1, e) := Option.some.inj e1
              have hr : r < 6 := (List.getElem?_eq_some_iff.mp e2).1
              have e3 : (X ++ MG cI cJ ma mv mso mrs n)[N + (6 * i + r)]? = some (q.1, e) := by rw [mg_x hN hin hr]; exact e2
              exact h1 r hr (List.mem_of_getElem? h5) (hD.1 _ _ _ _ h2 e3 rfl)
        · omega
  · obtain ⟨e1, g1⟩ := key a p hp
    obtain ⟨e2, g2⟩ := key b q hq
    exact hD.1 _ _ _ _ g1 g2 hpq
  · obtain ⟨e1, g1⟩ := key k q hq
    exact hD.2 k (q.1, e1) g1
theorem mg_x1 {X : va_W} {N n i : Nat} (hN : X.length = N) (hi : i < n) : (X ++ MG cI cJ ma mv mso mrs n)[N + (6 * i + 1)]? = some (ma i 1, .inr (5, [.ref (ma i 2), .int (mv i 6), .int (mv i 7), .int (mv i 8)])) := mg_x hN hi (by decide)
theorem mg_x2 {X : va_W} {N n i : Nat} (hN : X.length = N) (hi : i < n) : (X ++ MG cI cJ ma mv mso mrs n)[N + (6 * i + 2)]? = some (ma i 2, .inl (cJ, 40, .inr (.inl (mso i)))) := mg_x hN hi (by decide)
theorem mg_x3 {X : va_W} {N n i : Nat} (hN : X.length = N) (hi : i < n) : (X ++ MG cI cJ ma mv mso mrs n)[N + (6 * i + 3)]? = some (ma i 3, .inr (0, [.int (mv i 9), .int (mv i 10), .int (mv i 11), .int (mv i 12), .int (mv i 13)])) := mg_x hN hi (by decide)
end TAILS
theorem vaP_1 {D : va_G} {cl : List vw_C} {ws : va_W} {H : Heap} {k : Nat} {q : Nat × va_E} (h : va_P D cl ws H) (hk : ws[k]? = some q) : va_P D cl [q] H := by
  intro j z hz
  cases j with
  | zero => cases hz; exact h k _ hk
  | succ j => cases hz
theorem vaD_in {A : Nat → Prop} {ws : va_W} {k : Nat} {q : Nat × va_E} (h : va_D A ws) (hk : ws[k]? = some q) : A q.1 := h.2 k q hk
/-- the cells at given places, apart -/
theorem vaP_at {D : va_G} {cl : List vw_C} {ws wc : va_W} {H : Heap} (h : va_P D cl ws H) (is : List Nat) (hs : is.map (fun i => ws[i]?) = wc.map some) : va_P D cl wc H := by
  intro k q hq
  obtain ⟨i, h1, h2⟩ := va_in_of is hs hq
  exact h i q h2
theorem nd_inj : ∀ (is : List Nat), is.Nodup → ∀ (i j a : Nat), is[i]? = some a → is[j]? = some a → i = j := by
  intro is
  induction is with
  | nil => intro _ i j a h; cases h
  | cons x xs ih =>
    intro hn i j a hi hj
    obtain ⟨h1, h2⟩ := List.nodup_cons.mp hn
    cases i with
    | zero =>
      cases j with
      | zero => rfl
      | succ j =>
        cases hi
        exact absurd (List.mem_of_getElem? (show xs[j]? = some x from hj)) h1
    | succ i =>
      cases j with
      | zero =>
        cases hj
        exact absurd (List.mem_of_getElem? (show xs[i]? = some x from hi)) h1
      | succ j => rw [ih h2 i j a hi hj]
theorem vaD_at {A : Nat → Prop} {ws wc : va_W} (h : va_D A ws) (is : List Nat) (hn : is.Nodup) (hs : is.map (fun i => ws[i]?) = wc.map some) : va_D A wc := by
  refine ⟨fun i j p q hp hq hpq => ?_, fun k q hq => ?_⟩
  · obtain ⟨a, h1, h2⟩ := va_in_of is hs hp
    obtain ⟨b, h3, h4⟩ := va_in_of is hs hq
    have e := h.1 _ _ _ _ h2 h4 hpq
    subst e
    exact nd_inj is hn i j a h1 h3
  · obtain ⟨a, h1, h2⟩ := va_in_of is hs hq
    exact h.2 a q h2
