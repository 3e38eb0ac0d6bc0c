/-! ORDERS OF JOBS, in numbers: a list of jobs, one behind the other; S ^^^ 2 ^ m: the set S without m -/
def isP : Nat → List Nat → Prop
  | S, [] => S = 0
  | S, m :: ms => S.testBit m = true ∧ isP (S ^^^ 2 ^ m) ms
theorem xb_s {S m : Nat} : (S ^^^ 2 ^ m).testBit m = !S.testBit m := by
  rw [Nat.testBit_xor, Nat.testBit_two_pow_self, Bool.xor_true]
theorem xb_n {S m i : Nat} (h : m ≠ i) : (S ^^^ 2 ^ m).testBit i = S.testBit i := by
  rw [Nat.testBit_xor, Nat.testBit_two_pow_of_ne h, Bool.xor_false]
theorem xb_lt {S m n : Nat} (hS : S < 2 ^ n) (hm : m < n) : S ^^^ 2 ^ m < 2 ^ n := Nat.xor_lt_two_pow hS (Nat.pow_lt_pow_right (by decide) hm)
theorem xb_or {S m : Nat} (h : S.testBit m = true) : (S ^^^ 2 ^ m) ||| 2 ^ m = S := by
  apply Nat.eq_of_testBit_eq
  intro i
  rw [Nat.testBit_or]
  by_cases e : m = i
  · subst e; rw [xb_s, h, Nat.testBit_two_pow_self]; rfl
  · rw [xb_n e, Nat.testBit_two_pow_of_ne e, Bool.or_false]
theorem xb_less {S m : Nat} (h : S.testBit m = true) : S ^^^ 2 ^ m < S := by
  have h1 := or_gt (S := S ^^^ 2 ^ m) (m := m) (by rw [xb_s, h]; rfl)
  rw [xb_or h] at h1
  exact h1
theorem xb_swap (S i j : Nat) : S ^^^ 2 ^ i ^^^ 2 ^ j = S ^^^ 2 ^ j ^^^ 2 ^ i := by
  rw [Nat.xor_assoc, Nat.xor_comm (2 ^ i), ← Nat.xor_assoc]
theorem xb_m {S m n : Nat} (hS : S < 2 ^ n) (h : S.testBit m = true) : m < n := by
  rcases Nat.lt_or_ge m n with q | q
  · exact q
  · have := Nat.testBit_lt_two_pow (Nat.lt_of_lt_of_le hS (Nat.pow_le_pow_right (n := 2) (by decide) q))
    rw [h] at this
    cases this
theorem isP_snoc {j : Nat} : ∀ (ms : List Nat) (S : Nat), isP S (ms ++ [j]) ↔ S.testBit j = true ∧ isP (S ^^^ 2 ^ j) ms := by
  intro ms
  induction ms with
  | nil => intro S; exact Iff.rfl
  | cons m ms ih =>
    intro S
    show (S.testBit m = true ∧ isP (S ^^^ 2 ^ m) (ms ++ [j])) ↔ (S.testBit j = true ∧ (S ^^^ 2 ^ j).testBit m = true ∧ isP (S ^^^ 2 ^ j ^^^ 2 ^ m) ms)
    rw [ih]
    by_cases e : m = j
    · subst e
      constructor
      · rintro ⟨h1, h2, -⟩
        rw [xb_s, h1] at h2; cases h2
      · rintro ⟨h1, h2, -⟩
        rw [xb_s, h1] at h2; cases h2
    · rw [xb_n e, xb_n (fun q => e q.symm), xb_swap S m j]
      constructor
      · rintro ⟨h1, h2, h3⟩; exact ⟨h2, h1, h3⟩
      · rintro ⟨h1, h2, h3⟩; exact ⟨h2, h1, h3⟩
theorem isP_z {ms : List Nat} (h : isP 0 ms) : ms = [] := by
  cases ms with
  | nil => rfl
  | cons m ms => have := h.1; rw [Nat.zero_testBit] at this; cases this
theorem isP_nz {S : Nat} {ms : List Nat} (hS : S ≠ 0) (h : isP S ms) : ∃ m ns, ms = m :: ns := by
  cases ms with
  | nil => exact absurd h hS
  | cons m ns => exact ⟨m, ns, rfl⟩
theorem lst_end (l : List Nat) : l = [] ∨ ∃ p b, l = p ++ [b] := by
  induction l with
  | nil => exact Or.inl rfl
  | cons a l ih =>
    rcases ih with rfl | ⟨p, b, rfl⟩
    · exact Or.inr ⟨[], a, rfl⟩
    · exact Or.inr ⟨a :: p, b, rfl⟩
theorem isP_mem : ∀ (ms : List Nat) {S : Nat}, isP S ms → ms.Nodup ∧ ∀ m, m ∈ ms ↔ S.testBit m = true := by
  intro ms
  induction ms with
  | nil =>
    intro S h
    have h : S = 0 := h
    subst h
    refine ⟨List.nodup_nil, fun m => ?_⟩
    rw [Nat.zero_testBit]
    simp
  | cons a ms ih =>
    intro S h
    obtain ⟨h1, h2⟩ := h
    obtain ⟨i1, i2⟩ := ih h2
    refine ⟨List.nodup_cons.mpr ⟨fun q => ?_, i1⟩, fun m => ?_⟩
    · have := (i2 a).mp q
      rw [xb_s, h1] at this
      cases this
    · rw [List.mem_cons, i2 m]
      by_cases e : a = m
      · subst e; exact ⟨fun _ => h1, fun _ => Or.inl rfl⟩
      · rw [xb_n e]
        exact ⟨fun q => q.elim (fun z => absurd z.symm e) id, Or.inr⟩
theorem isP_len : ∀ (ms : List Nat) {S n : Nat}, isP S ms → S < 2 ^ n → ms.length ≤ n := by
  have key : ∀ (ms : List Nat) {S n : Nat}, isP S ms → S < 2 ^ n → ms.length = cntP (fun j => S.testBit j = true) n := by
    intro ms
    induction ms with
    | nil =>
      intro S n h _
      have h : S = 0 := h
      subst h
      show 0 = _
      induction n with
      | zero => rfl
      | succ n ih => rw [cntP_f (by rw [Nat.zero_testBit]; decide)]; exact ih (Nat.pow_pos (by decide))
    | cons a ms ih =>
      intro S n h hS
      obtain ⟨h1, h2⟩ := h
      have ha := xb_m hS h1
      have h3 := ih h2 (xb_lt hS ha)
      have h4 := cnt_bit (S := S ^^^ 2 ^ a) n ha (by rw [xb_s, h1]; rfl)
      rw [xb_or h1] at h4
      show ms.length + 1 = _
      rw [h3, h4]
  intro ms S n h hS
  rw [key ms h hS]
  exact cntP_le _ n
/-- the set of a list -/
def oset : List Nat → Nat
  | [] => 0
  | m :: ms => oset ms ||| 2 ^ m
theorem oset_bit : ∀ (ms : List Nat) (i : Nat), (oset ms).testBit i = true ↔ i ∈ ms := by
  intro ms
  induction ms with
  | nil => intro i; show Nat.testBit 0 i = true ↔ _; rw [Nat.zero_testBit]; simp
  | cons a ms ih =>
    intro i
    show (oset ms ||| 2 ^ a).testBit i = true ↔ _
    rw [Nat.testBit_or, List.mem_cons]
    by_cases e : a = i
    · subst e; rw [Nat.testBit_two_pow_self]; simp
    · rw [Nat.testBit_two_pow_of_ne e, Bool.or_false, ih i]
      exact ⟨Or.inr, fun q => q.elim (fun z => absurd z.symm e) id⟩
theorem oset_P : ∀ (ms : List Nat), ms.Nodup → isP (oset ms) ms := by
  intro ms
  induction ms with
  | nil => intro _; rfl
  | cons a ms ih =>
    intro h
    obtain ⟨h1, h2⟩ := List.nodup_cons.mp h
    have h3 : (oset ms).testBit a = false := by
      cases q : (oset ms).testBit a with
      | false => rfl
      | true => exact absurd ((oset_bit ms a).mp q) h1
    refine ⟨?_, ?_⟩
    · show (oset ms ||| 2 ^ a).testBit a = true
      rw [Nat.testBit_or, Nat.testBit_two_pow_self, Bool.or_true]
    · show isP ((oset ms ||| 2 ^ a) ^^^ 2 ^ a) ms
      have e : (oset ms ||| 2 ^ a) ^^^ 2 ^ a = oset ms := by
        apply Nat.eq_of_testBit_eq
        intro i
        by_cases e : a = i
        · subst e; rw [xb_s, Nat.testBit_or, Nat.testBit_two_pow_self, Bool.or_true, h3]; rfl
        · rw [xb_n e, Nat.testBit_or, Nat.testBit_two_pow_of_ne e, Bool.or_false]
      rw [e]
      exact ih h2
theorem oset_lt {n : Nat} : ∀ (ms : List Nat), (∀ m, m ∈ ms → m < n) → oset ms < 2 ^ n := by
  intro ms
  induction ms with
  | nil => intro _; exact Nat.pow_pos (by decide)
  | cons a ms ih => intro h; exact or_lt (ih (fun m q => h m (List.mem_cons_of_mem _ q))) (h a List.mem_cons_self)
theorem isP_set {S : Nat} {ms : List Nat} (h : isP S ms) : oset ms = S := by
  apply Nat.eq_of_testBit_eq
  intro i
  have h1 := (oset_bit ms i).trans ((isP_mem ms h).2 i)
  cases p : (oset ms).testBit i <;> cases q : S.testBit i
  · rfl
  · have := h1.mpr q; rw [p] at this; cases this
  · have := h1.mp p; rw [q] at this; cases this
  · rfl
/-- sums over a list, over a set -/
def lsum (f : Nat → Nat) : List Nat → Nat
  | [] => 0
  | m :: ms => f m + lsum f ms
def zsm (f : Nat → Nat) (S : Nat) : Nat → Nat
  | 0 => 0
  | n + 1 => zsm f S n + (if S.testBit n = true then f n else 0)
theorem sm_z (f : Nat → Nat) : ∀ n, zsm f 0 n = 0 := by
  intro n
  induction n with
  | zero => rfl
  | succ n ih => show zsm f 0 n + _ = 0; rw [ih, Nat.zero_testBit]; rfl
theorem sm_same {f : Nat → Nat} {S S' : Nat} : ∀ n, (∀ i, i < n → S.testBit i = S'.testBit i) → zsm f S n = zsm f S' n := by
  intro n
  induction n with
  | zero => intro _; rfl
  | succ n ih =>
    intro h
    show zsm f S n + _ = zsm f S' n + _
    rw [ih (fun i hi => h i (by omega)), h n (by omega)]
theorem sm_x {f : Nat → Nat} {S m : Nat} (h : S.testBit m = true) : ∀ n, m < n → zsm f S n = f m + zsm f (S ^^^ 2 ^ m) n := by
  intro n
  induction n with
  | zero => intro q; exact absurd q (Nat.not_lt_zero _)
  | succ n ih =>
    intro q
    show zsm f S n + (if S.testBit n = true then f n else 0) = f m + (zsm f (S ^^^ 2 ^ m) n + (if (S ^^^ 2 ^ m).testBit n = true then f n else 0))
    by_cases e : m = n
    · subst e
      rw [xb_s, h, sm_same (S := S) (S' := S ^^^ 2 ^ m) m (fun i hi => (xb_n (by omega)).symm), if_pos rfl, if_neg (by decide)]
      omega
    · rw [ih (by omega), xb_n e]
      omega
theorem sm_list {f : Nat → Nat} {n : Nat} : ∀ (ms : List Nat) {S : Nat}, isP S ms → S < 2 ^ n → zsm f S n = lsum f ms := by
  intro ms
  induction ms with
  | nil => intro S h _; have h : S = 0 := h; subst h; exact sm_z f n
  | cons a ms ih =>
    intro S h hS
    have ha := xb_m hS h.1
    rw [sm_x h.1 n ha, ih h.2 (xb_lt hS ha)]
    rfl
theorem sm_le {f : Nat → Nat} {S N : Nat} (hf : ∀ i, f i ≤ N) : ∀ n, zsm f S n ≤ N * n := by
  intro n
  induction n with
  | zero => exact Nat.zero_le _
  | succ n ih =>
    show zsm f S n + (if S.testBit n = true then f n else 0) ≤ N * (n + 1)
    have := hf n
    rw [Nat.mul_succ]
    split <;> omega
theorem sm_le2 {f : Nat → Nat} {S N : Nat} : ∀ n, (∀ i, i < n → f i ≤ N) → zsm f S n ≤ N * n := by
  intro n
  induction n with
  | zero => intro _; exact Nat.zero_le _
  | succ n ih =>
    intro hf
    show zsm f S n + (if S.testBit n = true then f n else 0) ≤ N * (n + 1)
    have := hf n (by omega)
    have := ih (fun i hi => hf i (by omega))
    rw [Nat.mul_succ]
    split <;> omega
theorem lsum_app (f : Nat → Nat) : ∀ (p q : List Nat), lsum f (p ++ q) = lsum f p + lsum f q := by
  intro p q
  induction p with
  | nil => show lsum f q = 0 + lsum f q; omega
  | cons a p ih => show f a + lsum f (p ++ q) = f a + lsum f p + lsum f q; rw [ih]; omega
/-- the order of lists -/
def zlx : List Nat → List Nat → Prop
  | [], _ => True
  | _ :: _, [] => False
  | a :: as, b :: bs => a < b ∨ (a = b ∧ zlx as bs)
theorem lx_nil (q : List Nat) : zlx [] q := by cases q <;> trivial
theorem lx_refl : ∀ p : List Nat, zlx p p := by
  intro p
  induction p with
  | nil => exact lx_nil _
  | cons a p ih => exact Or.inr ⟨rfl, ih⟩
theorem lx_trans : ∀ (p q r : List Nat), zlx p q → zlx q r → zlx p r := by
  intro p
  induction p with
  | nil => intro q r _ _; exact lx_nil _
  | cons a p ih =>
    intro q r h1 h2
    cases q with
    | nil => exact False.elim h1
    | cons b q =>
      cases r with
      | nil => exact False.elim h2
      | cons c r =>
        have h1 : a < b ∨ (a = b ∧ zlx p q) := h1
        have h2 : b < c ∨ (b = c ∧ zlx q r) := h2
        show a < c ∨ (a = c ∧ zlx p r)
        rcases h1 with h1 | ⟨h1, g1⟩ <;> rcases h2 with h2 | ⟨h2, g2⟩
        · exact Or.inl (by omega)
        · exact Or.inl (by omega)
        · exact Or.inl (by omega)
        · exact Or.inr ⟨by omega, ih q r g1 g2⟩
theorem lx_anti : ∀ (p q : List Nat), zlx p q → zlx q p → p = q := by
  intro p
  induction p with
  | nil =>
    intro q _ h2
    cases q with
    | nil => rfl
    | cons b q => exact False.elim h2
  | cons a p ih =>
    intro q h1 h2
    cases q with
    | nil => exact False.elim h1
    | cons b q =>
      have h1 : a < b ∨ (a = b ∧ zlx p q) := h1
      have h2 : b < a ∨ (b = a ∧ zlx q p) := h2
      rcases h1 with h1 | ⟨h1, g1⟩ <;> rcases h2 with h2 | ⟨h2, g2⟩
      · omega
      · omega
      · omega
      · rw [h1, ih q g1 g2]
theorem lx_app : ∀ (p q r : List Nat), zlx q r → zlx (p ++ q) (p ++ r) := by
  intro p q r h
  induction p with
  | nil => exact h
  | cons a p ih => exact Or.inr ⟨rfl, ih⟩
section ORUN
variable {op : Nat → Nat → Prop} {wy : Option Nat → Nat → Nat} {mn : Nat → Nat}
/-- when a list of jobs is done that is begun at h in minute t -/
noncomputable def orun (op : Nat → Nat → Prop) (wy : Option Nat → Nat → Nat) (mn : Nat → Nat) : Option Nat → Nat → List Nat → Option Nat
  | _, t, [] => some t
  | h, t, m :: ms => match bgF op m (t + wy h m) with
    | none => none
    | some b => orun op wy mn (some m) (b + mn m) ms
/-- the minutes at which its jobs begin -/
noncomputable def obgs (op : Nat → Nat → Prop) (wy : Option Nat → Nat → Nat) (mn : Nat → Nat) : Option Nat → Nat → List Nat → List Nat
  | _, _, [] => []
  | h, t, m :: ms => match bgF op m (t + wy h m) with
    | none => []
    | some b => b :: obgs op wy mn (some m) (b + mn m) ms
def olast : Option Nat → List Nat → Option Nat
  | h, [] => h
  | _, m :: ms => olast (some m) ms
theorem orun_c {h : Option Nat} {t m b : Nat} {ms : List Nat} (hb : bgF op m (t + wy h m) = some b) : orun op wy mn h t (m :: ms) = orun op wy mn (some m) (b + mn m) ms := by
  show (match bgF op m (t + wy h m) with | none => none | some b => orun op wy mn (some m) (b + mn m) ms) = _
  rw [hb]
theorem orun_n {h : Option Nat} {t m : Nat} {ms : List Nat} (hb : bgF op m (t + wy h m) = none) : orun op wy mn h t (m :: ms) = none := by
  show (match bgF op m (t + wy h m) with | none => none | some b => orun op wy mn (some m) (b + mn m) ms) = _
  rw [hb]
theorem orun_s {h : Option Nat} {t m u : Nat} {ms : List Nat} (q : orun op wy mn h t (m :: ms) = some u) : ∃ b, bgF op m (t + wy h m) = some b ∧ orun op wy mn (some m) (b + mn m) ms = some u := by
  cases hb : bgF op m (t + wy h m) with
  | none => rw [orun_n hb] at q; cases q
  | some b => rw [orun_c hb] at q; exact ⟨b, rfl, q⟩
theorem obgs_c {h : Option Nat} {t m b : Nat} {ms : List Nat} (hb : bgF op m (t + wy h m) = some b) : obgs op wy mn h t (m :: ms) = b :: obgs op wy mn (some m) (b + mn m) ms := by
  show (match bgF op m (t + wy h m) with | none => [] | some b => b :: obgs op wy mn (some m) (b + mn m) ms) = _
  rw [hb]
theorem orun_ge : ∀ (ms : List Nat) {h : Option Nat} {t u : Nat}, orun op wy mn h t ms = some u → t ≤ u := by
  intro ms
  induction ms with
  | nil => intro h t u q; have q : some t = some u := q; cases q; exact Nat.le_refl _
  | cons m ms ih =>
    intro h t u q
    obtain ⟨b, h1, h2⟩ := orun_s q
    have := (bgF_lt h1).1
    have := ih h2
    omega
theorem orun_mono : ∀ (ms : List Nat) {h : Option Nat} {t t' u' : Nat}, t ≤ t' → orun op wy mn h t' ms = some u' → ∃ u, orun op wy mn h t ms = some u ∧ u ≤ u' := by
  intro ms
  induction ms with
  | nil => intro h t t' u' ht q; have q : some t' = some u' := q; cases q; exact ⟨t, rfl, ht⟩
  | cons m ms ih =>
    intro h t t' u' ht q
    obtain ⟨b', h1, h2⟩ := orun_s q
    obtain ⟨b, h3, h4⟩ := bgF_mono (show t + wy h m ≤ t' + wy h m by omega) h1
    obtain ⟨u, h5, h6⟩ := ih (show b + mn m ≤ b' + mn m by omega) h2
    exact ⟨u, by rw [orun_c h3]; exact h5, h6⟩
theorem orun_app : ∀ (p : List Nat) {q : List Nat} {h : Option Nat} {t u : Nat}, orun op wy mn h t p = some u → orun op wy mn h t (p ++ q) = orun op wy mn (olast h p) u q := by
  intro p
  induction p with
  | nil => intro q h t u e; have e : some t = some u := e; cases e; rfl
  | cons m p ih =>
    intro q h t u e
    obtain ⟨b, h1, h2⟩ := orun_s e
    show orun op wy mn h t (m :: (p ++ q)) = _
    rw [orun_c h1]
    exact ih h2
theorem orun_app_s : ∀ (p : List Nat) {q : List Nat} {h : Option Nat} {t v : Nat}, orun op wy mn h t (p ++ q) = some v → ∃ u, orun op wy mn h t p = some u ∧ orun op wy mn (olast h p) u q = some v := by
  intro p
  induction p with
  | nil => intro q h t v e; exact ⟨t, rfl, e⟩
  | cons m p ih =>
    intro q h t v e
    have e : orun op wy mn h t (m :: (p ++ q)) = some v := e
    obtain ⟨b, h1, h2⟩ := orun_s e
    obtain ⟨u, h3, h4⟩ := ih h2
    exact ⟨u, by rw [orun_c h1]; exact h3, h4⟩
theorem obgs_app : ∀ (p : List Nat) {q : List Nat} {h : Option Nat} {t u : Nat}, orun op wy mn h t p = some u → obgs op wy mn h t (p ++ q) = obgs op wy mn h t p ++ obgs op wy mn (olast h p) u q := by
  intro p
  induction p with
  | nil => intro q h t u e; have e : some t = some u := e; cases e; rfl
  | cons m p ih =>
    intro q h t u e
    obtain ⟨b, h1, h2⟩ := orun_s e
    show obgs op wy mn h t (m :: (p ++ q)) = _
    rw [obgs_c h1, obgs_c h1, ih h2]
    rfl
theorem obgs_len : ∀ (p : List Nat) {h : Option Nat} {t u : Nat}, orun op wy mn h t p = some u → (obgs op wy mn h t p).length = p.length := by
  intro p
  induction p with
  | nil => intro h t u _; rfl
  | cons m p ih =>
    intro h t u e
    obtain ⟨b, h1, h2⟩ := orun_s e
    rw [obgs_c h1]
    show (obgs op wy mn (some m) (b + mn m) p).length + 1 = p.length + 1
    rw [ih h2]
theorem olast_app : ∀ (p : List Nat) {q : List Nat} {h : Option Nat}, olast h (p ++ q) = olast (olast h p) q := by
  intro p
  induction p with
  | nil => intro q h; rfl
  | cons m p ih => intro q h; exact ih
theorem olast_snoc {p : List Nat} {j : Nat} {h : Option Nat} : olast h (p ++ [j]) = some j := by rw [olast_app]; rfl
theorem orun_snoc {p : List Nat} {j u b t : Nat} {h : Option Nat} (h1 : orun op wy mn h t p = some u) (h2 : bgF op j (u + wy (olast h p) j) = some b) : orun op wy mn h t (p ++ [j]) = some (b + mn j) := by
  rw [orun_app p h1, orun_c h2]; rfl
theorem obgs_snoc {p : List Nat} {j u b t : Nat} {h : Option Nat} (h1 : orun op wy mn h t p = some u) (h2 : bgF op j (u + wy (olast h p) j) = some b) : obgs op wy mn h t (p ++ [j]) = obgs op wy mn h t p ++ [b] := by
  rw [obgs_app p h1, obgs_c h2]; rfl
theorem orun_snoc_s {p : List Nat} {j v t : Nat} {h : Option Nat} (q : orun op wy mn h t (p ++ [j]) = some v) : ∃ u b, orun op wy mn h t p = some u ∧ bgF op j (u + wy (olast h p) j) = some b ∧ v = b + mn j := by
  obtain ⟨u, h1, h2⟩ := orun_app_s p q
  obtain ⟨b, h3, h4⟩ := orun_s h2
  have h4 : some (b + mn j) = some v := h4
  cases h4
  exact ⟨u, b, h1, h3, rfl⟩
end ORUN
/-- a row of the program holds a list -/
def rowsL (f : Nat → Int32) (p : List Nat) : Prop := ∀ j, j < p.length → f j = nI (p.getD j 0)
theorem rowsL_s {f : Nat → Int32} {p : List Nat} {m k : Nat} (h : rowsL f p) (hk : k = p.length) : rowsL (upd f k (nI m)) (p ++ [m]) := by
  subst hk
  intro j hj
  rw [List.length_append] at hj
  have hj : j < p.length + 1 := hj
  by_cases e : j = p.length
  · subst e
    rw [pk_us, List.getD_eq_getElem?_getD, List.getElem?_append_right (Nat.le_refl _), Nat.sub_self]
    rfl
  · rw [pk_un e, h j (by omega), List.getD_eq_getElem?_getD, List.getD_eq_getElem?_getD, List.getElem?_append_left (by omega)]
theorem rowsL_nil (f : Nat → Int32) : rowsL f [] := fun j hj => absurd hj (Nat.not_lt_zero _)
