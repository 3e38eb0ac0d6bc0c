theorem sm_mono {f : Nat → Nat} {S S' : Nat} (h : ∀ i, S.testBit i = true → S'.testBit i = true) : ∀ n, zsm f S n ≤ zsm f S' n := by
  intro n
  induction n with
  | zero => exact Nat.le_refl _
  | succ n ih =>
    show zsm f S n + (if S.testBit n = true then f n else 0) ≤ zsm f S' n + (if S'.testBit n = true then f n else 0)
    by_cases q : S.testBit n = true
    · rw [if_pos q, if_pos (h n q)]; omega
    · rw [if_neg q]; omega
theorem or_x {S m : Nat} (h : S.testBit m = false) : (S ||| 2 ^ m) ^^^ 2 ^ m = S := by
  apply Nat.eq_of_testBit_eq
  intro i
  by_cases e : m = i
  · subst e; rw [xb_s, Nat.testBit_or, Nat.testBit_two_pow_self, Bool.or_true, h]; rfl
  · rw [xb_n e, Nat.testBit_or, Nat.testBit_two_pow_of_ne e, Bool.or_false]
theorem or_b {S m : Nat} : (S ||| 2 ^ m).testBit m = true := by rw [Nat.testBit_or, Nat.testBit_two_pow_self, Bool.or_true]
theorem sm_or {f : Nat → Nat} {S m n : Nat} (h : S.testBit m = false) (hm : m < n) : zsm f (S ||| 2 ^ m) n = f m + zsm f S n := by
  rw [sm_x or_b n hm, or_x h]
section REFS
variable {ok op : Nat → Nat → Prop} {wy : Option Nat → Nat → Nat} {wh : Option Nat → Nat} {mn ld wg : Nat → Nat} {jb : Nat → Prop} {bg lst car n : Nat}
/-- what the reference asks of a mark -/
def zOk (ok : Nat → Nat → Prop) (jb : Nat → Prop) (ld : Nat → Nat) (car n : Nat) : Prop := (∀ m, jb m → m < n) ∧ ∀ S m, S < 2 ^ n → (ok S m ↔ jb m ∧ S.testBit m = false ∧ zsm ld (S ||| 2 ^ m) n ≤ car)
theorem or_set (S a : Nat) (ms : List Nat) : S ||| 2 ^ a ||| oset ms = S ||| oset (a :: ms) := by
  show S ||| 2 ^ a ||| oset ms = S ||| (oset ms ||| 2 ^ a)
  rw [Nat.or_assoc, Nat.or_comm (2 ^ a)]
theorem dr_fwd (hok : zOk ok jb ld car n) : ∀ (ms : List Nat) (S : Nat) (a : Option Nat) (t : Nat) (τ : DS), S < 2 ^ n → drun (dzF ok op wy mn lst) ms (S, a, t) = some τ → (∀ m, m ∈ ms → jb m ∧ S.testBit m = false) ∧ ms.Nodup ∧ τ.1 = S ||| oset ms ∧ τ.2.1 = olast a ms ∧ orun op wy mn a t ms = some τ.2.2 ∧ (ms ≠ [] → zsm ld (S ||| oset ms) n ≤ car) := by
  intro ms
  induction ms with
  | nil =>
    intro S a t τ _ h
    have h : some (S, a, t) = some τ := h
    cases h
    exact ⟨fun m q => absurd q List.not_mem_nil, List.nodup_nil, (Nat.or_zero S).symm, rfl, rfl, fun q => absurd rfl q⟩
  | cons m ms ih =>
    intro S a t τ hS h
    simp only [drun] at h
    cases hs : dstep (dzF ok op wy mn lst) (S, a, t) m with
    | none => rw [hs] at h; cases h
    | some ρ =>
      rw [hs] at h
      obtain ⟨u, hu, rfl⟩ := dstep_some.mp hs
      have hu : dzF ok op wy mn lst S a t m = some u := hu
      obtain ⟨h1, b, h2, h3, rfl⟩ := dzF_some hu
      obtain ⟨k1, k2, k3⟩ := (hok.2 S m hS).mp h1
      have hS2 := or_lt hS (hok.1 m k1)
      obtain ⟨i1, i2, i3, i4, i5, i6⟩ := ih (S ||| 2 ^ m) (some m) (b + mn m) τ hS2 h
      have key : ∀ m', m' ∈ ms → m' ≠ m ∧ S.testBit m' = false := fun m' q => by
        have := (i1 m' q).2
        rw [Nat.testBit_or] at this
        have h7 : S.testBit m' = false := by
          cases z : S.testBit m' with
          | false => rfl
          | true => rw [z] at this; cases this
        refine ⟨fun e => ?_, h7⟩
        subst e
        rw [Nat.testBit_two_pow_self, Bool.or_true] at this
        cases this
      refine ⟨fun m' q => ?_, List.nodup_cons.mpr ⟨fun q => (key m q).1 rfl, i2⟩, by rw [i3]; exact or_set S m ms, i4, by rw [orun_c h2]; exact i5, fun _ => ?_⟩
      · rcases List.mem_cons.mp q with z | z
        · rw [z]; exact ⟨k1, k2⟩
        · exact ⟨(i1 m' z).1, (key m' z).2⟩
      · rw [← or_set S m ms]
        cases ms with
        | nil => show zsm ld (S ||| 2 ^ m ||| 0) n ≤ car; rw [Nat.or_zero]; exact k3
        | cons c cs => exact i6 (fun q => by cases q)
theorem dr_bwd (hok : zOk ok jb ld car n) : ∀ (ms : List Nat) (S : Nat) (a : Option Nat) (t u : Nat), S < 2 ^ n → (∀ m, m ∈ ms → jb m ∧ S.testBit m = false) → ms.Nodup → orun op wy mn a t ms = some u → zsm ld (S ||| oset ms) n ≤ car → u ≤ lst → drun (dzF ok op wy mn lst) ms (S, a, t) = some (S ||| oset ms, olast a ms, u) := by
  intro ms
  induction ms with
  | nil =>
    intro S a t u _ _ _ h _ _
    have h : some t = some u := h
    cases h
    show some (S, a, t) = some (S ||| 0, a, t)
    rw [Nat.or_zero]
  | cons m ms ih =>
    intro S a t u hS h1 h2 h3 h4 h5
    obtain ⟨b, g1, g2⟩ := orun_s h3
    have g3 := orun_ge ms g2
    obtain ⟨k1, k2⟩ := h1 m List.mem_cons_self
    obtain ⟨d1, d2⟩ := List.nodup_cons.mp h2
    have hS2 := or_lt hS (hok.1 m k1)
    rw [← or_set S m ms] at h4
    have g4 : ok S m := (hok.2 S m hS).mpr ⟨k1, k2, Nat.le_trans (sm_mono (fun i q => by rw [Nat.testBit_or, q, Bool.true_or]) n) h4⟩
    have g5 : dstep (dzF ok op wy mn lst) (S, a, t) m = some (S ||| 2 ^ m, some m, b + mn m) := dstep_some.mpr ⟨_, dzF_is g4 g1 (by omega), rfl⟩
    simp only [drun]
    rw [g5]
    show drun (dzF ok op wy mn lst) ms (S ||| 2 ^ m, some m, b + mn m) = _
    rw [ih (S ||| 2 ^ m) (some m) (b + mn m) u hS2 (fun m' q => ⟨(h1 m' (List.mem_cons_of_mem _ q)).1, ?_⟩) d2 g2 h4 h5, or_set S m ms]
    · rfl
    · have e : m ≠ m' := fun e => d1 (by rw [e]; exact q)
      rw [Nat.testBit_or, (h1 m' (List.mem_cons_of_mem _ q)).2, Nat.testBit_two_pow_of_ne e]
      rfl
theorem fl_ref (hok : zOk ok jb ld car n) {ms : List Nat} {t : Nat} : zFL jb op wy wh mn ld bg lst car ms t ↔ ∃ τ, drun (dzF ok op wy mn lst) ms (0, none, bg) = some τ ∧ t = bkd wh τ ∧ bkd wh τ ≤ lst := by
  have hp : 0 < 2 ^ n := Nat.pow_pos (by decide)
  constructor
  · rintro ⟨h1, h2, h3, u, h4, h5, h6⟩
    have p1 := oset_P ms h1
    have p2 := oset_lt ms (fun m q => hok.1 m (h2 m q))
    have := dr_bwd (op := op) (wy := wy) (mn := mn) (lst := lst) hok ms 0 none bg u hp (fun m q => ⟨h2 m q, Nat.zero_testBit m⟩) h1 h4 (by rw [Nat.zero_or, sm_list ms p1 p2]; exact h3) (by omega)
    exact ⟨(0 ||| oset ms, olast none ms, u), this, h5, by rw [h5] at h6; exact h6⟩
  · rintro ⟨τ, h1, h2, h3⟩
    obtain ⟨i1, i2, i3, i4, i5, i6⟩ := dr_fwd hok ms 0 none bg τ hp h1
    have p2 := oset_lt ms (fun m q => hok.1 m (i1 m q).1)
    refine ⟨i2, fun m q => (i1 m q).1, ?_, τ.2.2, i5, ?_, by omega⟩
    · cases ms with
      | nil => exact Nat.zero_le _
      | cons c cs =>
        have := i6 (fun q => by cases q)
        rw [Nat.zero_or, sm_list _ (oset_P _ i2) p2] at this
        exact this
    · rw [h2, ← i4]; rfl
theorem wt_list (hok : zOk ok jb ld car n) {ms : List Nat} {τ : DS} (h : drun (dzF ok op wy mn lst) ms (0, none, bg) = some τ) : zsm wg τ.1 n = lsum wg ms := by
  have hp : 0 < 2 ^ n := Nat.pow_pos (by decide)
  obtain ⟨i1, i2, i3, -⟩ := dr_fwd hok ms 0 none bg τ hp h
  rw [i3, Nat.zero_or]
  exact sm_list ms (oset_P ms i2) (oset_lt ms (fun m q => hok.1 m (i1 m q).1))
/-- while the reference seeks: p found, the state is behind p -/
def zRG (dz : DZ) (wt : Nat → Nat) (wh : Option Nat → Nat) (lst bg p1 p2 : Nat) (p : List Nat) (σ : DS) : Prop := drun dz p (0, none, bg) = some σ ∧ ∀ ms τ, drun dz ms (0, none, bg) = some τ → bkd wh τ ≤ lst → wt τ.1 = p1 → bkd wh τ = p2 → (∃ r, ms = p ++ r) ∨ ∀ r, zlx (p ++ r) ms
theorem drun_app {dz : DZ} : ∀ (p : List Nat) {q : List Nat} {σ ρ : DS}, drun dz p σ = some ρ → drun dz (p ++ q) σ = drun dz q ρ := by
  intro p
  induction p with
  | nil => intro q σ ρ h; have h : some σ = some ρ := h; cases h; rfl
  | cons m p ih =>
    intro q σ ρ h
    simp only [drun] at h
    show drun dz (m :: (p ++ q)) σ = _
    simp only [drun]
    cases hs : dstep dz σ m with
    | none => rw [hs] at h; cases h
    | some κ => rw [hs] at h; exact ih h
theorem rg_start {dz : DZ} {wt : Nat → Nat} {wh : Option Nat → Nat} {lst bg p1 p2 : Nat} : zRG dz wt wh lst bg p1 p2 [] (0, none, bg) := ⟨rfl, fun ms _ _ _ _ _ => Or.inl ⟨ms, rfl⟩⟩
theorem rg_step {dz : DZ} {wt : Nat → Nat} {wh : Option Nat → Nat} {lst bg p1 p2 S t m u : Nat} {a : Option Nat} {p : List Nat} (h : zRG dz wt wh lst bg p1 p2 p (S, a, t)) (hb : BestOf wt wh lst (dR dz (S, a, t)) (some (p1, p2))) (hlt : wt S < p1) (hm : dz S a t m = some u) (hl : ∀ m' u', m' < m → dz S a t m' = some u' → ¬ BestOf wt wh lst (dR dz (S ||| 2 ^ m', some m', u')) (some (p1, p2))) : zRG dz wt wh lst bg p1 p2 (p ++ [m]) (S ||| 2 ^ m, some m, u) := by
  obtain ⟨h1, h2⟩ := h
  refine ⟨?_, fun ms τ g1 g2 g3 g4 => ?_⟩
  · rw [drun_app p h1]
    have : dstep dz (S, a, t) m = some (S ||| 2 ^ m, some m, u) := dstep_some.mpr ⟨u, hm, rfl⟩
    simp only [drun]
    rw [this]
  · rcases h2 ms τ g1 g2 g3 g4 with ⟨r, rfl⟩ | z
    · rw [drun_app p h1] at g1
      cases r with
      | nil =>
        have g1 : some (S, a, t) = some τ := g1
        cases g1
        exact absurd g3 (Nat.ne_of_lt hlt)
      | cons c r =>
        simp only [drun] at g1
        cases hs : dstep dz (S, a, t) c with
        | none => rw [hs] at g1; cases g1
        | some ρ =>
          rw [hs] at g1
          have g1 : drun dz r ρ = some τ := g1
          have hb2 : BestOf wt wh lst (dR dz ρ) (some (p1, p2)) := by
            refine ⟨fun q hq => ?_, fun τ' k1 k2 => hb.2 τ' (dR_step hs k1) k2⟩
            cases hq
            exact ⟨τ, ⟨r, g1⟩, g2, by rw [g3, g4]⟩
          obtain ⟨u', e1, rfl⟩ := dstep_some.mp hs
          have e1 : dz S a t c = some u' := e1
          rcases Nat.lt_trichotomy c m with z | z | z
          · exact absurd hb2 (hl c u' z e1)
          · subst z
            exact Or.inl ⟨r, by rw [List.append_assoc]; rfl⟩
          · refine Or.inr (fun s => ?_)
            rw [List.append_assoc]
            exact lx_app p _ _ (Or.inl z)
    · exact Or.inr (fun s => by rw [List.append_assoc]; exact z _)
/-- what the reference has found is the round -/
theorem sp_ref (hok : zOk ok jb ld car n) (hw : ∀ m, jb m → 0 < wg m) {p1 p2 S t : Nat} {a : Option Nat} {p : List Nat} {wt : Nat → Nat} (hwt : ∀ S, S < 2 ^ n → wt S = zsm wg S n) (hb0 : BestOf wt wh lst (dR (dzF ok op wy mn lst) (0, none, bg)) (some (p1, p2))) (h : zRG (dzF ok op wy mn lst) wt wh lst bg p1 p2 p (S, a, t)) (hb : BestOf wt wh lst (dR (dzF ok op wy mn lst) (S, a, t)) (some (p1, p2))) (hge : ¬ wt S < p1) : zSP jb op wy wh mn ld wg bg lst car p1 p2 p := by
  have hp : 0 < 2 ^ n := Nat.pow_pos (by decide)
  have hz : dzOk (dzF ok op wy mn lst) n ∨ True := Or.inr trivial
  obtain ⟨h1, h2⟩ := h
  have hlt : ∀ ms τ, drun (dzF ok op wy mn lst) ms (0, none, bg) = some τ → τ.1 < 2 ^ n := fun ms τ q => by
    obtain ⟨i1, i2, i3, -⟩ := dr_fwd hok ms 0 none bg τ hp q
    rw [i3, Nat.zero_or]
    exact oset_lt ms (fun m z => hok.1 m (i1 m z).1)
  have hS := hlt p _ h1
  have hpos : ∀ r : List Nat, (∀ m, m ∈ r → jb m) → lsum wg r = 0 → r = [] := fun r hr q => by
    cases r with
    | nil => rfl
    | cons c r =>
      have := hw c (hr c List.mem_cons_self)
      have q : wg c + lsum wg r = 0 := q
      omega
  obtain ⟨τ, ⟨r, k1⟩, k2, k3⟩ := hb.1 _ rfl
  have k3a : p1 = wt τ.1 := congrArg Prod.fst k3
  have k3b : p2 = bkd wh τ := congrArg Prod.snd k3
  have k4 : drun (dzF ok op wy mn lst) (p ++ r) (0, none, bg) = some τ := by rw [drun_app p h1]; exact k1
  have w1 := wt_list (wg := wg) hok k4
  have w2 := wt_list (wg := wg) hok h1
  rw [lsum_app] at w1
  have e1 := hwt S hS
  have e2 := hwt _ (hlt _ _ k4)
  have w2 : zsm wg S n = lsum wg p := w2
  have hr : r = [] := hpos r (fun m q => ((dr_fwd hok _ 0 none bg τ hp k4).1 m (List.mem_append.mpr (Or.inr q))).1) (by omega)
  subst hr
  have k1 : some (S, a, t) = some τ := k1
  cases k1
  refine ⟨(fl_ref hok).mpr ⟨_, h1, k3b, k2⟩, by omega, fun ms' t' g => ?_⟩
  obtain ⟨τ', g1, rfl, g3⟩ := (fl_ref hok).mp g
  obtain ⟨q, g4, g5⟩ := hb0.2 τ' ⟨ms', g1⟩ g3
  cases g4
  have w3 := wt_list (wg := wg) hok g1
  have e3 := hwt _ (hlt _ _ g1)
  unfold better at g5
  have g5 : ¬ (p1 < wt τ'.1 ∨ (wt τ'.1 = p1 ∧ bkd wh τ' < p2)) := g5
  rw [e3, w3] at g5
  rcases Nat.lt_or_ge (lsum wg ms') p1 with z | z
  · exact Or.inl z
  · refine Or.inr ⟨by omega, ?_⟩
    rcases Nat.lt_or_ge p2 (bkd wh τ') with y | y
    · exact Or.inl y
    · have e4 : bkd wh τ' = p2 := by omega
      refine Or.inr ⟨e4.symm, ?_⟩
      rcases h2 ms' τ' g1 g3 (by omega) e4 with ⟨r, rfl⟩ | x
      · rw [lsum_app] at z w3 g5
        have : r = [] := hpos r (fun m q => ((dr_fwd hok _ 0 none bg τ' hp g1).1 m (List.mem_append.mpr (Or.inr q))).1) (by omega)
        subst this
        rw [List.append_nil]
        exact lx_refl p
      · have := x []
        rw [List.append_nil] at this
        exact this
end REFS
