def NP (f : Nat → Int32) (m : Nat) : Nat := (f m).toNatClampNeg
def clN (x : Int32) : Nat := x.toNatClampNeg
def XV (i5 i6 i7 i9 i10 i11 i12 m30 m31 m32 m26 m27 m28 m29 : Int32) : Prop := i5 = m30 ∧ i6 = m31 ∧ i7 = m32 ∧ i9 = m26 ∧ i10 = m27 ∧ i11 = m28 ∧ i12 = m29 ∧ small 10000 m29
def XW (r13 r14 s24 s25 : Nat → Int32) : Prop := ∀ h, h < 24 → r13 h = s24 h ∧ r14 h = s25 h
def XD (r1 s0 : Nat → Int32) : Prop := ∀ x y, x < 40 → y < 40 → r1 (ixC x y) = s0 (ixM x y)
def XL (n0 : Nat) (mv : Nat → Nat → Int32) (s21 s22 : Nat → Int32) : Prop := (∀ i, i < n0 → mv i 3 = s21 i ∧ mv i 4 = s22 i) ∧ (∀ i, n0 ≤ i → i < 10 → s21 i = 0 ∧ s22 i = 0) ∧ ∀ i, i < 10 → small 1000 (s22 i)
def XP (n0 : Nat) (i3 i10 i11 : Int32) (r13 r14 r1 s2 s3 s21 s22 s23 : Nat → Int32) (m26 m30 m31 m32 m33 m29 i21 i22 i23 : Int32) (r16 r18 r26 r27 : Nat → Int32) : Prop := ¬ i3 = 0 → zPS n0 i10 i11 r13 r14 r1 (NP s2) (NP s3) (NP s21) (NP s22) (NP s23) (clN m26) (clN m30) (clN m31) (clN m32) (clN m33) (clN m29) i21 i22 i23 r16 r18 r26 r27
def XM (n0 : Nat) (x43 m27 m28 : Int32) (s24 s25 s0 s2 s3 s21 s22 s23 : Nat → Int32) (m26 m30 m31 m32 m33 m29 x36 x37 x38 : Int32) (s39 s40 : Nat → Int32) : Prop := ¬ x43 = 0 → zRS n0 m27 m28 s24 s25 s0 (NP s2) (NP s3) (NP s21) (NP s22) (NP s23) (clN m26) (clN m30) (clN m31) (clN m32) (clN m33) (clN m29) x36 x37 x38 s39 s40
abbrev IQ (n0 : Nat) (mv : Nat → Nat → Int32) (iv : Nat → Int32) (av : Nat → Nat → Int32) (mi mq : Nat → Int32) (mav : Nat → Nat → Int32) : Prop := XV (iv 5) (iv 6) (iv 7) (iv 9) (iv 10) (iv 11) (iv 12) (mi 30) (mi 31) (mi 32) (mi 26) (mi 27) (mi 28) (mi 29) ∧ XW (av 13) (av 14) (mav 24) (mav 25) ∧ XD (av 1) (mav 0) ∧ XL n0 mv (mav 21) (mav 22) ∧ XP n0 (iv 3) (iv 10) (iv 11) (av 13) (av 14) (av 1) (mav 2) (mav 3) (mav 21) (mav 22) (mav 23) (mi 26) (mi 30) (mi 31) (mi 32) (mi 33) (mi 29) (iv 21) (iv 22) (iv 23) (av 16) (av 18) (av 26) (av 27) ∧ XM n0 (mq 43) (mi 27) (mi 28) (mav 24) (mav 25) (mav 0) (mav 2) (mav 3) (mav 21) (mav 22) (mav 23) (mi 26) (mi 30) (mi 31) (mi 32) (mi 33) (mi 29) (mq 36) (mq 37) (mq 38) (mav 39) (mav 40)
theorem sm_N {N : Nat} {x : Int32} (hN : N < 2 ^ 31) (h : small N x) : x = nI (clN x) ∧ clN x ≤ N := small_cl hN h
theorem ad_comm (a b : Nat) : ad a b = ad b a := by unfold ad; omega
theorem xw_weather {r13 r14 s24 s25 : Nat → Int32} {k : Nat} {x y : Int32} (h : XW r13 r14 s24 s25) : XW (upd r13 k x) (upd r14 k y) (upd s24 k x) (upd s25 k y) := fun j hj => by
  by_cases e : j = k
  · subst e; rw [pk_us, pk_us, pk_us, pk_us]; exact ⟨rfl, rfl⟩
  · rw [pk_un e, pk_un e, pk_un e, pk_un e]; exact h j hj
theorem xd_depth {iv mq : Nat → Int32} {av mav : Nat → Nat → Int32} {x1 x2 x3 x4 x5 r8 r9 : Int32} {u8 : Int32 × (Nat → Int32)} {u9 : (Nat → Int32) × Int32} (h : XD (av 1) (mav 0)) (h8 : (r8 = 1 ∧ (placeP x1 x2 ∧ placeP x3 x4 ∧ ¬ x3 < x1 ∧ ¬ x4 < x2 ∧ (0 ≤ x5 ∧ x5 ≤ 200)) ∧ u8.1 = 0 ∧ zDX ixC x1 x2 x3 x4 x5 (av 1) u8.2) ∨ (r8 = 0 ∧ ¬ (placeP x1 x2 ∧ placeP x3 x4 ∧ ¬ x3 < x1 ∧ ¬ x4 < x2 ∧ (0 ≤ x5 ∧ x5 ≤ 200)) ∧ u8 = (iv 3, av 1))) (h9 : (r9 = 1 ∧ (placeP x1 x2 ∧ placeP x3 x4 ∧ ¬ x3 < x1 ∧ ¬ x4 < x2 ∧ (0 ≤ x5 ∧ x5 ≤ 200)) ∧ u9.2 = 0 ∧ zDX ixM x1 x2 x3 x4 x5 (mav 0) u9.1) ∨ (r9 = 0 ∧ ¬ (placeP x1 x2 ∧ placeP x3 x4 ∧ ¬ x3 < x1 ∧ ¬ x4 < x2 ∧ (0 ≤ x5 ∧ x5 ≤ 200)) ∧ u9 = (mav 0, mq 43))) : XD u8.2 u9.1 := by
  rcases h8 with ⟨-, a, -, dx, dy, dp, dq, e1, e2, e3, e4, b1, b2, b3, b4, a5⟩ | ⟨-, a, rfl⟩ <;> rcases h9 with ⟨-, b, -, cx, cy, cp, cq, g1, g2, g3, g4, c1, c2, c3, c4, b5⟩ | ⟨-, b, rfl⟩
  · have i1 : dx = cx := (nI_eq (by omega) (by omega)).mp (e1.symm.trans g1)
    have i2 : dy = cy := (nI_eq (by omega) (by omega)).mp (e2.symm.trans g2)
    have i3 : dp = cp := (nI_eq (by omega) (by omega)).mp (e3.symm.trans g3)
    have i4 : dq = cq := (nI_eq (by omega) (by omega)).mp (e4.symm.trans g4)
    subst i1; subst i2; subst i3; subst i4
    intro x y hx hy
    by_cases q : (dx ≤ x ∧ x ≤ dp) ∧ dy ≤ y ∧ y ≤ dq
    · rw [(a5 x y hx hy).1 q, (b5 x y hx hy).1 q]
    · rw [(a5 x y hx hy).2 q, (b5 x y hx hy).2 q]; exact h x y hx hy
  · exact absurd a b
  · exact absurd b a
  · exact h
theorem xp_dep {n0 : Nat} {iv : Nat → Int32} {av : Nat → Nat → Int32} {x1 x2 x3 x4 x5 r8 : Int32} {u8 : Int32 × (Nat → Int32)} {i10 i11 : Int32} {r13 r14 s2 s3 s21 s22 s23 : Nat → Int32} {m26 m30 m31 m32 m33 m29 : Int32} {i21 i22 i23 : Int32} {r16 r18 r26 r27 : Nat → Int32} (h : XP n0 (iv 3) i10 i11 r13 r14 (av 1) s2 s3 s21 s22 s23 m26 m30 m31 m32 m33 m29 i21 i22 i23 r16 r18 r26 r27) (h8 : (r8 = 1 ∧ (placeP x1 x2 ∧ placeP x3 x4 ∧ ¬ x3 < x1 ∧ ¬ x4 < x2 ∧ (0 ≤ x5 ∧ x5 ≤ 200)) ∧ u8.1 = 0 ∧ zDX ixC x1 x2 x3 x4 x5 (av 1) u8.2) ∨ (r8 = 0 ∧ ¬ (placeP x1 x2 ∧ placeP x3 x4 ∧ ¬ x3 < x1 ∧ ¬ x4 < x2 ∧ (0 ≤ x5 ∧ x5 ≤ 200)) ∧ u8 = (iv 3, av 1))) : XP n0 u8.1 i10 i11 r13 r14 u8.2 s2 s3 s21 s22 s23 m26 m30 m31 m32 m33 m29 i21 i22 i23 r16 r18 r26 r27 := by
  rcases h8 with ⟨-, -, e, -⟩ | ⟨-, -, rfl⟩
  · exact fun q => absurd e q
  · exact h
theorem xm_dep {n0 : Nat} {mq : Nat → Int32} {mav : Nat → Nat → Int32} {x1 x2 x3 x4 x5 r9 : Int32} {u9 : (Nat → Int32) × Int32} {m27 m28 : Int32} {s24 s25 s2 s3 s21 s22 s23 : Nat → Int32} {m26 m30 m31 m32 m33 m29 : Int32} {x36 x37 x38 : Int32} {s39 s40 : Nat → Int32} (h : XM n0 (mq 43) m27 m28 s24 s25 (mav 0) s2 s3 s21 s22 s23 m26 m30 m31 m32 m33 m29 x36 x37 x38 s39 s40) (h9 : (r9 = 1 ∧ (placeP x1 x2 ∧ placeP x3 x4 ∧ ¬ x3 < x1 ∧ ¬ x4 < x2 ∧ (0 ≤ x5 ∧ x5 ≤ 200)) ∧ u9.2 = 0 ∧ zDX ixM x1 x2 x3 x4 x5 (mav 0) u9.1) ∨ (r9 = 0 ∧ ¬ (placeP x1 x2 ∧ placeP x3 x4 ∧ ¬ x3 < x1 ∧ ¬ x4 < x2 ∧ (0 ≤ x5 ∧ x5 ≤ 200)) ∧ u9 = (mav 0, mq 43))) : XM n0 u9.2 m27 m28 s24 s25 u9.1 s2 s3 s21 s22 s23 m26 m30 m31 m32 m33 m29 x36 x37 x38 s39 s40 := by
  rcases h9 with ⟨-, -, e, -⟩ | ⟨-, -, rfl⟩
  · exact fun q => absurd e q
  · exact h
theorem xl_k {n0 : Nat} {mv mv' : Nat → Nat → Int32} {s21 s22 : Nat → Int32} (h : XL n0 mv s21 s22) (k3 : ∀ i, mv' i 3 = mv i 3) (k4 : ∀ i, mv' i 4 = mv i 4) : XL n0 mv' s21 s22 := ⟨fun i hi => by rw [k3, k4]; exact h.1 i hi, h.2⟩
theorem xl_mark {n0 : Nat} {mv : Nat → Nat → Int32} {s21 s22 : Nat → Int32} {v' : Nat → Int32} (hl : n0 < 10) (h : XL n0 mv s21 s22) (e3 : v' 3 = 0) (e4 : v' 4 = 0) : XL (n0 + 1) (rup mv n0 v') s21 s22 := ⟨fun i hi => by
  by_cases q : i = n0
  · subst q; rw [rup_s, e3, e4]; have := h.2.1 i (Nat.le_refl _) hl; exact ⟨this.1.symm, this.2.symm⟩
  · rw [rup_j q]; exact h.1 i (by omega), fun i h1 h2 => h.2.1 i (by omega) h2, h.2.2⟩
theorem xl_job {n0 : Nat} {iv mq : Nat → Int32} {mv : Nat → Nat → Int32} {mav : Nat → Nat → Int32} {x1 x2 x3 x4 r8 r9 : Int32} {u8 : Int32 × (Nat → Nat → Int32)} {u9 : (Nat → Int32) × (Nat → Int32) × (Nat → Int32) × Int32} (hn : n0 ≤ 10) (h : XL n0 mv (mav 21) (mav 22)) (h8 : (r8 = 1 ∧ (isM n0 x1 ∧ (0 ≤ x2 ∧ x2 ≤ 600) ∧ (0 ≤ x3 ∧ x3 ≤ 1000) ∧ (0 ≤ x4 ∧ x4 ≤ 1000)) ∧ ∃ i, i < n0 ∧ x1 = nI i ∧ u8 = (0, mup (mup (mup mv i 3 x2) i 4 x3) i 5 x4)) ∨ (r8 = 0 ∧ ¬ (isM n0 x1 ∧ (0 ≤ x2 ∧ x2 ≤ 600) ∧ (0 ≤ x3 ∧ x3 ≤ 1000) ∧ (0 ≤ x4 ∧ x4 ≤ 1000)) ∧ u8 = (iv 3, mv))) (h9 : (r9 = 1 ∧ (isM n0 x1 ∧ (0 ≤ x2 ∧ x2 ≤ 600) ∧ (0 ≤ x3 ∧ x3 ≤ 1000) ∧ (0 ≤ x4 ∧ x4 ≤ 1000)) ∧ ∃ i, i < n0 ∧ x1 = nI i ∧ u9 = (upd (mav 21) i x2, upd (mav 22) i x3, upd (mav 23) i x4, 0)) ∨ (r9 = 0 ∧ ¬ (isM n0 x1 ∧ (0 ≤ x2 ∧ x2 ≤ 600) ∧ (0 ≤ x3 ∧ x3 ≤ 1000) ∧ (0 ≤ x4 ∧ x4 ≤ 1000)) ∧ u9 = (mav 21, mav 22, mav 23, mq 43))) : XL n0 u8.2 u9.1 u9.2.1 := by
  rcases h8 with ⟨-, a, i, a1, a2, rfl⟩ | ⟨-, a, rfl⟩ <;> rcases h9 with ⟨-, b, j, b1, b2, rfl⟩ | ⟨-, b, rfl⟩
  · have e := (nI_inj9 (by omega) (by omega)).mp (a2.symm.trans b2)
    subst e
    refine ⟨fun k hk => ?_, fun k h1 h2 => ?_, fun k hk => ?_⟩
    · by_cases e : k = i
      · subst e; dsimp only
        rw [mup_k (by decide), mup_k (by decide), mup_s, mup_k (by decide), mup_s]
        simp [upd]
      · dsimp only
        rw [mup_j e, mup_j e, mup_j e, mup_j e, mup_j e, mup_j e]
        simp only [upd, if_neg e]; exact h.1 k hk
    · have : k ≠ i := by omega
      simp only [upd, if_neg this]; exact h.2.1 k h1 h2
    · exact small_upd (h.2.2 k hk) (small_rg (N := 1000) (by decide) b.2.2.1)
  · exact absurd a b
  · exact absurd b a
  · exact h
theorem xp_job {n0 : Nat} {iv mq : Nat → Int32} {mv : Nat → Nat → Int32} {mav : Nat → Nat → Int32} {x1 x2 x3 x4 r8 r9 : Int32} {u8 : Int32 × (Nat → Nat → Int32)} {u9 : (Nat → Int32) × (Nat → Int32) × (Nat → Int32) × Int32} {i10 i11 : Int32} {r13 r14 r1 s2 s3 : Nat → Int32} {m26 m30 m31 m32 m33 m29 : Int32} {i21 i22 i23 : Int32} {r16 r18 r26 r27 : Nat → Int32} (h : XP n0 (iv 3) i10 i11 r13 r14 r1 s2 s3 (mav 21) (mav 22) (mav 23) m26 m30 m31 m32 m33 m29 i21 i22 i23 r16 r18 r26 r27) (h8 : (r8 = 1 ∧ (isM n0 x1 ∧ (0 ≤ x2 ∧ x2 ≤ 600) ∧ (0 ≤ x3 ∧ x3 ≤ 1000) ∧ (0 ≤ x4 ∧ x4 ≤ 1000)) ∧ ∃ i, i < n0 ∧ x1 = nI i ∧ u8 = (0, mup (mup (mup mv i 3 x2) i 4 x3) i 5 x4)) ∨ (r8 = 0 ∧ ¬ (isM n0 x1 ∧ (0 ≤ x2 ∧ x2 ≤ 600) ∧ (0 ≤ x3 ∧ x3 ≤ 1000) ∧ (0 ≤ x4 ∧ x4 ≤ 1000)) ∧ u8 = (iv 3, mv))) (h9 : (r9 = 1 ∧ (isM n0 x1 ∧ (0 ≤ x2 ∧ x2 ≤ 600) ∧ (0 ≤ x3 ∧ x3 ≤ 1000) ∧ (0 ≤ x4 ∧ x4 ≤ 1000)) ∧ ∃ i, i < n0 ∧ x1 = nI i ∧ u9 = (upd (mav 21) i x2, upd (mav 22) i x3, upd (mav 23) i x4, 0)) ∨ (r9 = 0 ∧ ¬ (isM n0 x1 ∧ (0 ≤ x2 ∧ x2 ≤ 600) ∧ (0 ≤ x3 ∧ x3 ≤ 1000) ∧ (0 ≤ x4 ∧ x4 ≤ 1000)) ∧ u9 = (mav 21, mav 22, mav 23, mq 43))) : XP n0 u8.1 i10 i11 r13 r14 r1 s2 s3 u9.1 u9.2.1 u9.2.2.1 m26 m30 m31 m32 m33 m29 i21 i22 i23 r16 r18 r26 r27 := by
  rcases h8 with ⟨-, a, i, a1, a2, rfl⟩ | ⟨-, a, rfl⟩ <;> rcases h9 with ⟨-, b, j, b1, b2, rfl⟩ | ⟨-, b, rfl⟩
  · exact fun q => absurd rfl q
  · exact absurd a b
  · exact absurd b a
  · exact h
theorem xm_job {n0 : Nat} {mq : Nat → Int32} {mav : Nat → Nat → Int32} {x1 x2 x3 x4 r9 : Int32} {u9 : (Nat → Int32) × (Nat → Int32) × (Nat → Int32) × Int32} {m27 m28 : Int32} {s24 s25 s0 s2 s3 : Nat → Int32} {m26 m30 m31 m32 m33 m29 : Int32} {x36 x37 x38 : Int32} {s39 s40 : Nat → Int32} (h : XM n0 (mq 43) m27 m28 s24 s25 s0 s2 s3 (mav 21) (mav 22) (mav 23) m26 m30 m31 m32 m33 m29 x36 x37 x38 s39 s40) (h9 : (r9 = 1 ∧ (isM n0 x1 ∧ (0 ≤ x2 ∧ x2 ≤ 600) ∧ (0 ≤ x3 ∧ x3 ≤ 1000) ∧ (0 ≤ x4 ∧ x4 ≤ 1000)) ∧ ∃ i, i < n0 ∧ x1 = nI i ∧ u9 = (upd (mav 21) i x2, upd (mav 22) i x3, upd (mav 23) i x4, 0)) ∨ (r9 = 0 ∧ ¬ (isM n0 x1 ∧ (0 ≤ x2 ∧ x2 ≤ 600) ∧ (0 ≤ x3 ∧ x3 ≤ 1000) ∧ (0 ≤ x4 ∧ x4 ≤ 1000)) ∧ u9 = (mav 21, mav 22, mav 23, mq 43))) : XM n0 u9.2.2.2 m27 m28 s24 s25 s0 s2 s3 u9.1 u9.2.1 u9.2.2.1 m26 m30 m31 m32 m33 m29 x36 x37 x38 s39 s40 := by
  rcases h9 with ⟨-, b, j, b1, b2, rfl⟩ | ⟨-, b, rfl⟩
  · exact fun q => absurd rfl q
  · exact h
theorem ob_same {jb : Nat → Prop} {op op' : Nat → Nat → Prop} {wy wy' : Option Nat → Nat → Nat} {mn mn' : Nat → Nat} (ho : ∀ m, jb m → (∀ q, q < 24 → (op m q ↔ op' m q)) ∧ mn m = mn' m ∧ wy none m = wy' none m ∧ ∀ d, jb d → wy (some d) m = wy' (some d) m) : ∀ (ms : List Nat) (o : Option Nat) (t : Nat), (∀ m, m ∈ ms → jb m) → (∀ m, o = some m → jb m) → obgs op wy mn o t ms = obgs op' wy' mn' o t ms := by
  intro ms
  induction ms with
  | nil => intro o t _ _; rfl
  | cons c ms ih =>
    intro o t h1 h2
    have hc := h1 c List.mem_cons_self
    obtain ⟨a1, a2, a5, a7⟩ := ho c hc
    have ew : wy o c = wy' o c := by
      cases o with
      | none => exact a5
      | some d => exact a7 d (h2 d rfl)
    have eb := bg_map2 (op := op') (opc := op) (nm := fun c => c) (c := c) (t := t + wy o c) a1
    have eb : bgF op c (t + wy o c) = bgF op' c (t + wy' o c) := by rw [ew] at eb ⊢; exact eb
    show (match bgF op c (t + wy o c) with | none => [] | some b => b :: obgs op wy mn (some c) (b + mn c) ms) = (match bgF op' c (t + wy' o c) with | none => [] | some b => b :: obgs op' wy' mn' (some c) (b + mn' c) ms)
    rw [eb]
    cases hb : bgF op' c (t + wy' o c) with
    | none => rfl
    | some b =>
      dsimp only
      rw [a2, ih (some c) _ (fun m q => h1 m (List.mem_cons_of_mem _ q)) (fun m q => by cases q; exact hc)]
theorem clz : (0 : Int32).toNatClampNeg = 0 := nI_clamp (n := 0) (by decide)
theorem jb_mark {n0 : Nat} {s23 : Nat → Int32} (hz : s23 n0 = 0) (m : Nat) : jbN n0 (NP s23) m ↔ jbN (n0 + 1) (NP s23) m := by
  refine ⟨fun z => ⟨Nat.lt_succ_of_lt z.1, z.2⟩, fun z => ⟨?_, z.2⟩⟩
  have h1 := z.1
  have h2 : m ≠ n0 := fun e => by
    have z2 : 0 < (s23 m).toNatClampNeg := z.2
    rw [e, hz, clz] at z2
    exact Nat.lt_irrefl 0 z2
  omega
theorem np_mark {n0 : Nat} {s2 : Nat → Int32} {x : Int32} (m : Nat) (hm : m < n0) : NP (upd s2 n0 x) m = NP s2 m := by unfold NP; rw [pk_un (by omega)]
theorem pd_mark {n0 : Nat} {i10 i11 : Int32} {r13 r14 r1 s2 s3 s23 : Nat → Int32} {pc sx sy : Nat} {x y : Int32} (m : Nat) (hm : jbN n0 (NP s23) m) : (∀ q, q < 24 → (opD i10 i11 r13 r14 r1 (NP s2) (NP s3) m q ↔ opD i10 i11 r13 r14 r1 (NP (upd s2 n0 x)) (NP (upd s3 n0 y)) m q)) ∧ wyC (NP s2) (NP s3) pc sx sy none m = wyC (NP (upd s2 n0 x)) (NP (upd s3 n0 y)) pc sx sy none m ∧ whC (NP s2) (NP s3) pc sx sy (some m) = whC (NP (upd s2 n0 x)) (NP (upd s3 n0 y)) pc sx sy (some m) ∧ ∀ d, jbN n0 (NP s23) d → wyC (NP s2) (NP s3) pc sx sy (some d) m = wyC (NP (upd s2 n0 x)) (NP (upd s3 n0 y)) pc sx sy (some d) m := by
  have h2 := np_mark (s2 := s2) (x := x) m hm.1
  have h3 := np_mark (s2 := s3) (x := y) m hm.1
  refine ⟨fun q _ => ?_, ?_, ?_, fun d hd => ?_⟩
  · unfold opD; rw [h2, h3]
  · show whN (NP s2) (NP s3) pc sx sy m = whN (NP (upd s2 n0 x)) (NP (upd s3 n0 y)) pc sx sy m
    unfold whN; rw [h2, h3]
  · show whN (NP s2) (NP s3) pc sx sy m = whN (NP (upd s2 n0 x)) (NP (upd s3 n0 y)) pc sx sy m
    unfold whN; rw [h2, h3]
  · show wN (NP s2) (NP s3) pc d m = wN (NP (upd s2 n0 x)) (NP (upd s3 n0 y)) pc d m
    unfold wN; rw [h2, h3, np_mark (s2 := s2) (x := x) d hd.1, np_mark (s2 := s3) (x := y) d hd.1]
theorem ps_mark {n0 : Nat} {i10 i11 : Int32} {r13 r14 r1 s2 s3 s23 : Nat → Int32} {pm pl : Nat → Nat} {pc sx sy bg lst car : Nat} {i21 i22 i23 : Int32} {r16 r18 r26 r27 : Nat → Int32} {x y : Int32} (hz : s23 n0 = 0) (h : zPS n0 i10 i11 r13 r14 r1 (NP s2) (NP s3) pm pl (NP s23) pc sx sy bg lst car i21 i22 i23 r16 r18 r26 r27) : zPS (n0 + 1) i10 i11 r13 r14 r1 (NP (upd s2 n0 x)) (NP (upd s3 n0 y)) pm pl (NP s23) pc sx sy bg lst car i21 i22 i23 r16 r18 r26 r27 := by
  obtain ⟨W, B, O, ms, g, a1, a2, a3, a4, a5, a6, a7, a8, a9, a10, a11, a12⟩ := h
  have ho := fun m hm => pd_mark (i10 := i10) (i11 := i11) (r13 := r13) (r14 := r14) (r1 := r1) (s2 := s2) (s3 := s3) (s23 := s23) (pc := pc) (sx := sx) (sy := sy) (x := x) (y := y) (n0 := n0) m hm
  have hob := ob_same (jb := jbN n0 (NP s23)) (op := opD i10 i11 r13 r14 r1 (NP s2) (NP s3)) (op' := opD i10 i11 r13 r14 r1 (NP (upd s2 n0 x)) (NP (upd s3 n0 y))) (wy := wyC (NP s2) (NP s3) pc sx sy) (wy' := wyC (NP (upd s2 n0 x)) (NP (upd s3 n0 y)) pc sx sy) (mn := pm) (mn' := pm) (fun m hm => ⟨(ho m hm).1, rfl, (ho m hm).2.1, (ho m hm).2.2.2⟩) ms none bg a12.1.2.1 (fun m q => by cases q)
  rw [hob] at a10 a11
  have w1 : whC (NP s2) (NP s3) pc sx sy none = 0 := rfl
  have w2 : whC (NP (upd s2 n0 x)) (NP (upd s3 n0 y)) pc sx sy none = 0 := rfl
  have hS := sp_same (jb' := jbN (n0 + 1) (NP s23)) (op' := opD i10 i11 r13 r14 r1 (NP (upd s2 n0 x)) (NP (upd s3 n0 y))) (wy' := wyC (NP (upd s2 n0 x)) (NP (upd s3 n0 y)) pc sx sy) (wh' := whC (NP (upd s2 n0 x)) (NP (upd s3 n0 y)) pc sx sy) (mn' := pm) (ld' := pl) (wg' := NP s23) (jb_mark hz) (fun m hm => ⟨(ho m hm).1, rfl, rfl, rfl, (ho m hm).2.1, (ho m hm).2.2.1, (ho m hm).2.2.2⟩) (w1.trans w2.symm) a12
  exact ⟨W, B, O, ms, g, a1, a2, a3, a4, a5, a6, a7, a8, a9, a10, a11, hS⟩
theorem xp_mark {n0 : Nat} {i3 i10 i11 : Int32} {r13 r14 r1 s2 s3 s21 s22 s23 : Nat → Int32} {m26 m30 m31 m32 m33 m29 : Int32} {i21 i22 i23 : Int32} {r16 r18 r26 r27 : Nat → Int32} {x y : Int32} (hz : s23 n0 = 0) (h : XP n0 i3 i10 i11 r13 r14 r1 s2 s3 s21 s22 s23 m26 m30 m31 m32 m33 m29 i21 i22 i23 r16 r18 r26 r27) : XP (n0 + 1) i3 i10 i11 r13 r14 r1 (upd s2 n0 x) (upd s3 n0 y) s21 s22 s23 m26 m30 m31 m32 m33 m29 i21 i22 i23 r16 r18 r26 r27 := fun q => ps_mark hz (h q)
/-- the numbers that both rounds are asked with -/
theorem pl_nums {n0 : Nat} {mv : Nat → Nat → Int32} {iv mi mq : Nat → Int32} {mav : Nat → Nat → Int32} (hn0 : n0 ≤ 10) (hn9 : mi 1 = nI n0) (hXS : XS n0 mv (mav 2) (mav 3)) (hXJ : XJ n0 mv (mav 23) (iv 8) (mi 33)) (hXL : XL n0 mv (mav 21) (mav 22)) (hXV : XV (iv 5) (iv 6) (iv 7) (iv 9) (iv 10) (iv 11) (iv 12) (mi 30) (mi 31) (mi 32) (mi 26) (mi 27) (mi 28) (mi 29)) (hIG : IG n0 (mi 26) (mi 30) (mi 31) (mi 32) (mi 33) (mq 38) (mav 2) (mav 3) (mav 21) (mav 23) (mav 39)) :
    (∀ m, m < n0 → mv m 0 = nI (NP (mav 2) m) ∧ mv m 1 = nI (NP (mav 3) m) ∧ NP (mav 2) m ≤ 39 ∧ NP (mav 3) m ≤ 39) ∧ (∀ m, m < n0 → mv m 3 = nI (NP (mav 21) m) ∧ NP (mav 21) m ≤ 600 ∧ mv m 4 = nI (NP (mav 22) m) ∧ NP (mav 22) m ≤ 1000 ∧ mv m 5 = nI (NP (mav 23) m) ∧ NP (mav 23) m ≤ 1000) ∧ (iv 9 = nI (clN (mi 26)) ∧ clN (mi 26) ≤ 60 ∧ iv 5 = nI (clN (mi 30)) ∧ iv 6 = nI (clN (mi 31)) ∧ clN (mi 30) ≤ 39 ∧ clN (mi 31) ≤ 39) ∧ (iv 7 = nI (clN (mi 32)) ∧ iv 8 = nI (clN (mi 33)) ∧ iv 12 = nI (clN (mi 29)) ∧ clN (mi 32) ≤ clN (mi 33) ∧ clN (mi 33) ≤ 1440 ∧ clN (mi 29) ≤ 10000) ∧ MPok n0 mi mav (NP (mav 2)) (NP (mav 3)) (NP (mav 21)) (clN (mi 30)) (clN (mi 31)) (clN (mi 26)) (clN (mi 33)) ∧ (∀ i, i < n0 → (mav 23) i = nI (NP (mav 23) i) ∧ NP (mav 23) i ≤ 1000) ∧ (∀ i, i < n0 → (mav 22) i = nI (NP (mav 22) i) ∧ NP (mav 22) i ≤ 1000) ∧ mi 32 = nI (clN (mi 32)) ∧ mi 29 = nI (clN (mi 29)) ∧ rowsOk n0 (mq 38) (mav 39) := by
  obtain ⟨g1, g2, g3, ⟨bg, lst, g4, g5, g6, g7⟩, g8, g9⟩ := hIG
  obtain ⟨v1, v2, v3, v4, v5, v6, v7, v8⟩ := hXV
  have c1 := sm_N (by decide) g1
  have c2 := sm_N (by decide) g2
  have c3 := sm_N (by decide) g3
  have c4 := sm_N (by decide) v8
  have c5 : clN (mi 32) = bg := by unfold clN; rw [g6]; exact nI_clamp (by omega)
  have c6 : clN (mi 33) = lst := by unfold clN; rw [g7]; exact nI_clamp (by omega)
  have k : ∀ i, i < n0 → ((mav 2) i = nI (NP (mav 2) i) ∧ NP (mav 2) i ≤ 39) ∧ ((mav 3) i = nI (NP (mav 3) i) ∧ NP (mav 3) i ≤ 39) ∧ ((mav 21) i = nI (NP (mav 21) i) ∧ NP (mav 21) i ≤ 600) ∧ ((mav 23) i = nI (NP (mav 23) i) ∧ NP (mav 23) i ≤ 1000) ∧ ((mav 22) i = nI (NP (mav 22) i) ∧ NP (mav 22) i ≤ 1000) := fun i hi => by
    obtain ⟨d1, d2, d3, d4⟩ := g8 i (by omega)
    exact ⟨sm_N (by decide) d1, sm_N (by decide) d2, sm_N (by decide) d3, sm_N (by decide) d4, sm_N (by decide) (hXL.2.2 i (by omega))⟩
  refine ⟨fun m hm => ?_, fun m hm => ?_, ⟨v4.trans c1.1, c1.2, v1.trans c2.1, v2.trans c3.1, c2.2, c3.2⟩, ⟨?_, ?_, v7.trans c4.1, by omega, by omega, c4.2⟩, ⟨hn0, hn9, c2.1, c3.1, c1.1, ?_, c2.2, c3.2, c1.2, by omega, fun i hi => ?_⟩, fun i hi => (k i hi).2.2.2.1, fun i hi => (k i hi).2.2.2.2, ?_, c4.1, g9⟩
  · obtain ⟨k1, k2, -⟩ := k m hm
    exact ⟨(hXS m hm).1.trans k1.1, (hXS m hm).2.trans k2.1, k1.2, k2.2⟩
  · obtain ⟨-, -, k3, k4, k5⟩ := k m hm
    exact ⟨(hXL.1 m hm).1.trans k3.1, k3.2, (hXL.1 m hm).2.trans k5.1, k5.2, (hXJ.1 m hm).trans k4.1, k4.2⟩
  · rw [v3, c5]; exact g6
  · rw [hXJ.2.2, c6]; exact g7
  · rw [c6]; exact g7
  · obtain ⟨k1, k2, k3, -⟩ := k i hi
    exact ⟨k1.1, k2.1, k3.1, k1.2, k2.2, k3.2⟩
  · rw [c5]; exact g6
/-- both rounds answer alike -/
theorem rd_ans {n0 : Nat} {i10 i11 m27 m28 : Int32} {r13 r14 r1 s24 s25 s0 : Nat → Int32} {px py pm pl pw : Nat → Nat} {pc sx sy bg lst car : Nat} {x1 r8 r9 : Int32} {W B W' B' : Nat} {ms ms' : List Nat} (e1 : i10 = m27) (e2 : i11 = m28) (hw : XW r13 r14 s24 s25) (hd : XD r1 s0) (hp : ∀ m, m < n0 → px m ≤ 39 ∧ py m ≤ 39) (hl : List.length ms ≤ 10) (hs : zSP (jbN n0 pw) (opD i10 i11 r13 r14 r1 px py) (wyC px py pc sx sy) (whC px py pc sx sy) pm pl pw bg lst car W B ms) (ha : zAN W B ms (obgs (opD i10 i11 r13 r14 r1 px py) (wyC px py pc sx sy) pm none bg ms) (lsum pl ms) x1 r8) (hs' : zSP (jbN n0 pw) (opR m27 m28 s24 s25 s0 px py) (fun a m => wayN px py sx sy pc a (some m)) (whM px py sx sy pc) pm pl pw bg lst car W' B' ms') (ha' : zAN W' B' ms' (obgs (opR m27 m28 s24 s25 s0 px py) (fun a m => wayN px py sx sy pc a (some m)) pm none bg ms') (lsum pl ms') x1 r9) : r8 = r9 := by
  have ho : ∀ m, jbN n0 pw m → (∀ q, q < 24 → (opD i10 i11 r13 r14 r1 px py m q ↔ opR m27 m28 s24 s25 s0 px py m q)) ∧ wyC px py pc sx sy none m = wayN px py sx sy pc none (some m) ∧ whC px py pc sx sy (some m) = whM px py sx sy pc (some m) ∧ ∀ d, jbN n0 pw d → wyC px py pc sx sy (some d) m = wayN px py sx sy pc (some d) (some m) := fun m hm => by
    obtain ⟨p1, p2⟩ := hp m hm.1
    refine ⟨fun q hq => ?_, ?_, ?_, fun d hd => ?_⟩
    · have q1 := hd (px m) (py m) (by omega) (by omega)
      have q1 : r1 ((py m * 40) + px m) = s0 ((40 * px m) + py m) := q1
      obtain ⟨q2, q3⟩ := hw q hq
      unfold opD mayD opR
      rw [q1, q2, q3, e1, e2, Int32.not_lt, Int32.not_lt]
    · show (max (ad (px m) sx) (ad (py m) sy)) * pc = pc * max (ad sx (px m)) (ad sy (py m))
      rw [Nat.mul_comm, ad_comm (px m), ad_comm (py m)]
    · show (max (ad (px m) sx) (ad (py m) sy)) * pc = pc * max (ad (px m) sx) (ad (py m) sy)
      rw [Nat.mul_comm]
    · show (max (ad (px d) (px m)) (ad (py d) (py m))) * pc = pc * max (ad (px d) (px m)) (ad (py d) (py m))
      rw [Nat.mul_comm]
  have hs2 := sp_same (jb' := jbN n0 pw) (op' := opR m27 m28 s24 s25 s0 px py) (wy' := fun a m => wayN px py sx sy pc a (some m)) (wh' := whM px py sx sy pc) (mn' := pm) (ld' := pl) (wg' := pw) (fun _ => Iff.rfl) (fun m hm => ⟨(ho m hm).1, rfl, rfl, rfl, (ho m hm).2.1, (ho m hm).2.2.1, (ho m hm).2.2.2⟩) rfl hs
  have hob := ob_same (jb := jbN n0 pw) (op' := opR m27 m28 s24 s25 s0 px py) (wy' := fun a m => wayN px py sx sy pc a (some m)) (mn := pm) (mn' := pm) (fun m hm => ⟨(ho m hm).1, rfl, (ho m hm).2.1, (ho m hm).2.2.2⟩) ms none bg hs.1.2.1 (fun m q => by cases q)
  obtain ⟨rfl, rfl, rfl⟩ := sp_uniq hs2 hs'
  rw [hob] at ha
  exact an_un hl ha ha'
theorem ps_ord {n0 : Nat} {i10 i11 : Int32} {r13 r14 r1 : Nat → Int32} {px py pm pl pw : Nat → Nat} {pc sx sy bg lst car : Nat} {i21 i22 i23 : Int32} {f16 f18 f26 f27 : Nat → Int32} (h : zPS n0 i10 i11 r13 r14 r1 px py pm pl pw pc sx sy bg lst car i21 i22 i23 f16 f18 f26 f27) : ordOk i21 f26 := by
  obtain ⟨W, B, O, ms, g, -, -, a3, a4, -, a6, a7, -⟩ := h
  exact Or.inr ⟨List.length O, a3, a4, fun j hj => ⟨O.getD j 0, (a7 _ (getD_mem hj)).1, a6 j hj⟩⟩
theorem iq_start {mv : Nat → Nat → Int32} {fc : Nat → Int32} : IQ 0 mv ivS (fun _ _ => 0) miS (fun _ => 0) (mavS fc) :=
  ⟨⟨rfl, rfl, rfl, rfl, rfl, rfl, rfl, 0, by decide, rfl⟩, fun _ _ => ⟨rfl, rfl⟩, fun _ _ _ _ => rfl, ⟨fun i hi => absurd hi (Nat.not_lt_zero _), fun _ _ _ => ⟨rfl, rfl⟩, fun _ _ => ⟨0, by decide, rfl⟩⟩, fun q => absurd rfl q, fun q => absurd rfl q⟩
