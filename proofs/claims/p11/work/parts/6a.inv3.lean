theorem vw_le {x2 : Int32} {v w : Nat} (e1 : x2 = nI v) (e2 : x2 = nI w) (hw : w ≤ 8) : w ≤ v := by
  have h := congrArg (fun z : Int32 => z.toBitVec.toNat) (e1.symm.trans e2)
  have h1 : (nI v).toBitVec.toNat = v % 2 ^ 32 := by show (BitVec.ofNat 32 v).toNat = _; rw [BitVec.toNat_ofNat]
  have h2 : (nI w).toBitVec.toNat = w % 2 ^ 32 := by show (BitVec.ofNat 32 w).toNat = _; rw [BitVec.toNat_ofNat]
  have h : (nI v).toBitVec.toNat = (nI w).toBitVec.toNat := h
  rw [h1, h2] at h
  have := Nat.mod_le v (2 ^ 32)
  omega
theorem cq_un {w : Nat → Int32} {th le sn x r r' : Int32} {t : Nat} (h : coP w th le sn t x r) (h' : coP w th le sn t x r') : r = r' := by
  have lf : ∀ {a b : Int32} {c : Nat}, lfP w th le c a → lfP w th le c b → a = b := by
    intro a b c ha hb
    rcases ha with ⟨k, a1, a2, a3, a4⟩ | ⟨a1, a2⟩ <;> rcases hb with ⟨j, b1, b2, b3, b4⟩ | ⟨b1, b2⟩
    · have : k = j := by
        rcases Nat.lt_trichotomy k j with q | q | q
        · exact absurd a3 (b2 k q)
        · exact q
        · exact absurd b3 (a2 j q)
      rw [a4, b4, this]
    · exact absurd a3 (b1 k a1)
    · exact absurd b3 (a1 j b1)
    · rw [a2, b2]
  unfold coP at h h'
  rcases h with ⟨p, q⟩ | ⟨p, q⟩ | ⟨p, q⟩ | ⟨p0, p1, p2, q⟩ <;> rcases h' with ⟨p', q'⟩ | ⟨p', q'⟩ | ⟨p', q'⟩ | ⟨p0', p1', p2', q'⟩ <;> first | (rw [q, q']; done) | exact lf q q' | (exact absurd (p.symm.trans p') (by decide)) | contradiction
theorem xs_k {n0 : Nat} {mv mv' : Nat → Nat → Int32} {s2 s3 : Nat → Int32} (h : XS n0 mv s2 s3) (k0 : ∀ i, mv' i 0 = mv i 0) (k1 : ∀ i, mv' i 1 = mv i 1) : XS n0 mv' s2 s3 := fun i hi => by rw [k0, k1]; exact h i hi
theorem xr_k {n0 : Nat} {mv mv' mrs : Nat → Nat → Int32} {s13 s14 : Nat → Int32} (h : XR n0 mv mrs s13 s14) (k : ∀ i, mv' i 14 = mv i 14) : XR n0 mv' mrs s13 s14 := ⟨fun i hi => by rw [k]; exact h.1 i hi, h.2⟩
theorem xj_k {n0 : Nat} {mv mv' : Nat → Nat → Int32} {s23 : Nat → Int32} {i8 m33 : Int32} (h : XJ n0 mv s23 i8 m33) (k : ∀ i, mv' i 5 = mv i 5) : XJ n0 mv' s23 i8 m33 := ⟨fun i hi => by rw [k]; exact h.1 i hi, h.2⟩
theorem xk_k {n0 : Nat} {mv mv' : Nat → Nat → Int32} {i1 : Int32} {r3 s8 s9 s10 s11 s12 : Nat → Int32} (h : XK n0 mv i1 r3 s8 s9 s10 s11 s12) (k : ∀ i q, 9 ≤ q → q ≤ 13 → mv' i q = mv i q) : XK n0 mv' i1 r3 s8 s9 s10 s11 s12 := ⟨h.1, h.2.1, fun i hi => by
  rw [k i 9 (by decide) (by decide), k i 10 (by decide) (by decide), k i 11 (by decide) (by decide), k i 12 (by decide) (by decide), k i 13 (by decide) (by decide)]
  exact h.2.2 i hi⟩
theorem cl_pair {n0 m v : Nat} {near x3 p : Int32} {mv mrs : Nat → Nat → Int32} {s2 s3 s13 s14 g14 pf : Nat → Int32} (hm : m < n0) (hs : XS n0 mv s2 s3) (h : XR n0 mv mrs s13 s14) (hv : v ≤ 8) (hp : p = nI v) (hpf : ∀ k, k < v → pf k = dgF x3 k) (hg : ∀ k, k < v → g14 ((8 * m) + k) = dgF x3 k) (ho : ∀ j, (j < 8 * m ∨ 8 * m + 8 ≤ j) → g14 j = s14 j) : (∃ k, k < n0 ∧ cnC near p pf mv mrs m k) ↔ (∃ k, k < n0 ∧ clM near s2 s3 (upd s13 m p) g14 m k) := by
  have key : ∀ k, k < n0 → (cnC near p pf mv mrs m k ↔ clM near s2 s3 (upd s13 m p) g14 m k) := by
    intro k hk
    by_cases e : k = m
    · constructor
      · intro q; exact absurd e q.1
      · intro q; exact absurd e.symm q.1
    · unfold cnC clM
      have e1 : upd s13 m p m = p := by simp [upd]
      have e2 : upd s13 m p k = s13 k := by simp [upd, e]
      obtain ⟨b1, q, b2, b3, b4, b5⟩ := h.1 k hk
      rw [e1, e2, ← b1, nr_eq hs hm hk]
      refine and_congr ⟨fun q q' => q q'.symm, fun q q' => q q'.symm⟩ (and_congr Iff.rfl (and_congr_right (fun e3 => ?_)))
      have e4 : v = q := (nI_inj9 (by omega) (by omega)).mp (hp.symm.trans (e3.trans b4))
      rw [hp, nI_clamp (by omega)]
      refine alk_congr (fun j hj => ?_) (fun j hj => ?_)
      · rw [hpf j hj]; exact (hg j hj).symm
      · rw [b5 j (by omega)]
        show s14 (8 * k + j) = g14 (8 * k + j)
        exact (ho _ (by omega)).symm
  exact ⟨fun ⟨k, a, b⟩ => ⟨k, a, (key k a).mp b⟩, fun ⟨k, a, b⟩ => ⟨k, a, (key k a).mpr b⟩⟩
theorem light_ans {n0 : Nat} {near near' x1 x2 x3 r8 r9 p : Int32} {mv mrs mv' mrs' : Nat → Nat → Int32} {pf s2 s3 s13 s14 u13 u14 : Nat → Int32} (hn : n0 ≤ 10) (hs : XS n0 mv s2 s3) (h : XR n0 mv mrs s13 s14) (en : near = near') (h8 : ltC n0 near mv mrs x1 x2 x3 r8 p pf mv' mrs') (h9 : ltM n0 near' s2 s3 s13 s14 x1 x2 x3 r9 u13 u14) : r8 = r9 ∧ XR n0 mv' mrs' u13 u14 := by
  subst en
  obtain ⟨-, h8⟩ := h8
  have out : ∀ (i : Nat) (y : Int32) (w : Nat → Nat → Int32), (∀ j, (j < 8 * i ∨ 8 * i + 8 ≤ j) → u14 j = s14 j) → (∀ j, j ≠ i → w j = mrs j) → ∀ j, j < n0 → j ≠ i → mup mv i 14 y j 14 = upd s13 i y j ∧ ∃ q, q ≤ 8 ∧ q % 2 = 0 ∧ mup mv i 14 y j 14 = nI q ∧ ∀ k, k < q → w j k = u14 (8 * j + k) := by
    intro i y w ho hw j hj e
    obtain ⟨b1, q, b2, b3, b4, b5⟩ := h.1 j hj
    rw [mup_j e, hw j e]
    refine ⟨by simp [upd, e, b1], q, b2, b3, b4, fun k hk => ?_⟩
    rw [b5 k hk]; exact (ho _ (by omega)).symm
  rcases h8 with ⟨a1, i, a2, a3, a4, rfl, rfl⟩ | ⟨a1, i, a2, a3, a4, a5, a6, ⟨v, a7, a8⟩, a9, rfl, rfl⟩ | ⟨a1, a2, rfl, rfl⟩ <;> rcases h9 with ⟨b1, j, b2, b3, b4, b5, rfl, b7, b8⟩ | ⟨b1, b2, b3, b4⟩
  · have e := (nI_inj9 (by omega) (by omega)).mp (a3.symm.trans b3)
    subst e
    refine ⟨a1.trans b1.symm, ⟨fun j hj => ?_, fun j h1 h2 => ?_⟩⟩
    · by_cases e : j = i
      · subst e
        exact ⟨by rw [mup_s, a4]; simp [upd], 0, by decide, rfl, by rw [mup_s]; rfl, fun k hk => absurd hk (Nat.not_lt_zero _)⟩
      · rw [a4]; exact out i 0 _ b8 (fun _ _ => rfl) j hj e
    · have : j ≠ i := by omega
      simp only [upd, if_neg this]; exact h.2 j h1 h2
  · rcases b2 with b2 | ⟨j, c1, c2, c3, -⟩
    · exact absurd ⟨i, a2, a3⟩ b2
    · exact absurd a4 c3
  · have e := (nI_inj9 (by omega) (by omega)).mp (a3.symm.trans b3)
    subst e
    obtain ⟨w, d1, d2, d3, d4, d5, d6⟩ := a5
    have a8 := fun k (hk : k < w) => a8 k (Nat.lt_of_lt_of_le hk (vw_le a7 d3 d2))
    refine ⟨a1.trans b1.symm, ⟨fun j hj => ?_, fun j h1 h2 => ?_⟩⟩
    · by_cases e : j = i
      · subst e
        refine ⟨by rw [mup_s, a6]; simp [upd], w, d2, d4, by rw [mup_s, a6]; exact d3, fun k hk => ?_⟩
        rw [rup_s, b7 w d3 d2 k hk]
        have e9 : va_cpy pf (mrs j) (0 : Int32).toNatClampNeg (0 : Int32).toNatClampNeg (8 : Int32).toNatClampNeg k = pf k := by
          show (if 0 ≤ k ∧ k < 0 + 8 then pf (0 + (k - 0)) else mrs j k) = pf k
          rw [if_pos ⟨Nat.zero_le _, by omega⟩]
          congr 1
          omega
        rw [e9]; exact a8 k hk
      · rw [a6]
        exact out i x2 _ b8 (fun j hj => rup_j hj) j hj e
    · have : j ≠ i := by omega
      simp only [upd, if_neg this]; exact h.2 j h1 h2
  · rcases b2 with b2 | ⟨j, c1, c2, c3, c4⟩
    · exact absurd ⟨i, a2, a3⟩ b2
    · have e := (nI_inj9 (by omega) (by omega)).mp (a3.symm.trans c2)
      subst e
      rcases c4 with c4 | ⟨-, g14, c5, c6, c7⟩
      · exact absurd a5 c4
      · obtain ⟨w, d1, d2, d3, d4, d5, d6⟩ := a5
        have a8 := fun k (hk : k < w) => a8 k (Nat.lt_of_lt_of_le hk (vw_le a7 d3 d2))
        rw [a6] at a9
        exact absurd ((cl_pair a2 hs h d2 d3 a8 (c5 w d3 d2) c6).mpr c7) a9
  · rcases a2 with a2 | ⟨i, c1, c2, c3, c4⟩
    · exact absurd ⟨j, b2, b3⟩ a2
    · have e := (nI_inj9 (by omega) (by omega)).mp (c2.symm.trans b3)
      subst e
      rcases c4 with c4 | ⟨c4, c5, ⟨v, c6, c7⟩, c8⟩
      · rcases b4 with q | q
        · exact absurd q c3
        · exact absurd q c4
      · obtain ⟨w, d1, d2, d3, d4, d5, d6⟩ := c4
        have c7 := fun k (hk : k < w) => c7 k (Nat.lt_of_lt_of_le hk (vw_le c6 d3 d2))
        rw [c5] at c8
        exact absurd ((cl_pair c1 hs h d2 d3 c7 (b7 w d3 d2) b8).mp c8) b5
  · refine ⟨a1.trans b1.symm, ⟨fun i hi => ?_, fun i h1 h2 => by rw [b3]; exact h.2 i h1 h2⟩⟩
    obtain ⟨c1, q, c2, c3, c4, c5⟩ := h.1 i hi
    exact ⟨by rw [b3]; exact c1, q, c2, c3, c4, fun k hk => by rw [b4]; exact c5 k hk⟩
theorem xs_mark {n0 : Nat} {mv : Nat → Nat → Int32} {s2 s3 : Nat → Int32} {x y : Int32} {v' : Nat → Int32} (h : XS n0 mv s2 s3) (e0 : v' 0 = x) (e1 : v' 1 = y) : XS (n0 + 1) (rup mv n0 v') (upd s2 n0 x) (upd s3 n0 y) := fun i hi => by
  by_cases e : i = n0
  · subst e; rw [rup_s]; simp [upd, e0, e1]
  · rw [rup_j e]; simp only [upd, if_neg e]; exact h i (by omega)
theorem xr_mark {n0 : Nat} {mv mrs : Nat → Nat → Int32} {s13 s14 : Nat → Int32} {v' rs' : Nat → Int32} (hl : n0 < 10) (h : XR n0 mv mrs s13 s14) (e : v' 14 = 0) : XR (n0 + 1) (rup mv n0 v') (rup mrs n0 rs') s13 s14 := ⟨fun i hi => by
  by_cases q : i = n0
  · subst q; rw [rup_s, rup_s, e]
    exact ⟨(h.2 i (Nat.le_refl _) hl).symm, 0, by decide, rfl, rfl, fun k hk => absurd hk (Nat.not_lt_zero _)⟩
  · rw [rup_j q, rup_j q]; exact h.1 i (by omega), fun i h1 h2 => h.2 i (by omega) h2⟩
theorem xj_mark {n0 : Nat} {mv : Nat → Nat → Int32} {s23 : Nat → Int32} {i8 m33 : Int32} {v' : Nat → Int32} (hl : n0 < 10) (h : XJ n0 mv s23 i8 m33) (e : v' 5 = 0) : XJ (n0 + 1) (rup mv n0 v') s23 i8 m33 := ⟨fun i hi => by
  by_cases q : i = n0
  · subst q; rw [rup_s, e]; exact (h.2.1 i (Nat.le_refl _) hl).symm
  · rw [rup_j q]; exact h.1 i (by omega), fun i h1 h2 => h.2.1 i (by omega) h2, h.2.2⟩
theorem xk_mark {n0 : Nat} {mv : Nat → Nat → Int32} {i1 : Int32} {r3 s8 s9 s10 s11 s12 : Nat → Int32} {v' : Nat → Int32} (hl : n0 < 10) (h0 : 0 ≤ i1) (h : XK n0 mv i1 r3 s8 s9 s10 s11 s12) (e9 : v' 9 = 0) (e12 : v' 12 = 0) (e13 : v' 13 = 0) : XK (n0 + 1) (rup mv n0 v') i1 r3 s8 s9 s10 s11 s12 := ⟨h.1, fun i h1 h2 => h.2.1 i (by omega) h2, fun i hi => by
  by_cases q : i = n0
  · subst q; rw [rup_s]
    exact ⟨0, 0, by decide, by decide, e13, e12, h0, Or.inl ⟨e9, h.2.1 i (Nat.le_refl _) hl⟩⟩
  · rw [rup_j q]; exact h.2.2 i (by omega)⟩
theorem xk_day {n0 : Nat} {mv : Nat → Nat → Int32} {i1 x : Int32} {r3 s8 s9 s10 s11 s12 : Nat → Int32} (h : XK n0 mv i1 r3 s8 s9 s10 s11 s12) (hx : i1 ≤ x) : XK n0 mv x r3 s8 s9 s10 s11 s12 := ⟨h.1, h.2.1, fun i hi => by
  obtain ⟨c, g, a1, a2, a3, a4, a5, a6⟩ := h.2.2 i hi
  exact ⟨c, g, a1, a2, a3, a4, Int32.le_trans a5 hx, a6⟩⟩
theorem xk_wear {n0 : Nat} {mv : Nat → Nat → Int32} {i1 x1 x2 x3 : Int32} {r3 s8 s9 s10 s11 s12 : Nat → Int32} (h : XK n0 mv i1 r3 s8 s9 s10 s11 s12) : XK n0 mv i1 (upd r3 (x1 * 12 + x2).toNatClampNeg x3) s8 s9 s10 s11 (upd s12 (12 * x1 + x2).toNatClampNeg x3) := ⟨fun k hk => by
  rw [Int32.mul_comm 12 x1]
  by_cases e : k = (x1 * 12 + x2).toNatClampNeg
  · simp [upd, e]
  · simp only [upd, if_neg e]; exact h.1 k hk, h.2⟩
theorem xj_job {n0 : Nat} {iv mq : Nat → Int32} {mv : Nat → Nat → Int32} {mav : Nat → Nat → Int32} {x1 x2 x3 x4 r8 r9 i8 m33 : Int32} {u8 : Int32 × (Nat → Nat → Int32)} {u9 : (Nat → Int32) × (Nat → Int32) × (Nat → Int32) × Int32} (hn : n0 ≤ 10) (h : XJ n0 mv (mav 23) i8 m33) (h8 : (r8 = 1 ∧ (isM n0 x1 ∧ (0 ≤ x2 ∧ x2 ≤ 600) ∧ (0 ≤ x3 ∧ x3 ≤ 1000) ∧ (0 ≤ x4 ∧ x4 ≤ 1000)) ∧ ∃ i, i < n0 ∧ x1 = nI i ∧ u8 = (0, mup (mup (mup mv i 3 x2) i 4 x3) i 5 x4)) ∨ (r8 = 0 ∧ ¬ (isM n0 x1 ∧ (0 ≤ x2 ∧ x2 ≤ 600) ∧ (0 ≤ x3 ∧ x3 ≤ 1000) ∧ (0 ≤ x4 ∧ x4 ≤ 1000)) ∧ u8 = (iv 3, mv))) (h9 : (r9 = 1 ∧ (isM n0 x1 ∧ (0 ≤ x2 ∧ x2 ≤ 600) ∧ (0 ≤ x3 ∧ x3 ≤ 1000) ∧ (0 ≤ x4 ∧ x4 ≤ 1000)) ∧ ∃ i, i < n0 ∧ x1 = nI i ∧ u9 = (upd (mav 21) i x2, upd (mav 22) i x3, upd (mav 23) i x4, 0)) ∨ (r9 = 0 ∧ ¬ (isM n0 x1 ∧ (0 ≤ x2 ∧ x2 ≤ 600) ∧ (0 ≤ x3 ∧ x3 ≤ 1000) ∧ (0 ≤ x4 ∧ x4 ≤ 1000)) ∧ u9 = (mav 21, mav 22, mav 23, mq 43))) : XJ n0 u8.2 u9.2.2.1 i8 m33 := by
  rcases h8 with ⟨-, a, i, a1, a2, rfl⟩ | ⟨-, a, rfl⟩ <;> rcases h9 with ⟨-, b, j, b1, b2, rfl⟩ | ⟨-, b, rfl⟩
  · have e := (nI_inj9 (by omega) (by omega)).mp (a2.symm.trans b2)
    subst e
    refine ⟨fun k hk => ?_, fun k h1 h2 => ?_, h.2.2⟩
    · by_cases e : k = i
      · subst e; dsimp only; rw [mup_s]; simp [upd]
      · dsimp only; rw [mup_j e, mup_j e, mup_j e]; simp only [upd, if_neg e]; exact h.1 k hk
    · have : k ≠ i := by omega
      simp only [upd, if_neg this]; exact h.2.1 k h1 h2
  · exact absurd a b
  · exact absurd b a
  · exact h
theorem xk_chain {n0 T : Nat} {mv : Nat → Nat → Int32} {mav : Nat → Nat → Int32} {i1 x1 x2 x3 x4 r8 r9 : Int32} {r3 s12 : Nat → Int32} {u8 : Nat → Nat → Int32} {u9 : (Nat → Int32) × (Nat → Int32) × (Nat → Int32) × (Nat → Int32)} (hn : n0 ≤ 10) (hT : T ≤ 10000) (hT8 : i1 = nI T) (h : XK n0 mv i1 r3 (mav 8) (mav 9) (mav 10) (mav 11) s12) (h8 : (r8 = 1 ∧ (isM n0 x1 ∧ (1 ≤ x2 ∧ x2 ≤ 1000) ∧ (0 ≤ x3 ∧ x3 ≤ x2) ∧ (0 ≤ x4 ∧ x4 ≤ 3)) ∧ ∃ i, i < n0 ∧ x1 = nI i ∧ u8 = mup (mup (mup (mup (mup mv i 9 1) i 10 x2) i 11 x3) i 12 x4) i 13 (nI (T / 30))) ∨ (r8 = 0 ∧ ¬ (isM n0 x1 ∧ (1 ≤ x2 ∧ x2 ≤ 1000) ∧ (0 ≤ x3 ∧ x3 ≤ x2) ∧ (0 ≤ x4 ∧ x4 ≤ 3)) ∧ u8 = mv)) (h9 : (r9 = 1 ∧ (isM n0 x1 ∧ (1 ≤ x2 ∧ x2 ≤ 1000) ∧ (0 ≤ x3 ∧ x3 ≤ x2) ∧ (0 ≤ x4 ∧ x4 ≤ 3)) ∧ ∃ i, i < n0 ∧ x1 = nI i ∧ u9 = (upd (mav 8) i (nI (T / 30)), upd (mav 9) i x2, upd (mav 10) i x3, upd (mav 11) i x4)) ∨ (r9 = 0 ∧ ¬ (isM n0 x1 ∧ (1 ≤ x2 ∧ x2 ≤ 1000) ∧ (0 ≤ x3 ∧ x3 ≤ x2) ∧ (0 ≤ x4 ∧ x4 ≤ 3)) ∧ u9 = (mav 8, mav 9, mav 10, mav 11))) : XK n0 u8 i1 r3 u9.1 u9.2.1 u9.2.2.1 u9.2.2.2 s12 := by
  rcases h8 with ⟨-, a, i, a1, a2, rfl⟩ | ⟨-, a, rfl⟩ <;> rcases h9 with ⟨-, b, j, b1, b2, rfl⟩ | ⟨-, b, rfl⟩
  · have e := (nI_inj9 (by omega) (by omega)).mp (a2.symm.trans b2)
    subst e
    refine ⟨h.1, fun k h1 h2 => ?_, fun k hk => ?_⟩
    · have : k ≠ i := by omega
      simp only [upd, if_neg this]; exact h.2.1 k h1 h2
    · by_cases e : k = i
      · subst e
        obtain ⟨g, g1, g2⟩ := rng_n (N := 3) (by decide) a.2.2.2
        refine ⟨T / 30, g, by omega, g1, mup_s, ?_, ?_, Or.inr ⟨?_, ?_, ?_, ?_, ?_⟩⟩
        · rw [mup_k (by decide), mup_s]; exact g2
        · rw [hT8]; exact nI_le (by omega) (by omega)
        · rw [mup_k (by decide), mup_k (by decide), mup_k (by decide), mup_k (by decide), mup_s]
        · rw [mup_s]; simp [upd]
        · rw [mup_k (by decide), mup_k (by decide), mup_k (by decide), mup_s]; simp [upd]
        · rw [mup_k (by decide), mup_k (by decide), mup_s]; simp [upd]
        · rw [mup_k (by decide), mup_s]; simp [upd]
      · obtain ⟨c, g, c1, c2, c3, c4, c5, c6⟩ := h.2.2 k hk
        refine ⟨c, g, c1, c2, ?_, ?_, c5, ?_⟩
        · rw [mup_j e, mup_j e, mup_j e, mup_j e, mup_j e]; exact c3
        · rw [mup_j e, mup_j e, mup_j e, mup_j e, mup_j e]; exact c4
        · simp only [mup_j e, upd, if_neg e]; exact c6
  · exact absurd a b
  · exact absurd b a
  · exact h
theorem co_ans {n0 T : Nat} {mv : Nat → Nat → Int32} {av mav : Nat → Nat → Int32} {i1 x1 x2 r r' : Int32} (hn : n0 ≤ 10) (h : XK n0 mv i1 (av 3) (mav 8) (mav 9) (mav 10) (mav 11) (mav 12)) (h8 : (∃ i, i < n0 ∧ x1 = nI i ∧ ¬ mv i 9 = 0 ∧ coP (wkF (av 3) (mv i 12)) (mv i 10) (mv i 11) (mv i 13) (T / 30) x2 r) ∨ (r = -1 ∧ ¬ ∃ i, i < n0 ∧ x1 = nI i ∧ ¬ mv i 9 = 0)) (h9 : (∃ i, i < n0 ∧ x1 = nI i ∧ ¬ (mav 8) i < 0 ∧ coP (wkF (mav 12) ((mav 11) i)) ((mav 9) i) ((mav 10) i) ((mav 8) i) (T / 30) x2 r') ∨ (r' = -1 ∧ ¬ ∃ i, i < n0 ∧ x1 = nI i ∧ ¬ (mav 8) i < 0)) : r = r' := by
  have hi : ∀ i, i < n0 → ((¬ mv i 9 = 0) ↔ ¬ (mav 8) i < 0) := fun i hi => by
    obtain ⟨c, g, c1, c2, c3, c4, c5, c6⟩ := h.2.2 i hi
    rcases c6 with ⟨d1, d2⟩ | ⟨d1, d2, -⟩
    · rw [d1, d2]; decide
    · rw [d1, d2, c3]
      exact ⟨fun _ => nI_pos (by omega), fun _ => by decide⟩
  rcases h8 with ⟨i, a1, a2, a3, a4⟩ | ⟨a1, a2⟩ <;> rcases h9 with ⟨j, b1, b2, b3, b4⟩ | ⟨b1, b2⟩
  · have e := (nI_inj9 (by omega) (by omega)).mp (a2.symm.trans b2)
    subst e
    obtain ⟨c, g, c1, c2, c3, c4, c5, c6⟩ := h.2.2 i a1
    rcases c6 with ⟨d1, d2⟩ | ⟨d1, d2, d3, d4, d5⟩
    · exact absurd d1 a3
    · rw [d2, d3, d4, d5] at b4
      have ew : wkF (mav 12) (mv i 12) = wkF (av 3) (mv i 12) := by
        rw [wk_eq c4 c2, wk_eq c4 c2]; funext j
        exact (h.1 _ (by omega)).symm
      rw [ew] at b4
      exact cq_un a4 b4
  · exact absurd ⟨i, a1, a2, (hi i a1).mp a3⟩ b2
  · exact absurd ⟨j, b1, b2, (hi j b1).mpr b3⟩ a2
  · exact a1.trans b1.symm
theorem cnt_job {n0 : Nat} {mv : Nat → Nat → Int32} {s23 : Nat → Int32} {i8 m33 : Int32} (h : XJ n0 mv s23 i8 m33) : cntP (jbC mv) n0 = cntP (jbM s23) n0 := cnt_iff (k := n0) (fun w hw => by unfold jbC jbM; rw [h.1 w hw]) n0 (Nat.le_refl _)
theorem ab_un {a0 a1 a2 a3 a4 a5 x r r' : Int32} (h : abP a0 a1 a2 a3 a4 a5 x r) (h' : abP a0 a1 a2 a3 a4 a5 x r') : r = r' := by
  unfold abP at h h'
  rcases h with ⟨p, q⟩ | ⟨p, q⟩ | ⟨p, q⟩ | ⟨p, q⟩ | ⟨p, q⟩ | ⟨p, q⟩ | ⟨p0, p1, p2, p3, p4, p5, q⟩ <;> rcases h' with ⟨p', q'⟩ | ⟨p', q'⟩ | ⟨p', q'⟩ | ⟨p', q'⟩ | ⟨p', q'⟩ | ⟨p', q'⟩ | ⟨p0', p1', p2', p3', p4', p5', q'⟩ <;> first | (rw [q, q']; done) | (exact absurd (p.symm.trans p') (by decide)) | contradiction
