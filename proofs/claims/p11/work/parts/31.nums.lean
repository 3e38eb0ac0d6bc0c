/-- the way between two numbers -/
def ad (a b : Nat) : Nat := (a - b) + (b - a)
theorem ad_pos {a b : Nat} (ha : a < 2 ^ 30) (hb : b < 2 ^ 30) (h : 0 ≤ nI a - nI b) : nI a - nI b = nI (ad a b) := by
  rcases Nat.lt_or_ge a b with q | q
  · exact absurd (pk_sneg hb q) (Int32.not_lt.mpr h)
  · rw [pk_sub q]; unfold ad; rw [show a - b + (b - a) = a - b by omega]
theorem ad_neg {a b : Nat} (ha : a < 2 ^ 30) (hb : b < 2 ^ 30) (h : ¬ 0 ≤ nI a - nI b) : -(nI a - nI b) = nI (ad a b) := by
  rcases Nat.lt_or_ge a b with q | q
  · apply Int32.toInt_inj.mp
    have h1 := pk_sub_toInt ha hb
    rw [nI_toInt (by unfold ad; omega)]
    have h2 : (-(nI a - nI b)).toInt = -((nI a - nI b).toInt) := by
      rw [Int32.toInt_neg]
      rw [h1]
      apply Int.bmod_eq_of_le_mul_two <;> omega
    rw [h2, h1]
    unfold ad
    omega
  · rw [pk_sub q] at h
    exact absurd (nI_pos' (by omega)) h
theorem ad_le {a b k : Nat} (ha : a ≤ k) (hb : b ≤ k) : ad a b ≤ k := by unfold ad; omega
/-- a number or none, as the program has it -/
def encO : Option Nat → Int32
  | none => -1
  | some k => nI k
theorem encO_neg {o : Option Nat} (h : encO o < 0) (hb : ∀ k, o = some k → k < 2 ^ 31) : o = none := by
  cases o with
  | none => rfl
  | some k => exact absurd h (nI_pos (hb k rfl))
theorem encO_pos {o : Option Nat} (h : ¬ encO o < 0) : ∃ k, o = some k := by
  cases o with
  | none => exact absurd (show encO none < 0 by decide) h
  | some k => exact ⟨k, rfl⟩
theorem nx_or (a b : Nat) : nI a ||| nI b = nI (a ||| b) := by
  apply Int32.toBitVec_inj.mp
  apply BitVec.eq_of_toNat_eq
  rw [Int32.toBitVec_or, BitVec.toNat_or]
  show (nI a).toBitVec.toNat ||| (nI b).toBitVec.toNat = (nI (a ||| b)).toBitVec.toNat
  have e : ∀ k : Nat, (nI k).toBitVec.toNat = k % 2 ^ 32 := fun k => by
    show (Int32.ofNat k).toBitVec.toNat = _
    rw [Int32.toBitVec_ofNat', BitVec.toNat_ofNat]
  rw [e, e, e, Nat.or_mod_two_pow]
theorem nx_and2 (a b : Nat) : nI a &&& nI b = nI (a &&& b) := by
  apply Int32.toBitVec_inj.mp
  apply BitVec.eq_of_toNat_eq
  rw [Int32.toBitVec_and, BitVec.toNat_and]
  have e : ∀ k : Nat, (nI k).toBitVec.toNat = k % 2 ^ 32 := fun k => by
    show (Int32.ofNat k).toBitVec.toNat = _
    rw [Int32.toBitVec_ofNat', BitVec.toNat_ofNat]
  rw [e, e, e, Nat.and_mod_two_pow]
theorem s_l32 : ∀ n, n < 32 → ((nI n &&& 31).toBitVec.smod 32).toNat = n := by decide +kernel
theorem nx_shl1 {m : Nat} (h : m < 31) : (1 : Int32) <<< (nI m &&& 31) = nI (2 ^ m) := by
  have := pk_shlN (n := 1) (nI m &&& 31) m (s_l32 m (by omega)) (by rw [Nat.one_mul]; exact Nat.pow_lt_pow_right (by decide) (by omega))
  rw [Nat.one_mul] at this
  exact this
theorem nx_bit2 {S m : Nat} (hS : S < 2 ^ 31) (h : m < 32) : (nI S >>> (nI m &&& 31)) &&& 1 = nI (S / 2 ^ m % 2) := by
  rw [pk_shrN hS _ m (s_l32 m h), pk_andN (Nat.lt_of_le_of_lt (Nat.div_le_self _ _) (by omega)) 1 (by decide)]
theorem bit_t {S m : Nat} (h : nI (S / 2 ^ m % 2) = 1) : S.testBit m = true := by
  rw [Nat.testBit_eq_decide_div_mod_eq]
  have h2 : S / 2 ^ m % 2 < 2 := Nat.mod_lt _ (by decide)
  have := (nI_eq (a := S / 2 ^ m % 2) (b := 1) (by omega) (by decide)).mp h
  simp [this]
theorem bit_f {S m : Nat} (h : ¬ nI (S / 2 ^ m % 2) = 1) : S.testBit m = false := by
  rw [Nat.testBit_eq_decide_div_mod_eq]
  have h2 : ¬ S / 2 ^ m % 2 = 1 := fun q => h (by rw [q]; rfl)
  simp [h2]
/-- the first minute from t on at which mark m may begin -/
def bgP (op : Nat → Nat → Prop) (m t : Nat) (r : Option Nat) : Prop := (r = none ∧ ∀ k, t ≤ k → k < 1440 → ¬ op m (k / 60)) ∨ ∃ b, r = some b ∧ t ≤ b ∧ b < 1440 ∧ op m (b / 60) ∧ ∀ k, t ≤ k → k < b → ¬ op m (k / 60)
theorem bgP_ex (op : Nat → Nat → Prop) (m t : Nat) : ∃ r, bgP op m t r := by
  by_cases h : ∃ k, t ≤ k ∧ k < 1440 ∧ op m (k / 60)
  · obtain ⟨b, ⟨h1, h2, h3⟩, h4⟩ := pk_least (fun k => t ≤ k ∧ k < 1440 ∧ op m (k / 60)) h
    exact ⟨some b, Or.inr ⟨b, rfl, h1, h2, h3, fun k g1 g2 g3 => h4 k g2 ⟨g1, by omega, g3⟩⟩⟩
  · exact ⟨none, Or.inl ⟨rfl, fun k g1 g2 g3 => h ⟨k, g1, g2, g3⟩⟩⟩
noncomputable def bgF (op : Nat → Nat → Prop) (m t : Nat) : Option Nat := Classical.choose (bgP_ex op m t)
theorem bgF_P (op : Nat → Nat → Prop) (m t : Nat) : bgP op m t (bgF op m t) := Classical.choose_spec (bgP_ex op m t)
theorem bgP_uniq {op : Nat → Nat → Prop} {m t : Nat} {r r' : Option Nat} (h : bgP op m t r) (h' : bgP op m t r') : r = r' := by
  rcases h with ⟨rfl, h1⟩ | ⟨b, rfl, h1, h2, h3, h4⟩
  · rcases h' with ⟨rfl, -⟩ | ⟨b', rfl, g1, g2, g3, -⟩
    · rfl
    · exact absurd g3 (h1 b' g1 g2)
  · rcases h' with ⟨rfl, g1⟩ | ⟨b', rfl, g1, g2, g3, g4⟩
    · exact absurd h3 (g1 b h1 h2)
    · have : b = b' := by
        rcases Nat.lt_trichotomy b b' with q | q | q
        · exact absurd h3 (g4 b h1 q)
        · exact q
        · exact absurd g3 (h4 b' g1 q)
      rw [this]
theorem bgF_mono {op : Nat → Nat → Prop} {m t t' b' : Nat} (ht : t ≤ t') (h : bgF op m t' = some b') : ∃ b, bgF op m t = some b ∧ b ≤ b' := by
  have h1 := bgF_P op m t'
  have h2 := bgF_P op m t
  rw [h] at h1
  rcases h1 with ⟨q, -⟩ | ⟨b0, e0, g1, g2, g3, -⟩
  · cases q
  · cases e0
    rcases h2 with ⟨e, k1⟩ | ⟨b, e, k1, k2, k3, k4⟩
    · exact absurd g3 (k1 b' (by omega) g2)
    · refine ⟨b, e, ?_⟩
      rcases Nat.lt_or_ge b' b with q | q
      · exact absurd g3 (k4 b' (by omega) q)
      · exact q
theorem bgF_lt {op : Nat → Nat → Prop} {m t b : Nat} (h : bgF op m t = some b) : t ≤ b ∧ b < 1440 := by
  have h1 := bgF_P op m t
  rw [h] at h1
  rcases h1 with ⟨q, -⟩ | ⟨b0, e0, g1, g2, -, -⟩
  · cases q
  · cases e0; exact ⟨g1, g2⟩
/-- what the reference's 'does' answers -/
noncomputable def dzF (ok : Nat → Nat → Prop) (op : Nat → Nat → Prop) (wy : Option Nat → Nat → Nat) (pm : Nat → Nat) (lst : Nat) : DZ := fun S a t m => @ite _ (ok S m) (Classical.propDecidable _) (match bgF op m (t + wy a m) with | none => none | some b => if b + pm m ≤ lst then some (b + pm m) else none) none
theorem dzF_some {ok op : Nat → Nat → Prop} {wy : Option Nat → Nat → Nat} {pm : Nat → Nat} {lst S : Nat} {a : Option Nat} {t m u : Nat} (h : dzF ok op wy pm lst S a t m = some u) : ok S m ∧ ∃ b, bgF op m (t + wy a m) = some b ∧ b + pm m ≤ lst ∧ u = b + pm m := by
  unfold dzF at h
  by_cases c : ok S m
  · rw [if_pos c] at h
    refine ⟨c, ?_⟩
    cases hb : bgF op m (t + wy a m) with
    | none => rw [hb] at h; cases h
    | some b =>
      rw [hb] at h
      have h : (if b + pm m ≤ lst then some (b + pm m) else none) = some u := h
      by_cases d : b + pm m ≤ lst
      · rw [if_pos d] at h; cases h; exact ⟨b, rfl, d, rfl⟩
      · rw [if_neg d] at h; cases h
  · rw [if_neg c] at h; cases h
theorem dzF_is {ok op : Nat → Nat → Prop} {wy : Option Nat → Nat → Nat} {pm : Nat → Nat} {lst S : Nat} {a : Option Nat} {t m b : Nat} (c : ok S m) (hb : bgF op m (t + wy a m) = some b) (d : b + pm m ≤ lst) : dzF ok op wy pm lst S a t m = some (b + pm m) := by
  unfold dzF
  rw [if_pos c, hb]
  show (if b + pm m ≤ lst then some (b + pm m) else none) = _
  rw [if_pos d]
theorem dzF_no1 {ok op : Nat → Nat → Prop} {wy : Option Nat → Nat → Nat} {pm : Nat → Nat} {lst S : Nat} {a : Option Nat} {t m : Nat} (c : ¬ ok S m) : dzF ok op wy pm lst S a t m = none := by
  unfold dzF; rw [if_neg c]
theorem dzF_no2 {ok op : Nat → Nat → Prop} {wy : Option Nat → Nat → Nat} {pm : Nat → Nat} {lst S : Nat} {a : Option Nat} {t m : Nat} (c : ok S m) (hb : bgF op m (t + wy a m) = none) : dzF ok op wy pm lst S a t m = none := by
  unfold dzF; rw [if_pos c, hb]
theorem dzF_no3 {ok op : Nat → Nat → Prop} {wy : Option Nat → Nat → Nat} {pm : Nat → Nat} {lst S : Nat} {a : Option Nat} {t m b : Nat} (c : ok S m) (hb : bgF op m (t + wy a m) = some b) (d : ¬ b + pm m ≤ lst) : dzF ok op wy pm lst S a t m = none := by
  unfold dzF; rw [if_pos c, hb]
  show (if b + pm m ≤ lst then some (b + pm m) else none) = _
  rw [if_neg d]
theorem dzF_ok {ok op : Nat → Nat → Prop} {wy : Option Nat → Nat → Nat} {pm : Nat → Nat} {lst M : Nat} (h : ∀ S m, ok S m → m < M ∧ S.testBit m = false) : dzOk (dzF ok op wy pm lst) M := by
  refine ⟨fun S a t m u hu => h S m (dzF_some hu).1, fun S a t t' m u' ht hu => ?_⟩
  obtain ⟨c, b, hb, hl, rfl⟩ := dzF_some hu
  obtain ⟨b2, e1, e2⟩ := bgF_mono (show t + wy a m ≤ t' + wy a m by omega) hb
  exact ⟨b2 + pm m, dzF_is c e1 (by omega), by omega⟩
