/-- z, less w of c, c + 1, .. : k of them -/
def subF (w : Nat → Int32) (z : Int32) (c : Nat) : Nat → Int32
  | 0 => z
  | k + 1 => subF w z c k - w (c + k)
theorem sb_s {w : Nat → Int32} {z : Int32} {c k : Nat} (h : c ≤ k) : subF w z c (k + 1 - c) = subF w z c (k - c) - w k := by
  rw [show k + 1 - c = (k - c) + 1 by omega]
  show subF w z c (k - c) - w (c + (k - c)) = _
  rw [show c + (k - c) = k by omega]
def lfP (w : Nat → Int32) (th le : Int32) (c : Nat) (r : Int32) : Prop := (∃ k, k < 400 ∧ (∀ j, j < k → ¬ subF w th c (j + 1) < le) ∧ subF w th c (k + 1) < le ∧ r = nI (c + k)) ∨ ((∀ j, j < 400 → ¬ subF w th c (j + 1) < le) ∧ r = -1)
def wkF (f : Nat → Int32) (kd : Int32) : Nat → Int32 := fun j => f ((kd.toNatClampNeg * 12) + (j % 12))
theorem wk_eq {f : Nat → Int32} {kd : Int32} {g : Nat} (e : kd = nI g) (hg : g ≤ 3) : wkF f kd = fun j => f ((g * 12) + (j % 12)) := by
  unfold wkF; rw [e, nI_clamp (by omega)]
theorem wk_eq9 {f : Nat → Int32} {kd : Int32} {g : Nat} (e : kd = nI g) (hg : g ≤ 3) : wkF f kd = fun j => f ((12 * g) + (j % 12)) := by
  rw [wk_eq e hg]; funext j; rw [Nat.mul_comm g 12]
/-- what chainOf answers of a chain: w what wears, th thickness, le the least, sn the month in which it was set, t the clock's month -/
def coP (w : Nat → Int32) (th le sn : Int32) (t : Nat) (x r : Int32) : Prop :=
  (x = 0 ∧ r = (if 0 < subF w th sn.toNatClampNeg (t + 1 - sn.toNatClampNeg) then subF w th sn.toNatClampNeg (t + 1 - sn.toNatClampNeg) else 0)) ∨ (x = 1 ∧ lfP w th le sn.toNatClampNeg r) ∨ (x = 2 ∧ r = sn) ∨ (¬ x = 0 ∧ ¬ x = 1 ∧ ¬ x = 2 ∧ r = -1)
section CO
variable {f : Nat → Int32} {w : Nat → Int32} {kd th le sn x r s z z3 z4 z5 : Int32} {g c t k : Nat}
theorem cq_0 (e9 : sn = nI c) (e12 : kd = nI g) (hc : c ≤ 333) (hg : g ≤ 3) (hx : x = 0) (hl : s = subF (fun j => f ((g * 12) + (j % 12))) th c (t + 1 - c)) (ez : z = (if 0 < s then s else 0)) : coP (wkF f kd) th le sn t x z := by
  refine Or.inl ⟨hx, ?_⟩
  rw [wk_eq e12 hg, e9, nI_clamp (by omega), ← hl]; exact ez
theorem cq_1 (e9 : sn = nI c) (e12 : kd = nI g) (hc : c ≤ 333) (hg : g ≤ 3) (hx : x = 1) (hl : lfP (fun j => f ((g * 12) + (j % 12))) th le c r) : coP (wkF f kd) th le sn t x r := by
  refine Or.inr (Or.inl ⟨hx, ?_⟩)
  rw [wk_eq e12 hg, e9, nI_clamp (by omega)]; exact hl
theorem cq_2 (hx : x = 2) (e : r = sn) : coP w th le sn t x r := Or.inr (Or.inr (Or.inl ⟨hx, e⟩))
theorem cq_3 (h0 : ¬ x = 0) (h1 : ¬ x = 1) (h2 : ¬ x = 2) (e : r = -1) : coP w th le sn t x r := Or.inr (Or.inr (Or.inr ⟨h0, h1, h2, e⟩))
theorem cq_no {n0 m : Nat} {q : Nat → Int32} (hn : n0 ≤ 10) (hm : m < n0) (h : q m = 0) : ¬ ∃ i, i < n0 ∧ nI m = nI i ∧ ¬ q i = 0 := fun ⟨i, h1, h2, h3⟩ => h3 (by rw [← (nI_inj9 (by omega) (by omega)).mp h2]; exact h)
theorem cq_no9 {n0 m : Nat} {q : Nat → Int32} (hn : n0 ≤ 10) (hm : m < n0) (h : q m = -1) : ¬ ∃ i, i < n0 ∧ nI m = nI i ∧ ¬ q i < 0 := fun ⟨i, h1, h2, h3⟩ => h3 (by rw [← (nI_inj9 (by omega) (by omega)).mp h2, h]; decide)
theorem co9_pos (e : sn = nI c) (hc : c ≤ 333) : ¬ sn < 0 := by rw [e]; exact nI_pos (by omega)
theorem co9_0 (e9 : sn = nI c) (e12 : kd = nI g) (hc : c ≤ 333) (hg : g ≤ 3) (hx : x = 0) (hl : z5 = subF (fun j => f ((12 * g) + (j % 12))) th c (t + 1 - c)) (h : (¬ 0 ≤ z5 ∧ r = 0) ∨ (0 ≤ z5 ∧ r = z5)) : coP (wkF f kd) th le sn t x r := by
  refine Or.inl ⟨hx, ?_⟩
  rw [wk_eq9 e12 hg, e9, nI_clamp (by omega), ← hl]
  rcases h with ⟨h1, h2⟩ | ⟨h1, h2⟩
  · rw [if_neg (fun q => h1 (Int32.le_of_lt q)), h2]
  · by_cases q : 0 < z5
    · rw [if_pos q, h2]
    · rw [if_neg q, h2]; exact Int32.le_antisymm (Int32.not_lt.mp q) h1
theorem co9_1 (e9 : sn = nI c) (e12 : kd = nI g) (hc : c ≤ 333) (hg : g ≤ 3) (hx : x = 1) (hl : (z4 = -1 ∧ ∀ j, j < 400 → ¬ subF (fun j => f ((12 * g) + (j % 12))) th c (j + 1) < le) ∨ (∃ k, k < 400 ∧ (∀ j, j < k → ¬ subF (fun j => f ((12 * g) + (j % 12))) th c (j + 1) < le) ∧ subF (fun j => f ((12 * g) + (j % 12))) th c (k + 1) < le ∧ z4 = nI (c + k))) : coP (wkF f kd) th le sn t x z4 := by
  refine Or.inr (Or.inl ⟨hx, ?_⟩)
  rw [wk_eq9 e12 hg, e9, nI_clamp (by omega)]
  rcases hl with ⟨h1, h2⟩ | h
  · exact Or.inr ⟨h2, h1⟩
  · exact Or.inl h
theorem li_new (hck : c ≤ k) (hk : k < 2 ^ 30) (hz : z3 = subF w th c (k - c)) (h : (z4 = -1 ∧ ∀ j, j < k - c → ¬ subF w th c (j + 1) < le) ∨ (∃ q, q < k - c ∧ (∀ j, j < q → ¬ subF w th c (j + 1) < le) ∧ subF w th c (q + 1) < le ∧ z4 = nI (c + q))) (c1 : ¬ 0 ≤ z4) (c2 : ¬ le ≤ z3 - w k) : (nI k = -1 ∧ ∀ j, j < k + 1 - c → ¬ subF w th c (j + 1) < le) ∨ (∃ q, q < k + 1 - c ∧ (∀ j, j < q → ¬ subF w th c (j + 1) < le) ∧ subF w th c (q + 1) < le ∧ nI k = nI (c + q)) := by
  rcases h with ⟨h1, h2⟩ | ⟨q, h1, h2, h3, h4⟩
  · refine Or.inr ⟨k - c, by omega, h2, ?_, by rw [show c + (k - c) = k by omega]⟩
    have e := sb_s (w := w) (z := th) hck
    rw [show k + 1 - c = k - c + 1 by omega] at e
    rw [e, ← hz]; exact Int32.not_le.mp c2
  · exact absurd (by rw [h4]; exact nI_pos' (by omega)) c1
theorem li_old1 (hck : c ≤ k) (h : (z4 = -1 ∧ ∀ j, j < k - c → ¬ subF w th c (j + 1) < le) ∨ (∃ q, q < k - c ∧ (∀ j, j < q → ¬ subF w th c (j + 1) < le) ∧ subF w th c (q + 1) < le ∧ z4 = nI (c + q))) (c1 : 0 ≤ z4) : (z4 = -1 ∧ ∀ j, j < k + 1 - c → ¬ subF w th c (j + 1) < le) ∨ (∃ q, q < k + 1 - c ∧ (∀ j, j < q → ¬ subF w th c (j + 1) < le) ∧ subF w th c (q + 1) < le ∧ z4 = nI (c + q)) := by
  rcases h with ⟨h1, h2⟩ | ⟨q, h1, h2, h3, h4⟩
  · rw [h1] at c1; exact absurd c1 (by decide)
  · exact Or.inr ⟨q, by omega, h2, h3, h4⟩
theorem li_old2 (hck : c ≤ k) (hk : k < 2 ^ 30) (hz : z3 = subF w th c (k - c)) (h : (z4 = -1 ∧ ∀ j, j < k - c → ¬ subF w th c (j + 1) < le) ∨ (∃ q, q < k - c ∧ (∀ j, j < q → ¬ subF w th c (j + 1) < le) ∧ subF w th c (q + 1) < le ∧ z4 = nI (c + q))) (c1 : ¬ 0 ≤ z4) (c2 : le ≤ z3 - w k) : (z4 = -1 ∧ ∀ j, j < k + 1 - c → ¬ subF w th c (j + 1) < le) ∨ (∃ q, q < k + 1 - c ∧ (∀ j, j < q → ¬ subF w th c (j + 1) < le) ∧ subF w th c (q + 1) < le ∧ z4 = nI (c + q)) := by
  rcases h with ⟨h1, h2⟩ | ⟨q, h1, h2, h3, h4⟩
  · refine Or.inl ⟨h1, fun j hj => ?_⟩
    by_cases e : j < k - c
    · exact h2 j e
    · have e1 : j = k - c := by omega
      have e2 := sb_s (w := w) (z := th) hck
      rw [show k + 1 - c = k - c + 1 by omega] at e2
      rw [e1, e2, ← hz]; exact Int32.not_lt.mpr c2
  · exact absurd (by rw [h4]; exact nI_pos' (by omega)) c1
theorem li_end {n : Nat} (e : k = c + n) (h : (z4 = -1 ∧ ∀ j, j < k - c → ¬ subF w th c (j + 1) < le) ∨ (∃ q, q < k - c ∧ (∀ j, j < q → ¬ subF w th c (j + 1) < le) ∧ subF w th c (q + 1) < le ∧ z4 = nI (c + q))) : (z4 = -1 ∧ ∀ j, j < n → ¬ subF w th c (j + 1) < le) ∨ (∃ q, q < n ∧ (∀ j, j < q → ¬ subF w th c (j + 1) < le) ∧ subF w th c (q + 1) < le ∧ z4 = nI (c + q)) := by
  rw [show k - c = n by omega] at h; exact h
theorem nw_yes (hck : c ≤ k) (hz : z3 = subF w th c (k - c)) (e : nI k = nI t) (h1 : k < 2 ^ 31) (h2 : t < 2 ^ 31) : (k + 1 ≤ t ∧ z3 - w k = 0) ∨ (t < k + 1 ∧ z3 - w k = subF w th c (t + 1 - c)) := by
  have := (nI_inj9 h1 h2).mp e
  subst this
  exact Or.inr ⟨by omega, by rw [sb_s hck, ← hz]⟩
theorem nw_no (hck : c ≤ k) (h : (k ≤ t ∧ z5 = 0) ∨ (t < k ∧ z5 = subF w th c (t + 1 - c))) (e : ¬ nI k = nI t) (h1 : k < 2 ^ 31) (h2 : t < 2 ^ 31) : (k + 1 ≤ t ∧ z5 = 0) ∨ (t < k + 1 ∧ z5 = subF w th c (t + 1 - c)) := by
  rcases h with ⟨q1, q2⟩ | ⟨q1, q2⟩
  · by_cases d : k = t
    · exact absurd (congrArg nI d) e
    · exact Or.inl ⟨by omega, q2⟩
  · exact Or.inr ⟨by omega, q2⟩
theorem nw_end (hk : t < k) (h : (k ≤ t ∧ z5 = 0) ∨ (t < k ∧ z5 = subF w th c (t + 1 - c))) : z5 = subF w th c (t + 1 - c) := by
  rcases h with ⟨q1, q2⟩ | ⟨q1, q2⟩
  · omega
  · exact q2
end CO
set_option maxHeartbeats 4000000 in
set_option maxRecDepth 100000 in
/-- what wears in a month -/
theorem kf_X0_wornIn (l : Launch) (D : va_G) (cI cJ cZ cM : Nat) (s0 : Nat) (y1 : Int32) (y2 : Int32) (y3 : Int32) (y4 : Int32) (y5 : Int32) (q0 : Nat) (f : Nat → Int32) (g9 : Nat) (e12 : y4 = nI g9) (hg9 : g9 ≤ 3) (j_ : Nat) (hj_ : j_ < 2 ^ 30) : Met l yX0_wornIn wsX0_wornIn ({ frames := 0, cells := 0, slots := 0, locals := 0 } : Room) (RO D cI cJ cZ cM [.ref s0, .int (nI j_), .ref q0] [(s0, .inr (0, [.int y1, .int y2, .int y3, .int y4, .int y5])), (q0, .inl (cI, 48, .inl f))]) (vp_Si (fun r => r = f ((g9 * 12) + (j_ % 12)))) 0 0 (fun _ => False) := by
  refine Met.ofW (cc := cX0_wornIn) (maxL := 4) (ret := (some .int)) (by decide) rfl ?_
  intro p e s m args below meth c s₁ B hml hv
  obtain ⟨rfl, hG, hP⟩ := hv
  have hx := B.exec
  have hb := B.bytes
  have hr := B.returns
  have hts := atoms_spec (ws := wsX0_wornIn) B.pre
  have hown : s.vm.findClass RX0 = some m.cls := findClass_of_methodNamed B.named
  have hlocks := B.notSynchronized
  have hK := hG.1
  have hN := hG.2
  have hl := lv_entry ([.ref s0, .int (nI j_), .ref q0]) (n := 4) (Nat.le_of_ble_eq_true rfl)
  rw [lg_entry_eq]
  generalize (lg_sl ([.ref s0, .int (nI j_), .ref q0]) ++ List.replicate (4 - (lg_sl ([.ref s0, .int (nI j_), .ref q0])).length) Slot.unset).toArray = ls at hl ⊢
  have hl : lv_has ls 4 [(0, .ref s0), (1, .int (nI j_)), (2, .ref q0)] := hl
  refine lv_aload_n hx hb dX0_wornIn_0 rfl (lv_at hl 0 rfl) ?_
  refine va_get (D := D) (ci := 0) (v := .int y4) (C := RX0) (T := TX0) (N := 5) hx hb hts (fun _ h9 => List.mem_cons_of_mem _ (List.mem_append_right _ h9)) hown hK hP 0 rfl rfl 3 (by decide) (hts (.fieldLink RX0 22 "BuoyTender$Chain" "kind" "I") (by decide +kernel)) (fun _ h9 => h9) rfl dX0_wornIn_1 ?_
  refine lv_topi (fun z_1 ez_1 => ?_)
  obtain rfl : z_1 = nI g9 := ez_1.trans e12
  refine lv_bipush (v := 12) hx hb dX0_wornIn_4 (by decide) ?_
  refine lv_imul hx hb dX0_wornIn_6 ?_
  refine lv_topi (fun z_2 ez_2 => ?_)
  obtain rfl : z_2 = nI (g9 * 12) := ez_2.trans (pk_mul g9 12)
  refine lv_iload_n hx hb dX0_wornIn_7 rfl (lv_at hl 1 rfl) ?_
  refine lv_bipush (v := 12) hx hb dX0_wornIn_8 (by decide) ?_
  refine lv_irem hx hb dX0_wornIn_10 (by decide) ?_
  refine lv_topi (fun z_3 ez_3 => ?_)
  obtain rfl : z_3 = nI (j_ % 12) := ez_3.trans (pk_rem (by omega) (by decide) (by decide))
  refine lv_iadd hx hb dX0_wornIn_11 ?_
  refine lv_topi (fun z_4 ez_4 => ?_)
  obtain rfl : z_4 = nI ((g9 * 12) + (j_ % 12)) := ez_4.trans (nI_add (g9 * 12) (j_ % 12))
  refine lv_istore_n (lv' := [(3, .int (nI ((g9 * 12) + (j_ % 12)))), (0, .ref s0), (1, .int (nI j_)), (2, .ref q0)]) hx hb dX0_wornIn_12 rfl hl (by decide) rfl (fun ls hl => ?_)
  refine lv_iload_n hx hb dX0_wornIn_13 rfl (lv_at hl 0 rfl) ?_
  refine lv_if_lt (tgt := 29) hx hb dX0_wornIn_14 (by decide) (fun c_5 => absurd c_5 (nI_pos (by omega))) (fun c_5 => ?_)
  refine lv_iload_n hx hb dX0_wornIn_17 rfl (lv_at hl 0 rfl) ?_
  refine lv_aload_n hx hb dX0_wornIn_18 rfl (lv_at hl 3 rfl) ?_
  refine va_alen (v := 48) hx hb hK hP 1 0 rfl rfl rfl dX0_wornIn_19 ?_
  refine lv_icmp_ge (tgt := 29) hx hb dX0_wornIn_20 (by decide) (fun c_6 => absurd c_6 (nI_ge (show (g9 * 12) + (j_ % 12) < 48 by omega) (by decide))) (fun c_6 => ?_)
  refine lv_aload_n hx hb dX0_wornIn_23 rfl (lv_at hl 3 rfl) ?_
  refine lv_iload_n hx hb dX0_wornIn_24 rfl (lv_at hl 0 rfl) ?_
  refine va_iald hx hb hK hP 1 0 rfl rfl (vp_in_nI (by omega) (by decide)) dX0_wornIn_25 ?_
  refine lv_topi (fun z_7 ez_7 => ?_)
  obtain rfl : z_7 = f ((g9 * 12) + (j_ % 12)) := ez_7.trans (congrArg f (nI_clamp (by omega)))
  refine lv_goto (tgt := 30) hx hb dX0_wornIn_26 (by decide) ?_
  exact W.iret (v := (f ((g9 * 12) + (j_ % 12)))) hx hb hr (fun t ht hW => ⟨(f ((g9 * 12) + (j_ % 12))), rfl, rfl, ht⟩) (fun _ h => by cases h) dX0_wornIn_30
set_option maxHeartbeats 4000000 in
set_option maxRecDepth 100000 in
/-- X0_leftBehind: the loop at 11 -/
theorem lf_X0_leftBehind {p : Program} {l : Launch} {e : Env} {s : State} {m : MethodId} {args : Array Value} {below : List Frame} {meth : Method} {c : Code} {Q : State → Prop} {D : va_G} {cI cJ cZ cM : Nat} {s0 : Nat} {y1 : Int32} {y2 : Int32} {y3 : Int32} {y4 : Int32} {y5 : Int32} {q0 : Nat} {f : Nat → Int32} {t_ : Nat} {g9 : Nat} {c9 : Nat} {H : Heap} (hx : p.tables.exec = Jvm.exec) (hb : c.code = cX0_leftBehind) (hml : c.maxLocals = 5) (hts : ∀ w ∈ wsX0_leftBehind, w.before args s = true) (hown : s.vm.findClass RX0 = some m.cls) (hG : GK D cI cJ cZ cM s) (hP : va_P D vwCl [(s0, .inr (0, [.int y1, .int y2, .int y3, .int y4, .int y5])), (q0, .inl (cI, 48, .inl f))] H) (ht_ : t_ ≤ 333) (e12 : y4 = nI g9) (hg9 : g9 ≤ 3) :
    ∀ (k9 : Nat) (k_ : Nat) (z : Int32), (k_ ≤ t_ + 1) → (c9 ≤ k_) → (z = subF (fun j => f ((g9 * 12) + (j % 12))) y2 c9 (k_ - c9)) → (t_ + 1) - k_ < k9 → ∀ (ls : Array Slot), lv_has ls 5 [(4, .int (nI k_)), (3, .int z), (0, .ref s0), (1, .int (nI t_)), (2, .ref q0)] → (∀ (z : Int32) (ls : Array Slot), (z = subF (fun j => f ((g9 * 12) + (j % 12))) y2 c9 (t_ + 1 - c9)) → lv_has ls 5 [(3, .int z), (0, .ref s0), (1, .int (nI t_)), (2, .ref q0)] → W p l e (headSpec wsX0_leftBehind ({ frames := 1, cells := 0, slots := 0, locals := 23 } : Room)).room s m args below meth c H [] 0 0 Q (F0 m 33 ls [])) → W p l e (headSpec wsX0_leftBehind ({ frames := 1, cells := 0, slots := 0, locals := 23 } : Room)).room s m args below meth c H [] 0 0 Q (F0 m 11 ls []) := by
  have hK := hG.1
  have hN := hG.2
  intro k9
  induction k9 with
  | zero => intro k_ z hk hck hz hfu; exact absurd hfu (Nat.not_lt_zero _)
  | succ k9 ih =>
    intro k_ z hk hck hz hfu ls hl kk0
    rcases Nat.lt_or_ge k_ (t_ + 1) with hlt | hge
    · refine lv_iload hx hb dX0_leftBehind_11 (lv_at hl 0 rfl) ?_
      refine lv_iload_n hx hb dX0_leftBehind_13 rfl (lv_at hl 3 rfl) ?_
      refine lv_icmp_gt (tgt := 33) hx hb dX0_leftBehind_14 (by decide) (fun c_1 => absurd c_1 (gt_no hlt (by omega))) (fun c_1 => ?_)
      refine lv_iload_n hx hb dX0_leftBehind_17 rfl (lv_at hl 1 rfl) ?_
      refine lv_aload_n hx hb dX0_leftBehind_18 rfl (lv_at hl 2 rfl) ?_
      refine lv_iload hx hb dX0_leftBehind_19 (lv_at hl 0 rfl) ?_
      refine lv_aload_n hx hb dX0_leftBehind_21 rfl (lv_at hl 4 rfl) ?_
      have hPc := hP.sub (ws' := [(s0, .inr (0, [.int y1, .int y2, .int y3, .int y4, .int y5])), (q0, .inl (cI, 48, .inl f))]) [0, 1] rfl
      refine vp_callSi (va_Run.run (va_runV (As := [.int (nI k_), .ref q0]) (rest := [.int z]) ⟨hx, hb, hml, hown, hts⟩ (kf_X0_wornIn l D cI cJ cZ cM s0 y1 y2 y3 y4 y5 q0 f g9 e12 hg9 k_ (by omega)) (cwV 2 hts gX0_leftBehind_X0_wornIn rfl rfl rfl (by decide +kernel) ⟨Nat.le_of_ble_eq_true rfl, Nat.le_of_ble_eq_true rfl⟩) (ro_V hG hPc (va_recv hK hPc (ci := 0) (q0 := 0) rfl rfl)) rfl rfl hl.1 rfl (lv_room (Nat.le_of_ble_eq_true rfl)) dX0_leftBehind_22 ⟨Nat.le_of_ble_eq_true rfl, Nat.le_of_ble_eq_true rfl⟩)) (fun r_2 h_2 => ?_)
      obtain rfl : r_2 = f ((g9 * 12) + (k_ % 12)) := h_2
      refine lv_isub hx hb dX0_leftBehind_25 ?_
      refine lv_istore_n (lv' := [(3, .int (z - (f ((g9 * 12) + (k_ % 12))))), (4, .int (nI k_)), (0, .ref s0), (1, .int (nI t_)), (2, .ref q0)]) hx hb dX0_leftBehind_26 rfl hl (by decide) rfl (fun ls hl => ?_)
      refine lv_iinc (v := nI (k_ + 1)) (lv' := [(4, .int (nI (k_ + 1))), (3, .int (z - (f ((g9 * 12) + (k_ % 12))))), (0, .ref s0), (1, .int (nI t_)), (2, .ref q0)]) hx hb dX0_leftBehind_27 hl (k := 1) rfl (nI_add k_ 1) (by decide) rfl (fun ls hl => ?_)
      refine lv_goto (tgt := 11) hx hb dX0_leftBehind_30 (by decide) ?_
      exact ih (k_ + 1) (z - (f ((g9 * 12) + (k_ % 12)))) (by omega) (by omega) (by rw [sb_s hck, ← hz]) (by omega) _ (lv_sub hl [0, 1, 2, 3, 4] rfl) kk0
    · refine lv_iload hx hb dX0_leftBehind_11 (lv_at hl 0 rfl) ?_
      refine lv_iload_n hx hb dX0_leftBehind_13 rfl (lv_at hl 3 rfl) ?_
      refine lv_icmp_gt (tgt := 33) hx hb dX0_leftBehind_14 (by decide) (fun c_3 => ?_) (fun c_3 => absurd (gt_yes hge (by omega)) c_3)
      exact kk0 z _ (show z = subF (fun j => f ((g9 * 12) + (j % 12))) y2 c9 (t_ + 1 - c9) by rw [hz, show k_ = t_ + 1 by omega]) (lv_sub hl [1, 2, 3, 4] rfl)
set_option maxHeartbeats 4000000 in
set_option maxRecDepth 100000 in
/-- what is left -/
theorem kf_X0_leftBehind (l : Launch) (D : va_G) (cI cJ cZ cM : Nat) (s0 : Nat) (y1 : Int32) (y2 : Int32) (y3 : Int32) (y4 : Int32) (y5 : Int32) (q0 : Nat) (f : Nat → Int32) (g9 : Nat) (e12 : y4 = nI g9) (hg9 : g9 ≤ 3) (c9 : Nat) (e9 : y5 = nI c9) (hc9 : c9 ≤ 333) (t_ : Nat) (ht_ : t_ ≤ 333) (hct : c9 ≤ t_) : Met l yX0_leftBehind wsX0_leftBehind ({ frames := 1, cells := 0, slots := 0, locals := 23 } : Room) (RO D cI cJ cZ cM [.ref s0, .int (nI t_), .ref q0] [(s0, .inr (0, [.int y1, .int y2, .int y3, .int y4, .int y5])), (q0, .inl (cI, 48, .inl f))]) (vp_Si (fun r => r = subF (fun j => f ((g9 * 12) + (j % 12))) y2 c9 (t_ + 1 - c9))) 0 0 (fun _ => False) := by
  refine Met.ofW (cc := cX0_leftBehind) (maxL := 5) (ret := (some .int)) (by decide) rfl ?_
  intro p e s m args below meth c s₁ B hml hv
  obtain ⟨rfl, hG, hP⟩ := hv
  have hx := B.exec
  have hb := B.bytes
  have hr := B.returns
  have hts := atoms_spec (ws := wsX0_leftBehind) B.pre
  have hown : s.vm.findClass RX0 = some m.cls := findClass_of_methodNamed B.named
  have hlocks := B.notSynchronized
  have hK := hG.1
  have hN := hG.2
  have hl := lv_entry ([.ref s0, .int (nI t_), .ref q0]) (n := 5) (Nat.le_of_ble_eq_true rfl)
  rw [lg_entry_eq]
  generalize (lg_sl ([.ref s0, .int (nI t_), .ref q0]) ++ List.replicate (5 - (lg_sl ([.ref s0, .int (nI t_), .ref q0])).length) Slot.unset).toArray = ls at hl ⊢
  have hl : lv_has ls 5 [(0, .ref s0), (1, .int (nI t_)), (2, .ref q0)] := hl
  refine lv_aload_n hx hb dX0_leftBehind_0 rfl (lv_at hl 0 rfl) ?_
  refine va_get (D := D) (ci := 0) (v := .int y2) (C := RX0) (T := TX0) (N := 5) hx hb hts (fun _ h9 => List.mem_cons_of_mem _ (List.mem_append_right _ h9)) hown hK hP 0 rfl rfl 1 (by decide) (hts (.fieldLink RX0 15 "BuoyTender$Chain" "thickness" "I") (by decide +kernel)) (fun _ h9 => h9) rfl dX0_leftBehind_1 ?_
  refine lv_istore_n (lv' := [(3, .int y2), (0, .ref s0), (1, .int (nI t_)), (2, .ref q0)]) hx hb dX0_leftBehind_4 rfl hl (by decide) rfl (fun ls hl => ?_)
  refine lv_aload_n hx hb dX0_leftBehind_5 rfl (lv_at hl 1 rfl) ?_
  refine va_get (D := D) (ci := 0) (v := .int y5) (C := RX0) (T := TX0) (N := 5) hx hb hts (fun _ h9 => List.mem_cons_of_mem _ (List.mem_append_right _ h9)) hown hK hP 0 rfl rfl 4 (by decide) (hts (.fieldLink RX0 25 "BuoyTender$Chain" "since" "I") (by decide +kernel)) (fun _ h9 => h9) rfl dX0_leftBehind_6 ?_
  refine lv_topi (fun z_1 ez_1 => ?_)
  obtain rfl : z_1 = nI c9 := ez_1.trans e9
  refine lv_istore (lv' := [(4, .int (nI c9)), (3, .int y2), (0, .ref s0), (1, .int (nI t_)), (2, .ref q0)]) hx hb dX0_leftBehind_9 hl (by decide) rfl (fun ls hl => ?_)
  have hPl := hP.sub (ws' := [(s0, .inr (0, [.int y1, .int y2, .int y3, .int y4, .int y5])), (q0, .inl (cI, 48, .inl f))]) [0, 1] rfl
  refine lf_X0_leftBehind hx hb hml hts hown hG hPl ht_ e12 hg9 ((t_ + 1) + 1) c9 y2 (by omega) (Nat.le_refl _) (by rw [Nat.sub_self]; rfl) (by omega) _ (lv_sub hl [0, 1, 2, 3, 4] rfl) (fun z_2 ls e_2_0 hl => ?_)
  refine lv_iload_n hx hb dX0_leftBehind_33 rfl (lv_at hl 0 rfl) ?_
  exact W.iret (v := z_2) hx hb hr (fun t ht hW => ⟨z_2, rfl, e_2_0, ht⟩) (fun _ h => by cases h) dX0_leftBehind_34
set_option maxHeartbeats 4000000 in
set_option maxRecDepth 100000 in
/-- X0_lifeEnds: the loop at 7 -/
theorem lf_X0_lifeEnds {p : Program} {l : Launch} {e : Env} {s : State} {m : MethodId} {args : Array Value} {below : List Frame} {meth : Method} {c : Code} {Q : State → Prop} {D : va_G} {cI cJ cZ cM : Nat} {s0 : Nat} {y1 : Int32} {y2 : Int32} {y3 : Int32} {y4 : Int32} {y5 : Int32} {q0 : Nat} {f : Nat → Int32} {g9 : Nat} {c9 : Nat} {H : Heap} (hx : p.tables.exec = Jvm.exec) (hb : c.code = cX0_lifeEnds) (hml : c.maxLocals = 4) (hts : ∀ w ∈ wsX0_lifeEnds, w.before args s = true) (hown : s.vm.findClass RX0 = some m.cls) (hG : GK D cI cJ cZ cM s) (hP : va_P D vwCl [(s0, .inr (0, [.int y1, .int y2, .int y3, .int y4, .int y5])), (q0, .inl (cI, 48, .inl f))] H) (e12 : y4 = nI g9) (hg9 : g9 ≤ 3) (e9 : y5 = nI c9) (hc9 : c9 ≤ 333) :
    ∀ (k9 : Nat) (k_ : Nat) (z : Int32), (k_ ≤ 400) → (z = subF (fun j => f ((g9 * 12) + (j % 12))) y2 c9 k_) → (∀ j, j < k_ → ¬ subF (fun j => f ((g9 * 12) + (j % 12))) y2 c9 (j + 1) < y3) → 400 - k_ < k9 → ∀ (ls : Array Slot), lv_has ls 4 [(3, .int (nI k_)), (2, .int z), (0, .ref s0), (1, .ref q0)] → (∀  (ls : Array Slot), (∀ j, j < 400 → ¬ subF (fun j => f ((g9 * 12) + (j % 12))) y2 c9 (j + 1) < y3) → lv_has ls 4 [(0, .ref s0), (1, .ref q0)] → W p l e (headSpec wsX0_lifeEnds ({ frames := 1, cells := 0, slots := 0, locals := 23 } : Room)).room s m args below meth c H [] 0 0 Q (F0 m 49 ls [])) → (∀ (k_ : Nat) (ls : Array Slot), (k_ < 400) → (∀ j, j < k_ → ¬ subF (fun j => f ((g9 * 12) + (j % 12))) y2 c9 (j + 1) < y3) → (subF (fun j => f ((g9 * 12) + (j % 12))) y2 c9 (k_ + 1) < y3) → lv_has ls 4 [(3, .int (nI k_)), (0, .ref s0), (1, .ref q0)] → W p l e (headSpec wsX0_lifeEnds ({ frames := 1, cells := 0, slots := 0, locals := 23 } : Room)).room s m args below meth c H [] 0 0 Q (F0 m 36 ls [])) → W p l e (headSpec wsX0_lifeEnds ({ frames := 1, cells := 0, slots := 0, locals := 23 } : Room)).room s m args below meth c H [] 0 0 Q (F0 m 7 ls []) := by
  have hK := hG.1
  have hN := hG.2
  intro k9
  induction k9 with
  | zero => intro k_ z hk hz hno hfu; exact absurd hfu (Nat.not_lt_zero _)
  | succ k9 ih =>
    intro k_ z hk hz hno hfu ls hl kk0 kk1
    rcases Nat.lt_or_ge k_ 400 with hlt | hge
    · refine lv_iload_n hx hb dX0_lifeEnds_7 rfl (lv_at hl 0 rfl) ?_
      refine lv_sipush (v := 400) hx hb dX0_lifeEnds_8 (by decide) ?_
      refine lv_icmp_ge (tgt := 49) hx hb dX0_lifeEnds_11 (by decide) (fun c_1 => absurd c_1 (nI_ge hlt (by decide))) (fun c_1 => ?_)
      refine lv_iload_n hx hb dX0_lifeEnds_14 rfl (lv_at hl 1 rfl) ?_
      refine lv_aload_n hx hb dX0_lifeEnds_15 rfl (lv_at hl 2 rfl) ?_
      refine lv_aload_n hx hb dX0_lifeEnds_16 rfl (lv_at hl 2 rfl) ?_
      refine va_get (D := D) (ci := 0) (v := .int y5) (C := RX0) (T := TX0) (N := 5) hx hb hts (fun _ h9 => List.mem_cons_of_mem _ (List.mem_append_right _ h9)) hown hK hP 0 rfl rfl 4 (by decide) (hts (.fieldLink RX0 25 "BuoyTender$Chain" "since" "I") (by decide +kernel)) (fun _ h9 => h9) rfl dX0_lifeEnds_17 ?_
      refine lv_topi (fun z_2 ez_2 => ?_)
      obtain rfl : z_2 = nI c9 := ez_2.trans e9
      refine lv_iload_n hx hb dX0_lifeEnds_20 rfl (lv_at hl 0 rfl) ?_
      refine lv_iadd hx hb dX0_lifeEnds_21 ?_
      refine lv_topi (fun z_3 ez_3 => ?_)
      obtain rfl : z_3 = nI (c9 + k_) := ez_3.trans (nI_add c9 k_)
      refine lv_aload_n hx hb dX0_lifeEnds_22 rfl (lv_at hl 3 rfl) ?_
      have hPc := hP.sub (ws' := [(s0, .inr (0, [.int y1, .int y2, .int y3, .int y4, .int y5])), (q0, .inl (cI, 48, .inl f))]) [0, 1] rfl
      refine vp_callSi (va_Run.run (va_runV (As := [.int (nI (c9 + k_)), .ref q0]) (rest := [.int z]) ⟨hx, hb, hml, hown, hts⟩ (kf_X0_wornIn l D cI cJ cZ cM s0 y1 y2 y3 y4 y5 q0 f g9 e12 hg9 (c9 + k_) (by omega)) (cwV 2 hts gX0_lifeEnds_X0_wornIn rfl rfl rfl (by decide +kernel) ⟨Nat.le_of_ble_eq_true rfl, Nat.le_of_ble_eq_true rfl⟩) (ro_V hG hPc (va_recv hK hPc (ci := 0) (q0 := 0) rfl rfl)) rfl rfl hl.1 rfl (lv_room (Nat.le_of_ble_eq_true rfl)) dX0_lifeEnds_23 ⟨Nat.le_of_ble_eq_true rfl, Nat.le_of_ble_eq_true rfl⟩)) (fun r_4 h_4 => ?_)
      obtain rfl : r_4 = f ((g9 * 12) + ((c9 + k_) % 12)) := h_4
      refine lv_isub hx hb dX0_lifeEnds_26 ?_
      refine lv_istore_n (lv' := [(2, .int (z - (f ((g9 * 12) + ((c9 + k_) % 12))))), (3, .int (nI k_)), (0, .ref s0), (1, .ref q0)]) hx hb dX0_lifeEnds_27 rfl hl (by decide) rfl (fun ls hl => ?_)
      refine lv_iload_n hx hb dX0_lifeEnds_28 rfl (lv_at hl 0 rfl) ?_
      refine lv_aload_n hx hb dX0_lifeEnds_29 rfl (lv_at hl 2 rfl) ?_
      refine va_get (D := D) (ci := 0) (v := .int y3) (C := RX0) (T := TX0) (N := 5) hx hb hts (fun _ h9 => List.mem_cons_of_mem _ (List.mem_append_right _ h9)) hown hK hP 0 rfl rfl 2 (by decide) (hts (.fieldLink RX0 19 "BuoyTender$Chain" "least" "I") (by decide +kernel)) (fun _ h9 => h9) rfl dX0_lifeEnds_30 ?_
      refine lv_icmp_ge (tgt := 43) hx hb dX0_lifeEnds_33 (by decide) (fun c_5 => ?_) (fun c_5 => ?_)
      · refine lv_iinc (v := nI (k_ + 1)) (lv' := [(3, .int (nI (k_ + 1))), (2, .int (z - (f ((g9 * 12) + ((c9 + k_) % 12))))), (0, .ref s0), (1, .ref q0)]) hx hb dX0_lifeEnds_43 hl (k := 1) rfl (nI_add k_ 1) (by decide) rfl (fun ls hl => ?_)
        refine lv_goto (tgt := 7) hx hb dX0_lifeEnds_46 (by decide) ?_
        exact ih (k_ + 1) (z - (f ((g9 * 12) + ((c9 + k_) % 12)))) (by omega) (by rw [hz]; rfl) (lt_s hno (fun q => Int32.not_lt.mpr c_5 (by rw [hz]; exact q))) (by omega) _ (lv_sub hl [0, 1, 2, 3] rfl) kk0 kk1
      exact kk1 k_ _ hlt hno (show subF (fun j => f ((g9 * 12) + (j % 12))) y2 c9 (k_ + 1) < y3 by have := Int32.not_le.mp c_5; rw [hz] at this; exact this) (lv_sub hl [1, 2, 3] rfl)
    · refine lv_iload_n hx hb dX0_lifeEnds_7 rfl (lv_at hl 0 rfl) ?_
      refine lv_sipush (v := 400) hx hb dX0_lifeEnds_8 (by decide) ?_
      refine lv_icmp_ge (tgt := 49) hx hb dX0_lifeEnds_11 (by decide) (fun c_6 => ?_) (fun c_6 => absurd (nI_le hge (by omega)) c_6)
      exact kk0  _ (fun j q => hno j (by omega)) (lv_sub hl [2, 3] rfl)
set_option maxHeartbeats 4000000 in
set_option maxRecDepth 100000 in
/-- its life -/
theorem kf_X0_lifeEnds (l : Launch) (D : va_G) (cI cJ cZ cM : Nat) (s0 : Nat) (y1 : Int32) (y2 : Int32) (y3 : Int32) (y4 : Int32) (y5 : Int32) (q0 : Nat) (f : Nat → Int32) (g9 : Nat) (e12 : y4 = nI g9) (hg9 : g9 ≤ 3) (c9 : Nat) (e9 : y5 = nI c9) (hc9 : c9 ≤ 333) : Met l yX0_lifeEnds wsX0_lifeEnds ({ frames := 1, cells := 0, slots := 0, locals := 23 } : Room) (RO D cI cJ cZ cM [.ref s0, .ref q0] [(s0, .inr (0, [.int y1, .int y2, .int y3, .int y4, .int y5])), (q0, .inl (cI, 48, .inl f))]) (vp_Si (fun r => lfP (fun j => f ((g9 * 12) + (j % 12))) y2 y3 c9 r)) 0 0 (fun _ => False) := by
  refine Met.ofW (cc := cX0_lifeEnds) (maxL := 4) (ret := (some .int)) (by decide) rfl ?_
  intro p e s m args below meth c s₁ B hml hv
  obtain ⟨rfl, hG, hP⟩ := hv
  have hx := B.exec
  have hb := B.bytes
  have hr := B.returns
  have hts := atoms_spec (ws := wsX0_lifeEnds) B.pre
  have hown : s.vm.findClass RX0 = some m.cls := findClass_of_methodNamed B.named
  have hlocks := B.notSynchronized
  have hK := hG.1
  have hN := hG.2
  have hl := lv_entry ([.ref s0, .ref q0]) (n := 4) (Nat.le_of_ble_eq_true rfl)
  rw [lg_entry_eq]
  generalize (lg_sl ([.ref s0, .ref q0]) ++ List.replicate (4 - (lg_sl ([.ref s0, .ref q0])).length) Slot.unset).toArray = ls at hl ⊢
  have hl : lv_has ls 4 [(0, .ref s0), (1, .ref q0)] := hl
  refine lv_aload_n hx hb dX0_lifeEnds_0 rfl (lv_at hl 0 rfl) ?_
  refine va_get (D := D) (ci := 0) (v := .int y2) (C := RX0) (T := TX0) (N := 5) hx hb hts (fun _ h9 => List.mem_cons_of_mem _ (List.mem_append_right _ h9)) hown hK hP 0 rfl rfl 1 (by decide) (hts (.fieldLink RX0 15 "BuoyTender$Chain" "thickness" "I") (by decide +kernel)) (fun _ h9 => h9) rfl dX0_lifeEnds_1 ?_
  refine lv_istore_n (lv' := [(2, .int y2), (0, .ref s0), (1, .ref q0)]) hx hb dX0_lifeEnds_4 rfl hl (by decide) rfl (fun ls hl => ?_)
  refine lv_iconst (v := 0) hx hb dX0_lifeEnds_5 (by decide) ?_
  refine lv_istore_n (lv' := [(3, .int 0), (2, .int y2), (0, .ref s0), (1, .ref q0)]) hx hb dX0_lifeEnds_6 rfl hl (by decide) rfl (fun ls hl => ?_)
  have hPl := hP.sub (ws' := [(s0, .inr (0, [.int y1, .int y2, .int y3, .int y4, .int y5])), (q0, .inl (cI, 48, .inl f))]) [0, 1] rfl
  refine lf_X0_lifeEnds hx hb hml hts hown hG hPl e12 hg9 e9 hc9 (400 + 1) 0 y2 (Nat.zero_le _) rfl lt_0 (by omega) _ (lv_sub hl [0, 1, 2, 3] rfl) (fun  ls e_1_0 hl => ?_) (fun k__2 ls e_2_0 e_2_1 e_2_2 hl => ?_)
  · refine lv_iconst (v := (-1)) hx hb dX0_lifeEnds_49 (by decide) ?_
    exact W.iret (v := (-1)) hx hb hr (fun t ht hW => ⟨(-1), rfl, (Or.inr ⟨e_1_0, rfl⟩), ht⟩) (fun _ h => by cases h) dX0_lifeEnds_50
  refine lv_aload_n hx hb dX0_lifeEnds_36 rfl (lv_at hl 1 rfl) ?_
  refine va_get (D := D) (ci := 0) (v := .int y5) (C := RX0) (T := TX0) (N := 5) hx hb hts (fun _ h9 => List.mem_cons_of_mem _ (List.mem_append_right _ h9)) hown hK hP 0 rfl rfl 4 (by decide) (hts (.fieldLink RX0 25 "BuoyTender$Chain" "since" "I") (by decide +kernel)) (fun _ h9 => h9) rfl dX0_lifeEnds_37 ?_
  refine lv_topi (fun z_3 ez_3 => ?_)
  obtain rfl : z_3 = nI c9 := ez_3.trans e9
  refine lv_iload_n hx hb dX0_lifeEnds_40 rfl (lv_at hl 0 rfl) ?_
  refine lv_iadd hx hb dX0_lifeEnds_41 ?_
  refine lv_topi (fun z_4 ez_4 => ?_)
  obtain rfl : z_4 = nI (c9 + k__2) := ez_4.trans (nI_add c9 k__2)
  exact W.iret (v := (nI (c9 + k__2))) hx hb hr (fun t ht hW => ⟨(nI (c9 + k__2)), rfl, (Or.inl ⟨_, e_2_0, e_2_1, e_2_2, rfl⟩), ht⟩) (fun _ h => by cases h) dX0_lifeEnds_42
set_option maxHeartbeats 4000000 in
set_option maxRecDepth 100000 in
/-- X8_chainOf -/
theorem kf_X8_chainOf (l : Launch) (D : va_G) (cI cJ cZ cM : Nat) (h0 : Nat) (a : Nat → Nat) (iv : Nat → Int32) (av : Nat → Nat → Int32) (ma : Nat → Nat → Nat) (mv : Nat → Nat → Int32) (mso : Nat → Nat → Int64) (mrs : Nat → Nat → Int32) (n0 : Nat) (fM : Nat → Option Nat) (hn0 : n0 ≤ 10) (hfM : ∀ i, i < 10 → (i < n0 → fM i = some (ma i 0)) ∧ (n0 ≤ i → fM i = none)) (h_n : iv 0 = nI n0) (T : Nat) (h_T : iv 1 = nI T) (hT : T ≤ 10000) (hsi : ∀ i, i < n0 → ∃ c g, c ≤ 333 ∧ g ≤ 3 ∧ mv i 13 = nI c ∧ mv i 12 = nI g ∧ c ≤ T / 30) (x1 : Int32) (x2 : Int32) (sz : Nat) : Met l yX8_chainOf wsX8_chainOf ({ frames := 2, cells := 0, slots := 0, locals := 47 } : Room) (RW D cI cJ cZ cM [.ref h0, .int x1, .int x2] ([(h0, .inr (8, [.ref (a 1), .ref (a 2), .ref (a 3), .ref (a 4), .ref (a 5), .ref (a 6), .ref (a 7), .ref (a 8), .int (iv 0), .int (iv 1), .int (iv 2), .int (iv 3)])), (a 2, .inl (cM, 10, .inr (.inr (.inr (.inr fM))))), (a 3, .inl (cI, 48, .inl (av 3)))] ++ MG cI cJ ma mv mso mrs n0) sz) (va_Qi (S := Unit) (fun r u => (∃ i, i < n0 ∧ x1 = nI i ∧ ¬ mv i 9 = 0 ∧ coP (wkF (av 3) (mv i 12)) (mv i 10) (mv i 11) (mv i 13) (T / 30) x2 r) ∨ (r = -1 ∧ ¬ ∃ i, i < n0 ∧ x1 = nI i ∧ ¬ mv i 9 = 0)) (BB D (fun _ => [(h0, .inr (8, [.ref (a 1), .ref (a 2), .ref (a 3), .ref (a 4), .ref (a 5), .ref (a 6), .ref (a 7), .ref (a 8), .int (iv 0), .int (iv 1), .int (iv 2), .int (iv 3)])), (a 2, .inl (cM, 10, .inr (.inr (.inr (.inr fM))))), (a 3, .inl (cI, 48, .inl (av 3)))] ++ MG cI cJ ma mv mso mrs n0) (va_A ([(h0, .inr (8, [.ref (a 1), .ref (a 2), .ref (a 3), .ref (a 4), .ref (a 5), .ref (a 6), .ref (a 7), .ref (a 8), .int (iv 0), .int (iv 1), .int (iv 2), .int (iv 3)])), (a 2, .inl (cM, 10, .inr (.inr (.inr (.inr fM))))), (a 3, .inl (cI, 48, .inl (av 3)))] ++ MG cI cJ ma mv mso mrs n0) sz)) (va_A ([(h0, .inr (8, [.ref (a 1), .ref (a 2), .ref (a 3), .ref (a 4), .ref (a 5), .ref (a 6), .ref (a 7), .ref (a 8), .int (iv 0), .int (iv 1), .int (iv 2), .int (iv 3)])), (a 2, .inl (cM, 10, .inr (.inr (.inr (.inr fM))))), (a 3, .inl (cI, 48, .inl (av 3)))] ++ MG cI cJ ma mv mso mrs n0) sz)) 0 0 (va_A ([(h0, .inr (8, [.ref (a 1), .ref (a 2), .ref (a 3), .ref (a 4), .ref (a 5), .ref (a 6), .ref (a 7), .ref (a 8), .int (iv 0), .int (iv 1), .int (iv 2), .int (iv 3)])), (a 2, .inl (cM, 10, .inr (.inr (.inr (.inr fM))))), (a 3, .inl (cI, 48, .inl (av 3)))] ++ MG cI cJ ma mv mso mrs n0) sz) := by
  refine Met.ofW (cc := cX8_chainOf) (maxL := 4) (ret := (some .int)) (by decide) rfl ?_
  intro p e s m args below meth c s₁ B hml hv
  obtain ⟨rfl, hsz, hG, hP, hD0⟩ := hv
  have hx := B.exec
  have hb := B.bytes
  have hr := B.returns
  have hts := atoms_spec (ws := wsX8_chainOf) B.pre
  have hown : s.vm.findClass RX8 = some m.cls := findClass_of_methodNamed B.named
  have hlocks := B.notSynchronized
  have hK := hG.1
  have hN := hG.2
  subst hsz
  have hD := hD0.self (sz := s.heap.size)
  generalize hAe : va_A ([(h0, .inr (8, [.ref (a 1), .ref (a 2), .ref (a 3), .ref (a 4), .ref (a 5), .ref (a 6), .ref (a 7), .ref (a 8), .int (iv 0), .int (iv 1), .int (iv 2), .int (iv 3)])), (a 2, .inl (cM, 10, .inr (.inr (.inr (.inr fM))))), (a 3, .inl (cI, 48, .inl (av 3)))] ++ MG cI cJ ma mv mso mrs n0) s.heap.size = A at hD ⊢
  have hA : ∀ q : Nat, s.heap.size ≤ q → A q := fun q h => by rw [← hAe]; exact Or.inr h
  have hS : va_S A s.heap s.heap [] := va_S.rf
  have hP : va_P D vwCl ([(h0, .inr (8, [.ref (a 1), .ref (a 2), .ref (a 3), .ref (a 4), .ref (a 5), .ref (a 6), .ref (a 7), .ref (a 8), .int (iv 0), .int (iv 1), .int (iv 2), .int (iv 3)])), (a 2, .inl (cM, 10, .inr (.inr (.inr (.inr fM))))), (a 3, .inl (cI, 48, .inl (av 3)))] ++ MG cI cJ ma mv mso mrs n0) s.heap := hP
  have hl := lv_entry ([.ref h0, .int x1, .int x2]) (n := 4) (Nat.le_of_ble_eq_true rfl)
  rw [lg_entry_eq]
  generalize (lg_sl ([.ref h0, .int x1, .int x2]) ++ List.replicate (4 - (lg_sl ([.ref h0, .int x1, .int x2])).length) Slot.unset).toArray = ls at hl ⊢
  have hl : lv_has ls 4 [(0, .ref h0), (1, .int x1), (2, .int x2)] := hl
  refine lv_aload_n hx hb dX8_chainOf_0 rfl (lv_at hl 0 rfl) ?_
  refine lv_iload_n hx hb dX8_chainOf_1 rfl (lv_at hl 1 rfl) ?_
  rcases Classical.em (isM n0 x1) with ⟨m1_, hm1_, rfl⟩ | hno_1
  · have hl : lv_has ls 4 [(0, .ref h0), (1, .int (nI m1_)), (2, .int x2)] := hl
    have hPc := hP.sub (ws' := [(h0, .inr (8, [.ref (a 1), .ref (a 2), .ref (a 3), .ref (a 4), .ref (a 5), .ref (a 6), .ref (a 7), .ref (a 8), .int (iv 0), .int (iv 1), .int (iv 2), .int (iv 3)])), (a 2, .inl (cM, 10, .inr (.inr (.inr (.inr fM)))))]) [0, 1] rfl
    refine va_csq (va_Run.run (va_runV (As := [.int (nI m1_)]) (rest := []) ⟨hx, hb, hml, hown, hts⟩ (k_X8_known_y l D cI cJ cZ cM h0 a iv ma n0 fM hn0 hfM h_n m1_ hm1_) (cwV 1 hts gX8_chainOf_X8_known rfl rfl rfl (by decide +kernel) ⟨Nat.le_of_ble_eq_true rfl, Nat.le_of_ble_eq_true rfl⟩) (ro_V hG hPc (va_recv hK hPc (ci := 8) (q0 := 0) rfl rfl)) rfl rfl hl.1 rfl (lv_room (Nat.le_of_ble_eq_true rfl)) dX8_chainOf_2 ⟨Nat.le_of_ble_eq_true rfl, Nat.le_of_ble_eq_true rfl⟩)) (fun r_1 h_1 => ?_)
    obtain rfl : r_1 = some (ma m1_ 0) := h_1
    refine W.eq (g2 := F0 m 5 ls [.ref (ma m1_ 0)]) rfl ?_
    refine lv_astore_n (lv' := [(3, .ref (ma m1_ 0)), (0, .ref h0), (1, .int (nI m1_)), (2, .int x2)]) hx hb dX8_chainOf_5 rfl hl (by decide) rfl (fun ls hl => ?_)
    refine lv_aload_n hx hb dX8_chainOf_6 rfl (lv_at hl 0 rfl) ?_
    refine lv_ifnull hx hb dX8_chainOf_7 ?_
    refine lv_aload_n hx hb dX8_chainOf_10 rfl (lv_at hl 0 rfl) ?_
    refine va_getN (D := D) (ci := 1) (v := .ref (ma m1_ 3)) (C := RX1) (T := TX1) (N := 9) hx hb hts (fun _ h9 => List.mem_cons_of_mem _ (List.mem_append_left _ (List.mem_append_left _ (List.mem_append_right _ h9)))) hown hK hP (3 + (6 * m1_ + 0)) (mg_x0 rfl hm1_) rfl 4 (by decide) (va_Nw.use rfl (hN.1 (RX8, 123, "BuoyTender$Mark", "chain", "LBuoyTender$Chain;", "BuoyTender") (by decide +kernel))) (fun _ h9 => h9) rfl dX8_chainOf_11 ?_
    refine va_getN (D := D) (ci := 0) (v := .int (mv m1_ 9)) (C := RX0) (T := TX0) (N := 5) hx hb hts (fun _ h9 => List.mem_cons_of_mem _ (List.mem_append_left _ (List.mem_append_right _ h9))) hown hK hP (3 + (6 * m1_ + 3)) (mg_x3 rfl hm1_) rfl 0 (by decide) (va_Nw.use rfl (hN.1 (RX8, 137, "BuoyTender$Chain", "laid", "Z", "BuoyTender") (by decide +kernel))) (fun _ h9 => h9) rfl dX8_chainOf_14 ?_
    refine lv_if_ne (tgt := 22) hx hb dX8_chainOf_17 (by decide) (fun c_2 => ?_) (fun c_2 => ?_)
    · obtain ⟨c9, g9, hc9, hg9, e9, e12, hct⟩ := hsi m1_ hm1_
      refine lv_iload_n hx hb dX8_chainOf_22 rfl (lv_at hl 3 rfl) ?_
      by_cases s_3 : x2 = 0
      · refine lv_tableIn (off := 25) (tgt := 48) hx hb dX8_chainOf_23 (by rw [s_3]; decide) (by rw [s_3]; decide) (by rw [s_3]; decide) (by decide) ?_
        refine lv_iconst (v := 0) hx hb dX8_chainOf_48 (by decide) ?_
        refine lv_aload_n hx hb dX8_chainOf_49 rfl (lv_at hl 0 rfl) ?_
        refine va_getN (D := D) (ci := 1) (v := .ref (ma m1_ 3)) (C := RX1) (T := TX1) (N := 9) hx hb hts (fun _ h9 => List.mem_cons_of_mem _ (List.mem_append_left _ (List.mem_append_left _ (List.mem_append_right _ h9)))) hown hK hP (3 + (6 * m1_ + 0)) (mg_x0 rfl hm1_) rfl 4 (by decide) (va_Nw.use rfl (hN.1 (RX8, 123, "BuoyTender$Mark", "chain", "LBuoyTender$Chain;", "BuoyTender") (by decide +kernel))) (fun _ h9 => h9) rfl dX8_chainOf_50 ?_
        refine lv_aload_n hx hb dX8_chainOf_53 rfl (lv_at hl 1 rfl) ?_
        have hPc := hP.sub (ws' := [(h0, .inr (8, [.ref (a 1), .ref (a 2), .ref (a 3), .ref (a 4), .ref (a 5), .ref (a 6), .ref (a 7), .ref (a 8), .int (iv 0), .int (iv 1), .int (iv 2), .int (iv 3)]))]) [0] rfl
        refine vp_callSi (va_Run.run (va_runV (As := []) (rest := [.ref (ma m1_ 3), .int 0]) ⟨hx, hb, hml, hown, hts⟩ (k_X8_thisMonth l D cI cJ cZ cM h0 a iv av T h_T hT) (cwV 0 hts gX8_chainOf_X8_thisMonth rfl rfl rfl (by decide +kernel) ⟨Nat.le_of_ble_eq_true rfl, Nat.le_of_ble_eq_true rfl⟩) (ro_V hG hPc (va_recv hK hPc (ci := 8) (q0 := 0) rfl rfl)) rfl rfl hl.1 rfl (lv_room (Nat.le_of_ble_eq_true rfl)) dX8_chainOf_54 ⟨Nat.le_of_ble_eq_true rfl, Nat.le_of_ble_eq_true rfl⟩)) (fun r_4 h_4 => ?_)
        obtain rfl : r_4 = nI (T / 30) := h_4
        refine lv_aload_n hx hb dX8_chainOf_57 rfl (lv_at hl 1 rfl) ?_
        refine va_get (D := D) (ci := 8) (v := .ref (a 3)) (C := RX8) (T := TX8) (N := 12) hx hb hts (fun _ h9 => List.mem_cons_of_mem _ (List.mem_append_right _ h9)) hown hK hP 0 rfl rfl 2 (by decide) (hts (.fieldLink RX8 19 "BuoyTender" "wears" "[I") (by decide +kernel)) (fun _ h9 => h9) rfl dX8_chainOf_58 ?_
        have hq0 : va_P D vwCl [(ma m1_ 3, .inr (0, [.int (mv m1_ 9), .int (mv m1_ 10), .int (mv m1_ 11), .int (mv m1_ 12), .int (mv m1_ 13)]))] _ := vaP_1 (k := (3 + (6 * m1_ + 3))) hP (mg_x3 rfl hm1_)
        have hq1 : va_P D vwCl [(a 3, .inl (cI, 48, .inl (av 3)))] _ := vaP_1 (k := 2) hP rfl
        have hPc := (va_P.app hq0 hq1)
        have hPc : va_P D vwCl [(ma m1_ 3, .inr (0, [.int (mv m1_ 9), .int (mv m1_ 10), .int (mv m1_ 11), .int (mv m1_ 12), .int (mv m1_ 13)])), (a 3, .inl (cI, 48, .inl (av 3)))] _ := hPc
        refine vp_callSi (va_Run.run (va_runVN (As := [.int (nI (T / 30)), .ref (a 3)]) (rest := [.int 0]) ⟨hx, hb, hml, hown, hts⟩ (kf_X0_leftBehind l D cI cJ cZ cM (ma m1_ 3) (mv m1_ 9) (mv m1_ 10) (mv m1_ 11) (mv m1_ 12) (mv m1_ 13) (a 3) (av 3) g9 e12 hg9 c9 e9 hc9 (T / 30) (by omega) hct) ⟨(va_cnB 2 hts gX8_chainOf_X0_leftBehind_n140 rfl rfl rfl (hN.2.1 (RX8, 140, yX0_leftBehind, "BuoyTender") (by decide +kernel)) (hts (.initialized RX0) (by decide +kernel)) (by decide +kernel) ⟨Nat.le_of_ble_eq_true rfl, Nat.le_of_ble_eq_true rfl⟩), hts (.instanceMethod yX0_leftBehind) (by decide +kernel), hts (.selects RX0 yX0_leftBehind yX0_leftBehind) (by decide +kernel)⟩ (ro_V hG hPc (va_recv hK hPc (ci := 0) (q0 := 0) rfl rfl)) rfl rfl hl.1 rfl (lv_room (Nat.le_of_ble_eq_true rfl)) dX8_chainOf_61 ⟨Nat.le_of_ble_eq_true rfl, Nat.le_of_ble_eq_true rfl⟩)) (fun r_5 h_5 => ?_)
        have h_5 := h_5
        refine va_mmax hx hb (hml.trans hl.1.symm) hown (hts (.methodLink RX8 144 Lib.Math.max.name) (by decide +kernel)) (hts (.static Lib.Math.max.name) (by decide +kernel)) (hts (.initialized "java/lang/Math") (by decide +kernel)) (hts (.code Lib.Math.max.name Lib.Math.max.code 2 (some .int)) (by decide +kernel)) (Nat.le_of_ble_eq_true rfl) (Nat.le_of_ble_eq_true rfl) (Nat.le_of_ble_eq_true rfl) (Nat.le_of_ble_eq_true rfl) dX8_chainOf_64 ?_
        refine lv_topi (fun z_6 ez_6 => ?_)
        have hP9 := hP.part (cx := [(h0, .inr (8, [.ref (a 1), .ref (a 2), .ref (a 3), .ref (a 4), .ref (a 5), .ref (a 6), .ref (a 7), .ref (a 8), .int (iv 0), .int (iv 1), .int (iv 2), .int (iv 3)])), (a 2, .inl (cM, 10, .inr (.inr (.inr (.inr fM))))), (a 3, .inl (cI, 48, .inl (av 3)))]) [0, 1, 2] rfl
        have hD9 := hD.part (cx := [(h0, .inr (8, [.ref (a 1), .ref (a 2), .ref (a 3), .ref (a 4), .ref (a 5), .ref (a 6), .ref (a 7), .ref (a 8), .int (iv 0), .int (iv 1), .int (iv 2), .int (iv 3)])), (a 2, .inl (cM, 10, .inr (.inr (.inr (.inr fM))))), (a 3, .inl (cI, 48, .inl (av 3)))]) [0, 1, 2] (by decide) rfl
        exact W.iret (v := z_6) hx hb hr (fun t ht hW => ⟨⟨z_6, (), rfl, (Or.inl ⟨_, hm1_, rfl, c_2, cq_0 e9 e12 hc9 hg9 s_3 h_5 ez_6⟩), ⟨by rw [ht]; exact hP9, hD9⟩⟩, hS.F ht⟩) hS.2.2 dX8_chainOf_67
      by_cases s_7 : x2 = 1
      · refine lv_tableIn (off := 45) (tgt := 68) hx hb dX8_chainOf_23 (by rw [s_7]; decide) (by rw [s_7]; decide) (by rw [s_7]; decide) (by decide) ?_
        refine lv_aload_n hx hb dX8_chainOf_68 rfl (lv_at hl 0 rfl) ?_
        refine va_getN (D := D) (ci := 1) (v := .ref (ma m1_ 3)) (C := RX1) (T := TX1) (N := 9) hx hb hts (fun _ h9 => List.mem_cons_of_mem _ (List.mem_append_left _ (List.mem_append_left _ (List.mem_append_right _ h9)))) hown hK hP (3 + (6 * m1_ + 0)) (mg_x0 rfl hm1_) rfl 4 (by decide) (va_Nw.use rfl (hN.1 (RX8, 123, "BuoyTender$Mark", "chain", "LBuoyTender$Chain;", "BuoyTender") (by decide +kernel))) (fun _ h9 => h9) rfl dX8_chainOf_69 ?_
        refine lv_aload_n hx hb dX8_chainOf_72 rfl (lv_at hl 1 rfl) ?_
        refine va_get (D := D) (ci := 8) (v := .ref (a 3)) (C := RX8) (T := TX8) (N := 12) hx hb hts (fun _ h9 => List.mem_cons_of_mem _ (List.mem_append_right _ h9)) hown hK hP 0 rfl rfl 2 (by decide) (hts (.fieldLink RX8 19 "BuoyTender" "wears" "[I") (by decide +kernel)) (fun _ h9 => h9) rfl dX8_chainOf_73 ?_
        have hq0 : va_P D vwCl [(ma m1_ 3, .inr (0, [.int (mv m1_ 9), .int (mv m1_ 10), .int (mv m1_ 11), .int (mv m1_ 12), .int (mv m1_ 13)]))] _ := vaP_1 (k := (3 + (6 * m1_ + 3))) hP (mg_x3 rfl hm1_)
        have hq1 : va_P D vwCl [(a 3, .inl (cI, 48, .inl (av 3)))] _ := vaP_1 (k := 2) hP rfl
        have hPc := (va_P.app hq0 hq1)
        have hPc : va_P D vwCl [(ma m1_ 3, .inr (0, [.int (mv m1_ 9), .int (mv m1_ 10), .int (mv m1_ 11), .int (mv m1_ 12), .int (mv m1_ 13)])), (a 3, .inl (cI, 48, .inl (av 3)))] _ := hPc
        refine vp_callSi (va_Run.run (va_runVN (As := [.ref (a 3)]) (rest := []) ⟨hx, hb, hml, hown, hts⟩ (kf_X0_lifeEnds l D cI cJ cZ cM (ma m1_ 3) (mv m1_ 9) (mv m1_ 10) (mv m1_ 11) (mv m1_ 12) (mv m1_ 13) (a 3) (av 3) g9 e12 hg9 c9 e9 hc9) ⟨(va_cnB 1 hts gX8_chainOf_X0_lifeEnds_n150 rfl rfl rfl (hN.2.1 (RX8, 150, yX0_lifeEnds, "BuoyTender") (by decide +kernel)) (hts (.initialized RX0) (by decide +kernel)) (by decide +kernel) ⟨Nat.le_of_ble_eq_true rfl, Nat.le_of_ble_eq_true rfl⟩), hts (.instanceMethod yX0_lifeEnds) (by decide +kernel), hts (.selects RX0 yX0_lifeEnds yX0_lifeEnds) (by decide +kernel)⟩ (ro_V hG hPc (va_recv hK hPc (ci := 0) (q0 := 0) rfl rfl)) rfl rfl hl.1 rfl (lv_room (Nat.le_of_ble_eq_true rfl)) dX8_chainOf_76 ⟨Nat.le_of_ble_eq_true rfl, Nat.le_of_ble_eq_true rfl⟩)) (fun r_8 h_8 => ?_)
        have hP9 := hP.part (cx := [(h0, .inr (8, [.ref (a 1), .ref (a 2), .ref (a 3), .ref (a 4), .ref (a 5), .ref (a 6), .ref (a 7), .ref (a 8), .int (iv 0), .int (iv 1), .int (iv 2), .int (iv 3)])), (a 2, .inl (cM, 10, .inr (.inr (.inr (.inr fM))))), (a 3, .inl (cI, 48, .inl (av 3)))]) [0, 1, 2] rfl
        have hD9 := hD.part (cx := [(h0, .inr (8, [.ref (a 1), .ref (a 2), .ref (a 3), .ref (a 4), .ref (a 5), .ref (a 6), .ref (a 7), .ref (a 8), .int (iv 0), .int (iv 1), .int (iv 2), .int (iv 3)])), (a 2, .inl (cM, 10, .inr (.inr (.inr (.inr fM))))), (a 3, .inl (cI, 48, .inl (av 3)))]) [0, 1, 2] (by decide) rfl
        exact W.iret (v := r_8) hx hb hr (fun t ht hW => ⟨⟨r_8, (), rfl, (Or.inl ⟨_, hm1_, rfl, c_2, cq_1 e9 e12 hc9 hg9 s_7 h_8⟩), ⟨by rw [ht]; exact hP9, hD9⟩⟩, hS.F ht⟩) hS.2.2 dX8_chainOf_79
      by_cases s_9 : x2 = 2
      · refine lv_tableIn (off := 57) (tgt := 80) hx hb dX8_chainOf_23 (by rw [s_9]; decide) (by rw [s_9]; decide) (by rw [s_9]; decide) (by decide) ?_
        refine lv_aload_n hx hb dX8_chainOf_80 rfl (lv_at hl 0 rfl) ?_
        refine va_getN (D := D) (ci := 1) (v := .ref (ma m1_ 3)) (C := RX1) (T := TX1) (N := 9) hx hb hts (fun _ h9 => List.mem_cons_of_mem _ (List.mem_append_left _ (List.mem_append_left _ (List.mem_append_right _ h9)))) hown hK hP (3 + (6 * m1_ + 0)) (mg_x0 rfl hm1_) rfl 4 (by decide) (va_Nw.use rfl (hN.1 (RX8, 123, "BuoyTender$Mark", "chain", "LBuoyTender$Chain;", "BuoyTender") (by decide +kernel))) (fun _ h9 => h9) rfl dX8_chainOf_81 ?_
        refine va_getN (D := D) (ci := 0) (v := .int (mv m1_ 13)) (C := RX0) (T := TX0) (N := 5) hx hb hts (fun _ h9 => List.mem_cons_of_mem _ (List.mem_append_left _ (List.mem_append_right _ h9))) hown hK hP (3 + (6 * m1_ + 3)) (mg_x3 rfl hm1_) rfl 4 (by decide) (va_Nw.use rfl (hN.1 (RX8, 154, "BuoyTender$Chain", "since", "I", "BuoyTender") (by decide +kernel))) (fun _ h9 => h9) rfl dX8_chainOf_84 ?_
        have hP9 := hP.part (cx := [(h0, .inr (8, [.ref (a 1), .ref (a 2), .ref (a 3), .ref (a 4), .ref (a 5), .ref (a 6), .ref (a 7), .ref (a 8), .int (iv 0), .int (iv 1), .int (iv 2), .int (iv 3)])), (a 2, .inl (cM, 10, .inr (.inr (.inr (.inr fM))))), (a 3, .inl (cI, 48, .inl (av 3)))]) [0, 1, 2] rfl
        have hD9 := hD.part (cx := [(h0, .inr (8, [.ref (a 1), .ref (a 2), .ref (a 3), .ref (a 4), .ref (a 5), .ref (a 6), .ref (a 7), .ref (a 8), .int (iv 0), .int (iv 1), .int (iv 2), .int (iv 3)])), (a 2, .inl (cM, 10, .inr (.inr (.inr (.inr fM))))), (a 3, .inl (cI, 48, .inl (av 3)))]) [0, 1, 2] (by decide) rfl
        exact W.iret (v := (mv m1_ 13)) hx hb hr (fun t ht hW => ⟨⟨(mv m1_ 13), (), rfl, (Or.inl ⟨_, hm1_, rfl, c_2, cq_2 s_9 rfl⟩), ⟨by rw [ht]; exact hP9, hD9⟩⟩, hS.F ht⟩) hS.2.2 dX8_chainOf_87
      refine lv_tableOut (tgt := 88) hx hb dX8_chainOf_23 (my_out (hi := 2) (fun z hz => by rcases (show z = 0 ∨ z = 1 ∨ z = 2 by omega) with rfl | rfl | rfl <;> assumption) (by decide)) (by decide) ?_
      refine lv_iconst (v := (-1)) hx hb dX8_chainOf_88 (by decide) ?_
      have hP9 := hP.part (cx := [(h0, .inr (8, [.ref (a 1), .ref (a 2), .ref (a 3), .ref (a 4), .ref (a 5), .ref (a 6), .ref (a 7), .ref (a 8), .int (iv 0), .int (iv 1), .int (iv 2), .int (iv 3)])), (a 2, .inl (cM, 10, .inr (.inr (.inr (.inr fM))))), (a 3, .inl (cI, 48, .inl (av 3)))]) [0, 1, 2] rfl
      have hD9 := hD.part (cx := [(h0, .inr (8, [.ref (a 1), .ref (a 2), .ref (a 3), .ref (a 4), .ref (a 5), .ref (a 6), .ref (a 7), .ref (a 8), .int (iv 0), .int (iv 1), .int (iv 2), .int (iv 3)])), (a 2, .inl (cM, 10, .inr (.inr (.inr (.inr fM))))), (a 3, .inl (cI, 48, .inl (av 3)))]) [0, 1, 2] (by decide) rfl
      exact W.iret (v := (-1)) hx hb hr (fun t ht hW => ⟨⟨(-1), (), rfl, (Or.inl ⟨_, hm1_, rfl, c_2, cq_3 s_3 s_7 s_9 rfl⟩), ⟨by rw [ht]; exact hP9, hD9⟩⟩, hS.F ht⟩) hS.2.2 dX8_chainOf_89
    refine lv_iconst (v := (-1)) hx hb dX8_chainOf_20 (by decide) ?_
    have hP9 := hP.part (cx := [(h0, .inr (8, [.ref (a 1), .ref (a 2), .ref (a 3), .ref (a 4), .ref (a 5), .ref (a 6), .ref (a 7), .ref (a 8), .int (iv 0), .int (iv 1), .int (iv 2), .int (iv 3)])), (a 2, .inl (cM, 10, .inr (.inr (.inr (.inr fM))))), (a 3, .inl (cI, 48, .inl (av 3)))]) [0, 1, 2] rfl
    have hD9 := hD.part (cx := [(h0, .inr (8, [.ref (a 1), .ref (a 2), .ref (a 3), .ref (a 4), .ref (a 5), .ref (a 6), .ref (a 7), .ref (a 8), .int (iv 0), .int (iv 1), .int (iv 2), .int (iv 3)])), (a 2, .inl (cM, 10, .inr (.inr (.inr (.inr fM))))), (a 3, .inl (cI, 48, .inl (av 3)))]) [0, 1, 2] (by decide) rfl
    exact W.iret (v := (-1)) hx hb hr (fun t ht hW => ⟨⟨(-1), (), rfl, (Or.inr ⟨rfl, cq_no hn0 hm1_ c_2⟩), ⟨by rw [ht]; exact hP9, hD9⟩⟩, hS.F ht⟩) hS.2.2 dX8_chainOf_21
  · have hPc := hP.sub (ws' := [(h0, .inr (8, [.ref (a 1), .ref (a 2), .ref (a 3), .ref (a 4), .ref (a 5), .ref (a 6), .ref (a 7), .ref (a 8), .int (iv 0), .int (iv 1), .int (iv 2), .int (iv 3)])), (a 2, .inl (cM, 10, .inr (.inr (.inr (.inr fM)))))]) [0, 1] rfl
    refine va_csq (va_Run.run (va_runV (As := [.int x1]) (rest := []) ⟨hx, hb, hml, hown, hts⟩ (k_X8_known_n l D cI cJ cZ cM h0 a iv ma n0 fM hn0 hfM h_n x1 hno_1) (cwV 1 hts gX8_chainOf_X8_known rfl rfl rfl (by decide +kernel) ⟨Nat.le_of_ble_eq_true rfl, Nat.le_of_ble_eq_true rfl⟩) (ro_V hG hPc (va_recv hK hPc (ci := 8) (q0 := 0) rfl rfl)) rfl rfl hl.1 rfl (lv_room (Nat.le_of_ble_eq_true rfl)) dX8_chainOf_2 ⟨Nat.le_of_ble_eq_true rfl, Nat.le_of_ble_eq_true rfl⟩)) (fun r_1 h_1 => ?_)
    obtain rfl : r_1 = none := h_1
    refine W.eq (g2 := F0 m 5 ls [.null]) rfl ?_
    refine lv_astore_nN (lv' := [(3, .null), (0, .ref h0), (1, .int x1), (2, .int x2)]) hx hb dX8_chainOf_5 rfl hl (by decide) rfl (fun ls hl => ?_)
    refine lv_aload_nN hx hb dX8_chainOf_6 rfl (lv_at hl 0 rfl) ?_
    refine lv_ifnullN (tgt := 20) hx hb dX8_chainOf_7 (by decide) ?_
    refine lv_iconst (v := (-1)) hx hb dX8_chainOf_20 (by decide) ?_
    have hP9 := hP.part (cx := [(h0, .inr (8, [.ref (a 1), .ref (a 2), .ref (a 3), .ref (a 4), .ref (a 5), .ref (a 6), .ref (a 7), .ref (a 8), .int (iv 0), .int (iv 1), .int (iv 2), .int (iv 3)])), (a 2, .inl (cM, 10, .inr (.inr (.inr (.inr fM))))), (a 3, .inl (cI, 48, .inl (av 3)))]) [0, 1, 2] rfl
    have hD9 := hD.part (cx := [(h0, .inr (8, [.ref (a 1), .ref (a 2), .ref (a 3), .ref (a 4), .ref (a 5), .ref (a 6), .ref (a 7), .ref (a 8), .int (iv 0), .int (iv 1), .int (iv 2), .int (iv 3)])), (a 2, .inl (cM, 10, .inr (.inr (.inr (.inr fM))))), (a 3, .inl (cI, 48, .inl (av 3)))]) [0, 1, 2] (by decide) rfl
    exact W.iret (v := (-1)) hx hb hr (fun t ht hW => ⟨⟨(-1), (), rfl, (Or.inr ⟨rfl, fun ⟨i, h1, h2, _⟩ => hno_1 ⟨i, h1, h2⟩⟩), ⟨by rw [ht]; exact hP9, hD9⟩⟩, hS.F ht⟩) hS.2.2 dX8_chainOf_21
set_option maxHeartbeats 4000000 in
set_option maxRecDepth 100000 in
/-- X9_chainOf: the loop at 40 -/
theorem lf_X9_chainOf {p : Program} {l : Launch} {e : Env} {s : State} {m : MethodId} {args : Array Value} {below : List Frame} {meth : Method} {c : Code} {Q : State → Prop} {D : va_G} {cI cJ cZ cM : Nat} {h0 : Nat} {n : Nat → Nat} {mi : Nat → Int32} {mq : Nat → Int32} {mav : Nat → Nat → Int32} {m_ : Nat} {x2 : Int32} {c9 : Nat} {g9 : Nat} {T : Nat} {H : Heap} (hx : p.tables.exec = Jvm.exec) (hb : c.code = cX9_chainOf) (hml : c.maxLocals = 7) (hts : ∀ w ∈ wsX9_chainOf, w.before args s = true) (hown : s.vm.findClass RX9 = some m.cls) (hG : GK D cI cJ cZ cM s) (hP : va_P D vwCl [(h0, .inr (9, [.ref (n 0), .int (mi 1), .ref (n 2), .ref (n 3), .ref (n 4), .ref (n 5), .ref (n 6), .int (mi 7), .ref (n 8), .ref (n 9), .ref (n 10), .ref (n 11), .ref (n 12), .ref (n 13), .ref (n 14), .int (mi 15), .int (mi 16), .ref (n 17), .ref (n 18), .ref (n 19), .ref (n 20), .ref (n 21), .ref (n 22), .ref (n 23), .ref (n 24), .ref (n 25), .int (mi 26), .int (mi 27), .int (mi 28), .int (mi 29), .int (mi 30), .int (mi 31), .int (mi 32), .int (mi 33), .ref (n 34), .ref (n 35), .int (mq 36), .int (mq 37), .int (mq 38), .ref (n 39), .ref (n 40), .ref (n 41), .ref (n 42), .int (mq 43), .int (mq 44), .int (mq 45)])), (n 8, .inl (cI, 10, .inl (mav 8))), (n 9, .inl (cI, 10, .inl (mav 9))), (n 10, .inl (cI, 10, .inl (mav 10))), (n 11, .inl (cI, 10, .inl (mav 11))), (n 12, .inl (cI, 48, .inl (mav 12)))] H) (hm_ : m_ < 10) (hc9 : c9 ≤ 333) (hg9 : g9 ≤ 3) (e8 : (mav 8) m_ = nI c9) (e11 : (mav 11) m_ = nI g9) (h_T : mi 7 = nI T) (hT : T ≤ 10000) (hct : c9 ≤ T / 30) :
    ∀ (k9 : Nat) (k_ : Nat) (z3 : Int32) (z4 : Int32) (z5 : Int32), (k_ ≤ c9 + 400) → (c9 ≤ k_) → (z3 = subF (fun j => (mav 12) ((12 * g9) + (j % 12))) ((mav 9) m_) c9 (k_ - c9)) → ((z4 = -1 ∧ ∀ j, j < k_ - c9 → ¬ subF (fun j => (mav 12) ((12 * g9) + (j % 12))) ((mav 9) m_) c9 (j + 1) < (mav 10) m_) ∨ (∃ k, k < k_ - c9 ∧ (∀ j, j < k → ¬ subF (fun j => (mav 12) ((12 * g9) + (j % 12))) ((mav 9) m_) c9 (j + 1) < (mav 10) m_) ∧ subF (fun j => (mav 12) ((12 * g9) + (j % 12))) ((mav 9) m_) c9 (k + 1) < (mav 10) m_ ∧ z4 = nI (c9 + k))) → ((k_ ≤ T / 30 ∧ z5 = 0) ∨ (T / 30 < k_ ∧ z5 = subF (fun j => (mav 12) ((12 * g9) + (j % 12))) ((mav 9) m_) c9 (T / 30 + 1 - c9))) → (c9 + 400) - k_ < k9 → ∀ (ls : Array Slot), lv_has ls 7 [(6, .int (nI k_)), (3, .int z3), (4, .int z4), (5, .int z5), (0, .ref h0), (1, .int (nI m_)), (2, .int x2)] → (∀ (z4 : Int32) (z5 : Int32) (ls : Array Slot), ((z4 = -1 ∧ ∀ j, j < 400 → ¬ subF (fun j => (mav 12) ((12 * g9) + (j % 12))) ((mav 9) m_) c9 (j + 1) < (mav 10) m_) ∨ (∃ k, k < 400 ∧ (∀ j, j < k → ¬ subF (fun j => (mav 12) ((12 * g9) + (j % 12))) ((mav 9) m_) c9 (j + 1) < (mav 10) m_) ∧ subF (fun j => (mav 12) ((12 * g9) + (j % 12))) ((mav 9) m_) c9 (k + 1) < (mav 10) m_ ∧ z4 = nI (c9 + k))) → (z5 = subF (fun j => (mav 12) ((12 * g9) + (j % 12))) ((mav 9) m_) c9 (T / 30 + 1 - c9)) → lv_has ls 7 [(4, .int z4), (5, .int z5), (0, .ref h0), (1, .int (nI m_)), (2, .int x2)] → W p l e (headSpec wsX9_chainOf ({ frames := 2, cells := 0, slots := 0, locals := 43 } : Room)).room s m args below meth c H [] 0 0 Q (F0 m 128 ls [])) → W p l e (headSpec wsX9_chainOf ({ frames := 2, cells := 0, slots := 0, locals := 43 } : Room)).room s m args below meth c H [] 0 0 Q (F0 m 40 ls []) := by
  have hK := hG.1
  have hN := hG.2
  intro k9
  induction k9 with
  | zero => intro k_ z3 z4 z5 hk hck hz hlf hnw hfu; exact absurd hfu (Nat.not_lt_zero _)
  | succ k9 ih =>
    intro k_ z3 z4 z5 hk hck hz hlf hnw hfu ls hl kk0
    rcases Nat.lt_or_ge k_ (c9 + 400) with hlt | hge
    · refine lv_iload hx hb dX9_chainOf_40 (lv_at hl 0 rfl) ?_
      refine lv_aload_n hx hb dX9_chainOf_42 rfl (lv_at hl 4 rfl) ?_
      refine va_get (D := D) (ci := 9) (v := .ref (n 8)) (C := RX9) (T := TX9) (N := 46) hx hb hts (fun _ h9 => List.mem_cons_of_mem _ (List.mem_append_right _ h9)) hown hK hP 0 rfl rfl 8 (by decide) (hts (.fieldLink RX9 29 "BuoyTenderModel" "chainMonth" "[I") (by decide +kernel)) (fun _ h9 => h9) rfl dX9_chainOf_43 ?_
      refine lv_iload_n hx hb dX9_chainOf_46 rfl (lv_at hl 5 rfl) ?_
      refine va_iald hx hb hK hP 1 0 rfl rfl (vp_in_nI (by omega) (by decide)) dX9_chainOf_47 ?_
      refine lv_topi (fun z_1 ez_1 => ?_)
      obtain rfl : z_1 = (mav 8) m_ := ez_1.trans (congrArg (mav 8) (nI_clamp (by omega)))
      refine lv_topi (fun z_2 ez_2 => ?_)
      obtain rfl : z_2 = nI c9 := ez_2.trans e8
      refine lv_sipush (v := 400) hx hb dX9_chainOf_48 (by decide) ?_
      refine lv_iadd hx hb dX9_chainOf_51 ?_
      refine lv_topi (fun z_3 ez_3 => ?_)
      obtain rfl : z_3 = nI (c9 + 400) := ez_3.trans (nI_add c9 400)
      refine lv_icmp_ge (tgt := 128) hx hb dX9_chainOf_52 (by decide) (fun c_4 => absurd c_4 (nI_ge hlt (by omega))) (fun c_4 => ?_)
      refine lv_iload_n hx hb dX9_chainOf_55 rfl (lv_at hl 1 rfl) ?_
      refine lv_aload_n hx hb dX9_chainOf_56 rfl (lv_at hl 4 rfl) ?_
      refine va_get (D := D) (ci := 9) (v := .ref (n 12)) (C := RX9) (T := TX9) (N := 46) hx hb hts (fun _ h9 => List.mem_cons_of_mem _ (List.mem_append_right _ h9)) hown hK hP 0 rfl rfl 12 (by decide) (hts (.fieldLink RX9 41 "BuoyTenderModel" "wear" "[I") (by decide +kernel)) (fun _ h9 => h9) rfl dX9_chainOf_57 ?_
      refine lv_bipush (v := 12) hx hb dX9_chainOf_60 (by decide) ?_
      refine lv_aload_n hx hb dX9_chainOf_62 rfl (lv_at hl 4 rfl) ?_
      refine va_get (D := D) (ci := 9) (v := .ref (n 11)) (C := RX9) (T := TX9) (N := 46) hx hb hts (fun _ h9 => List.mem_cons_of_mem _ (List.mem_append_right _ h9)) hown hK hP 0 rfl rfl 11 (by decide) (hts (.fieldLink RX9 38 "BuoyTenderModel" "ground" "[I") (by decide +kernel)) (fun _ h9 => h9) rfl dX9_chainOf_63 ?_
      refine lv_iload_n hx hb dX9_chainOf_66 rfl (lv_at hl 5 rfl) ?_
      refine va_iald hx hb hK hP 4 0 rfl rfl (vp_in_nI (by omega) (by decide)) dX9_chainOf_67 ?_
      refine lv_topi (fun z_5 ez_5 => ?_)
      obtain rfl : z_5 = (mav 11) m_ := ez_5.trans (congrArg (mav 11) (nI_clamp (by omega)))
      refine lv_topi (fun z_6 ez_6 => ?_)
      obtain rfl : z_6 = nI g9 := ez_6.trans e11
      refine lv_imul hx hb dX9_chainOf_68 ?_
      refine lv_topi (fun z_7 ez_7 => ?_)
      obtain rfl : z_7 = nI (12 * g9) := ez_7.trans (pk_mul 12 g9)
      refine lv_iload hx hb dX9_chainOf_69 (lv_at hl 0 rfl) ?_
      refine lv_bipush (v := 12) hx hb dX9_chainOf_71 (by decide) ?_
      refine lv_irem hx hb dX9_chainOf_73 (by decide) ?_
      refine lv_topi (fun z_8 ez_8 => ?_)
      obtain rfl : z_8 = nI (k_ % 12) := ez_8.trans (pk_rem (by omega) (by decide) (by decide))
      refine lv_iadd hx hb dX9_chainOf_74 ?_
      refine lv_topi (fun z_9 ez_9 => ?_)
      obtain rfl : z_9 = nI ((12 * g9) + (k_ % 12)) := ez_9.trans (nI_add (12 * g9) (k_ % 12))
      refine va_iald hx hb hK hP 5 0 rfl rfl (vp_in_nI (by omega) (by decide)) dX9_chainOf_75 ?_
      refine lv_topi (fun z_10 ez_10 => ?_)
      obtain rfl : z_10 = (mav 12) ((12 * g9) + (k_ % 12)) := ez_10.trans (congrArg (mav 12) (nI_clamp (by omega)))
      refine lv_isub hx hb dX9_chainOf_76 ?_
      refine lv_istore_n (lv' := [(3, .int (z3 - ((mav 12) ((12 * g9) + (k_ % 12))))), (6, .int (nI k_)), (4, .int z4), (5, .int z5), (0, .ref h0), (1, .int (nI m_)), (2, .int x2)]) hx hb dX9_chainOf_77 rfl hl (by decide) rfl (fun ls hl => ?_)
      refine lv_iload hx hb dX9_chainOf_78 (lv_at hl 2 rfl) ?_
      refine lv_if_ge (tgt := 98) hx hb dX9_chainOf_80 (by decide) (fun c_11 => ?_) (fun c_11 => ?_)
      · refine lv_iload hx hb dX9_chainOf_98 (lv_at hl 2 rfl) ?_
        refine lv_istore (lv' := [(4, .int z4), (3, .int (z3 - ((mav 12) ((12 * g9) + (k_ % 12))))), (6, .int (nI k_)), (5, .int z5), (0, .ref h0), (1, .int (nI m_)), (2, .int x2)]) hx hb dX9_chainOf_100 hl (by decide) rfl (fun ls hl => ?_)
        refine lv_iload hx hb dX9_chainOf_102 (lv_at hl 2 rfl) ?_
        refine lv_aload_n hx hb dX9_chainOf_104 rfl (lv_at hl 4 rfl) ?_
        refine va_get (D := D) (ci := 9) (v := .int (mi 7)) (C := RX9) (T := TX9) (N := 46) hx hb hts (fun _ h9 => List.mem_cons_of_mem _ (List.mem_append_right _ h9)) hown hK hP 0 rfl rfl 7 (by decide) (hts (.fieldLink RX9 131 "BuoyTenderModel" "clock" "I") (by decide +kernel)) (fun _ h9 => h9) rfl dX9_chainOf_105 ?_
        refine lv_topi (fun z_12 ez_12 => ?_)
        obtain rfl : z_12 = nI T := ez_12.trans h_T
        refine lv_bipush (v := 30) hx hb dX9_chainOf_108 (by decide) ?_
        refine lv_idiv hx hb dX9_chainOf_110 (by decide) ?_
        refine lv_topi (fun z_13 ez_13 => ?_)
        obtain rfl : z_13 = nI (T / 30) := ez_13.trans (pk_div (by omega) (by decide) (by decide))
        refine lv_icmp_ne (tgt := 118) hx hb dX9_chainOf_111 (by decide) (fun c_14 => ?_) (fun c_14 => ?_)
        · refine lv_iload hx hb dX9_chainOf_118 (lv_at hl 3 rfl) ?_
          refine lv_istore (lv' := [(5, .int z5), (4, .int z4), (3, .int (z3 - ((mav 12) ((12 * g9) + (k_ % 12))))), (6, .int (nI k_)), (0, .ref h0), (1, .int (nI m_)), (2, .int x2)]) hx hb dX9_chainOf_120 hl (by decide) rfl (fun ls hl => ?_)
          refine lv_iinc (v := nI (k_ + 1)) (lv' := [(6, .int (nI (k_ + 1))), (5, .int z5), (4, .int z4), (3, .int (z3 - ((mav 12) ((12 * g9) + (k_ % 12))))), (0, .ref h0), (1, .int (nI m_)), (2, .int x2)]) hx hb dX9_chainOf_122 hl (k := 3) rfl (nI_add k_ 1) (by decide) rfl (fun ls hl => ?_)
          refine lv_goto (tgt := 40) hx hb dX9_chainOf_125 (by decide) ?_
          exact ih (k_ + 1) (z3 - ((mav 12) ((12 * g9) + (k_ % 12)))) z4 z5 (by omega) (by omega) (by rw [sb_s hck, ← hz]) (li_old1 hck hlf c_11) (nw_no hck hnw c_14 (by omega) (by omega)) (by omega) _ (lv_sub hl [0, 3, 2, 1, 4, 5, 6] rfl) kk0
        refine lv_iload_n hx hb dX9_chainOf_114 rfl (lv_at hl 1 rfl) ?_
        refine lv_goto (tgt := 120) hx hb dX9_chainOf_115 (by decide) ?_
        refine lv_istore (lv' := [(5, .int (z3 - ((mav 12) ((12 * g9) + (k_ % 12))))), (4, .int z4), (3, .int (z3 - ((mav 12) ((12 * g9) + (k_ % 12))))), (6, .int (nI k_)), (0, .ref h0), (1, .int (nI m_)), (2, .int x2)]) hx hb dX9_chainOf_120 hl (by decide) rfl (fun ls hl => ?_)
        refine lv_iinc (v := nI (k_ + 1)) (lv' := [(6, .int (nI (k_ + 1))), (5, .int (z3 - ((mav 12) ((12 * g9) + (k_ % 12))))), (4, .int z4), (3, .int (z3 - ((mav 12) ((12 * g9) + (k_ % 12))))), (0, .ref h0), (1, .int (nI m_)), (2, .int x2)]) hx hb dX9_chainOf_122 hl (k := 3) rfl (nI_add k_ 1) (by decide) rfl (fun ls hl => ?_)
        refine lv_goto (tgt := 40) hx hb dX9_chainOf_125 (by decide) ?_
        exact ih (k_ + 1) (z3 - ((mav 12) ((12 * g9) + (k_ % 12)))) z4 (z3 - ((mav 12) ((12 * g9) + (k_ % 12)))) (by omega) (by omega) (by rw [sb_s hck, ← hz]) (li_old1 hck hlf c_11) (nw_yes hck hz c_14 (by omega) (by omega)) (by omega) _ (lv_sub hl [0, 3, 2, 1, 4, 5, 6] rfl) kk0
      refine lv_iload_n hx hb dX9_chainOf_83 rfl (lv_at hl 0 rfl) ?_
      refine lv_aload_n hx hb dX9_chainOf_84 rfl (lv_at hl 4 rfl) ?_
      refine va_get (D := D) (ci := 9) (v := .ref (n 10)) (C := RX9) (T := TX9) (N := 46) hx hb hts (fun _ h9 => List.mem_cons_of_mem _ (List.mem_append_right _ h9)) hown hK hP 0 rfl rfl 10 (by decide) (hts (.fieldLink RX9 35 "BuoyTenderModel" "least" "[I") (by decide +kernel)) (fun _ h9 => h9) rfl dX9_chainOf_85 ?_
      refine lv_iload_n hx hb dX9_chainOf_88 rfl (lv_at hl 5 rfl) ?_
      refine va_iald hx hb hK hP 3 0 rfl rfl (vp_in_nI (by omega) (by decide)) dX9_chainOf_89 ?_
      refine lv_topi (fun z_15 ez_15 => ?_)
      obtain rfl : z_15 = (mav 10) m_ := ez_15.trans (congrArg (mav 10) (nI_clamp (by omega)))
      refine lv_icmp_ge (tgt := 98) hx hb dX9_chainOf_90 (by decide) (fun c_16 => ?_) (fun c_16 => ?_)
      · refine lv_iload hx hb dX9_chainOf_98 (lv_at hl 2 rfl) ?_
        refine lv_istore (lv' := [(4, .int z4), (3, .int (z3 - ((mav 12) ((12 * g9) + (k_ % 12))))), (6, .int (nI k_)), (5, .int z5), (0, .ref h0), (1, .int (nI m_)), (2, .int x2)]) hx hb dX9_chainOf_100 hl (by decide) rfl (fun ls hl => ?_)
        refine lv_iload hx hb dX9_chainOf_102 (lv_at hl 2 rfl) ?_
        refine lv_aload_n hx hb dX9_chainOf_104 rfl (lv_at hl 4 rfl) ?_
        refine va_get (D := D) (ci := 9) (v := .int (mi 7)) (C := RX9) (T := TX9) (N := 46) hx hb hts (fun _ h9 => List.mem_cons_of_mem _ (List.mem_append_right _ h9)) hown hK hP 0 rfl rfl 7 (by decide) (hts (.fieldLink RX9 131 "BuoyTenderModel" "clock" "I") (by decide +kernel)) (fun _ h9 => h9) rfl dX9_chainOf_105 ?_
        refine lv_topi (fun z_17 ez_17 => ?_)
        obtain rfl : z_17 = nI T := ez_17.trans h_T
        refine lv_bipush (v := 30) hx hb dX9_chainOf_108 (by decide) ?_
        refine lv_idiv hx hb dX9_chainOf_110 (by decide) ?_
        refine lv_topi (fun z_18 ez_18 => ?_)
        obtain rfl : z_18 = nI (T / 30) := ez_18.trans (pk_div (by omega) (by decide) (by decide))
        refine lv_icmp_ne (tgt := 118) hx hb dX9_chainOf_111 (by decide) (fun c_19 => ?_) (fun c_19 => ?_)
        · refine lv_iload hx hb dX9_chainOf_118 (lv_at hl 3 rfl) ?_
          refine lv_istore (lv' := [(5, .int z5), (4, .int z4), (3, .int (z3 - ((mav 12) ((12 * g9) + (k_ % 12))))), (6, .int (nI k_)), (0, .ref h0), (1, .int (nI m_)), (2, .int x2)]) hx hb dX9_chainOf_120 hl (by decide) rfl (fun ls hl => ?_)
          refine lv_iinc (v := nI (k_ + 1)) (lv' := [(6, .int (nI (k_ + 1))), (5, .int z5), (4, .int z4), (3, .int (z3 - ((mav 12) ((12 * g9) + (k_ % 12))))), (0, .ref h0), (1, .int (nI m_)), (2, .int x2)]) hx hb dX9_chainOf_122 hl (k := 3) rfl (nI_add k_ 1) (by decide) rfl (fun ls hl => ?_)
          refine lv_goto (tgt := 40) hx hb dX9_chainOf_125 (by decide) ?_
          exact ih (k_ + 1) (z3 - ((mav 12) ((12 * g9) + (k_ % 12)))) z4 z5 (by omega) (by omega) (by rw [sb_s hck, ← hz]) (li_old2 hck (by omega) hz hlf c_11 c_16) (nw_no hck hnw c_19 (by omega) (by omega)) (by omega) _ (lv_sub hl [0, 3, 2, 1, 4, 5, 6] rfl) kk0
        refine lv_iload_n hx hb dX9_chainOf_114 rfl (lv_at hl 1 rfl) ?_
        refine lv_goto (tgt := 120) hx hb dX9_chainOf_115 (by decide) ?_
        refine lv_istore (lv' := [(5, .int (z3 - ((mav 12) ((12 * g9) + (k_ % 12))))), (4, .int z4), (3, .int (z3 - ((mav 12) ((12 * g9) + (k_ % 12))))), (6, .int (nI k_)), (0, .ref h0), (1, .int (nI m_)), (2, .int x2)]) hx hb dX9_chainOf_120 hl (by decide) rfl (fun ls hl => ?_)
        refine lv_iinc (v := nI (k_ + 1)) (lv' := [(6, .int (nI (k_ + 1))), (5, .int (z3 - ((mav 12) ((12 * g9) + (k_ % 12))))), (4, .int z4), (3, .int (z3 - ((mav 12) ((12 * g9) + (k_ % 12))))), (0, .ref h0), (1, .int (nI m_)), (2, .int x2)]) hx hb dX9_chainOf_122 hl (k := 3) rfl (nI_add k_ 1) (by decide) rfl (fun ls hl => ?_)
        refine lv_goto (tgt := 40) hx hb dX9_chainOf_125 (by decide) ?_
        exact ih (k_ + 1) (z3 - ((mav 12) ((12 * g9) + (k_ % 12)))) z4 (z3 - ((mav 12) ((12 * g9) + (k_ % 12)))) (by omega) (by omega) (by rw [sb_s hck, ← hz]) (li_old2 hck (by omega) hz hlf c_11 c_16) (nw_yes hck hz c_19 (by omega) (by omega)) (by omega) _ (lv_sub hl [0, 3, 2, 1, 4, 5, 6] rfl) kk0
      refine lv_iload hx hb dX9_chainOf_93 (lv_at hl 1 rfl) ?_
      refine lv_goto (tgt := 100) hx hb dX9_chainOf_95 (by decide) ?_
      refine lv_istore (lv' := [(4, .int (nI k_)), (3, .int (z3 - ((mav 12) ((12 * g9) + (k_ % 12))))), (6, .int (nI k_)), (5, .int z5), (0, .ref h0), (1, .int (nI m_)), (2, .int x2)]) hx hb dX9_chainOf_100 hl (by decide) rfl (fun ls hl => ?_)
      refine lv_iload hx hb dX9_chainOf_102 (lv_at hl 2 rfl) ?_
      refine lv_aload_n hx hb dX9_chainOf_104 rfl (lv_at hl 4 rfl) ?_
      refine va_get (D := D) (ci := 9) (v := .int (mi 7)) (C := RX9) (T := TX9) (N := 46) hx hb hts (fun _ h9 => List.mem_cons_of_mem _ (List.mem_append_right _ h9)) hown hK hP 0 rfl rfl 7 (by decide) (hts (.fieldLink RX9 131 "BuoyTenderModel" "clock" "I") (by decide +kernel)) (fun _ h9 => h9) rfl dX9_chainOf_105 ?_
      refine lv_topi (fun z_20 ez_20 => ?_)
      obtain rfl : z_20 = nI T := ez_20.trans h_T
      refine lv_bipush (v := 30) hx hb dX9_chainOf_108 (by decide) ?_
      refine lv_idiv hx hb dX9_chainOf_110 (by decide) ?_
      refine lv_topi (fun z_21 ez_21 => ?_)
      obtain rfl : z_21 = nI (T / 30) := ez_21.trans (pk_div (by omega) (by decide) (by decide))
      refine lv_icmp_ne (tgt := 118) hx hb dX9_chainOf_111 (by decide) (fun c_22 => ?_) (fun c_22 => ?_)
      · refine lv_iload hx hb dX9_chainOf_118 (lv_at hl 3 rfl) ?_
        refine lv_istore (lv' := [(5, .int z5), (4, .int (nI k_)), (3, .int (z3 - ((mav 12) ((12 * g9) + (k_ % 12))))), (6, .int (nI k_)), (0, .ref h0), (1, .int (nI m_)), (2, .int x2)]) hx hb dX9_chainOf_120 hl (by decide) rfl (fun ls hl => ?_)
        refine lv_iinc (v := nI (k_ + 1)) (lv' := [(6, .int (nI (k_ + 1))), (5, .int z5), (4, .int (nI k_)), (3, .int (z3 - ((mav 12) ((12 * g9) + (k_ % 12))))), (0, .ref h0), (1, .int (nI m_)), (2, .int x2)]) hx hb dX9_chainOf_122 hl (k := 3) rfl (nI_add k_ 1) (by decide) rfl (fun ls hl => ?_)
        refine lv_goto (tgt := 40) hx hb dX9_chainOf_125 (by decide) ?_
        exact ih (k_ + 1) (z3 - ((mav 12) ((12 * g9) + (k_ % 12)))) (nI k_) z5 (by omega) (by omega) (by rw [sb_s hck, ← hz]) (li_new hck (by omega) hz hlf c_11 c_16) (nw_no hck hnw c_22 (by omega) (by omega)) (by omega) _ (lv_sub hl [0, 3, 2, 1, 4, 5, 6] rfl) kk0
      refine lv_iload_n hx hb dX9_chainOf_114 rfl (lv_at hl 1 rfl) ?_
      refine lv_goto (tgt := 120) hx hb dX9_chainOf_115 (by decide) ?_
      refine lv_istore (lv' := [(5, .int (z3 - ((mav 12) ((12 * g9) + (k_ % 12))))), (4, .int (nI k_)), (3, .int (z3 - ((mav 12) ((12 * g9) + (k_ % 12))))), (6, .int (nI k_)), (0, .ref h0), (1, .int (nI m_)), (2, .int x2)]) hx hb dX9_chainOf_120 hl (by decide) rfl (fun ls hl => ?_)
      refine lv_iinc (v := nI (k_ + 1)) (lv' := [(6, .int (nI (k_ + 1))), (5, .int (z3 - ((mav 12) ((12 * g9) + (k_ % 12))))), (4, .int (nI k_)), (3, .int (z3 - ((mav 12) ((12 * g9) + (k_ % 12))))), (0, .ref h0), (1, .int (nI m_)), (2, .int x2)]) hx hb dX9_chainOf_122 hl (k := 3) rfl (nI_add k_ 1) (by decide) rfl (fun ls hl => ?_)
      refine lv_goto (tgt := 40) hx hb dX9_chainOf_125 (by decide) ?_
      exact ih (k_ + 1) (z3 - ((mav 12) ((12 * g9) + (k_ % 12)))) (nI k_) (z3 - ((mav 12) ((12 * g9) + (k_ % 12)))) (by omega) (by omega) (by rw [sb_s hck, ← hz]) (li_new hck (by omega) hz hlf c_11 c_16) (nw_yes hck hz c_22 (by omega) (by omega)) (by omega) _ (lv_sub hl [0, 3, 2, 1, 4, 5, 6] rfl) kk0
    · refine lv_iload hx hb dX9_chainOf_40 (lv_at hl 0 rfl) ?_
      refine lv_aload_n hx hb dX9_chainOf_42 rfl (lv_at hl 4 rfl) ?_
      refine va_get (D := D) (ci := 9) (v := .ref (n 8)) (C := RX9) (T := TX9) (N := 46) hx hb hts (fun _ h9 => List.mem_cons_of_mem _ (List.mem_append_right _ h9)) hown hK hP 0 rfl rfl 8 (by decide) (hts (.fieldLink RX9 29 "BuoyTenderModel" "chainMonth" "[I") (by decide +kernel)) (fun _ h9 => h9) rfl dX9_chainOf_43 ?_
      refine lv_iload_n hx hb dX9_chainOf_46 rfl (lv_at hl 5 rfl) ?_
      refine va_iald hx hb hK hP 1 0 rfl rfl (vp_in_nI (by omega) (by decide)) dX9_chainOf_47 ?_
      refine lv_topi (fun z_23 ez_23 => ?_)
      obtain rfl : z_23 = (mav 8) m_ := ez_23.trans (congrArg (mav 8) (nI_clamp (by omega)))
      refine lv_topi (fun z_24 ez_24 => ?_)
      obtain rfl : z_24 = nI c9 := ez_24.trans e8
      refine lv_sipush (v := 400) hx hb dX9_chainOf_48 (by decide) ?_
      refine lv_iadd hx hb dX9_chainOf_51 ?_
      refine lv_topi (fun z_25 ez_25 => ?_)
      obtain rfl : z_25 = nI (c9 + 400) := ez_25.trans (nI_add c9 400)
      refine lv_icmp_ge (tgt := 128) hx hb dX9_chainOf_52 (by decide) (fun c_26 => ?_) (fun c_26 => absurd (nI_le hge (by omega)) c_26)
      exact kk0 z4 z5 _ (li_end (show k_ = c9 + 400 by omega) hlf) (nw_end (by omega) hnw) (lv_sub hl [2, 3, 4, 5, 6] rfl)
set_option maxHeartbeats 4000000 in
set_option maxRecDepth 100000 in
/-- X9_chainOf -/
theorem kf_X9_chainOf (l : Launch) (D : va_G) (cI cJ cZ cM : Nat) (h0 : Nat) (n : Nat → Nat) (mi : Nat → Int32) (mq : Nat → Int32) (mav : Nat → Nat → Int32) (n0 : Nat) (h_n : mi 1 = nI n0) (hn0 : n0 ≤ 10) (T : Nat) (h_T : mi 7 = nI T) (hT : T ≤ 10000) (hch : ∀ i, i < 10 → mav 8 i = -1 ∨ ∃ c, c ≤ 333 ∧ c ≤ T / 30 ∧ mav 8 i = nI c) (hgr : ∀ i, i < 10 → ∃ g, g ≤ 3 ∧ mav 11 i = nI g) (x1 : Int32) (x2 : Int32) : Met l yX9_chainOf wsX9_chainOf ({ frames := 2, cells := 0, slots := 0, locals := 43 } : Room) (RO D cI cJ cZ cM [.ref h0, .int x1, .int x2] [(h0, .inr (9, [.ref (n 0), .int (mi 1), .ref (n 2), .ref (n 3), .ref (n 4), .ref (n 5), .ref (n 6), .int (mi 7), .ref (n 8), .ref (n 9), .ref (n 10), .ref (n 11), .ref (n 12), .ref (n 13), .ref (n 14), .int (mi 15), .int (mi 16), .ref (n 17), .ref (n 18), .ref (n 19), .ref (n 20), .ref (n 21), .ref (n 22), .ref (n 23), .ref (n 24), .ref (n 25), .int (mi 26), .int (mi 27), .int (mi 28), .int (mi 29), .int (mi 30), .int (mi 31), .int (mi 32), .int (mi 33), .ref (n 34), .ref (n 35), .int (mq 36), .int (mq 37), .int (mq 38), .ref (n 39), .ref (n 40), .ref (n 41), .ref (n 42), .int (mq 43), .int (mq 44), .int (mq 45)])), (n 8, .inl (cI, 10, .inl (mav 8))), (n 9, .inl (cI, 10, .inl (mav 9))), (n 10, .inl (cI, 10, .inl (mav 10))), (n 11, .inl (cI, 10, .inl (mav 11))), (n 12, .inl (cI, 48, .inl (mav 12)))]) (vp_Si (fun r => (∃ i, i < n0 ∧ x1 = nI i ∧ ¬ (mav 8) i < 0 ∧ coP (wkF (mav 12) ((mav 11) i)) ((mav 9) i) ((mav 10) i) ((mav 8) i) (T / 30) x2 r) ∨ (r = -1 ∧ ¬ ∃ i, i < n0 ∧ x1 = nI i ∧ ¬ (mav 8) i < 0))) 0 0 (fun _ => False) := by
  refine Met.ofW (cc := cX9_chainOf) (maxL := 7) (ret := (some .int)) (by decide) rfl ?_
  intro p e s m args below meth c s₁ B hml hv
  obtain ⟨rfl, hG, hP⟩ := hv
  have hx := B.exec
  have hb := B.bytes
  have hr := B.returns
  have hts := atoms_spec (ws := wsX9_chainOf) B.pre
  have hown : s.vm.findClass RX9 = some m.cls := findClass_of_methodNamed B.named
  have hlocks := B.notSynchronized
  have hK := hG.1
  have hN := hG.2
  have hl := lv_entry ([.ref h0, .int x1, .int x2]) (n := 7) (Nat.le_of_ble_eq_true rfl)
  rw [lg_entry_eq]
  generalize (lg_sl ([.ref h0, .int x1, .int x2]) ++ List.replicate (7 - (lg_sl ([.ref h0, .int x1, .int x2])).length) Slot.unset).toArray = ls at hl ⊢
  have hl : lv_has ls 7 [(0, .ref h0), (1, .int x1), (2, .int x2)] := hl
  refine lv_aload_n hx hb dX9_chainOf_0 rfl (lv_at hl 0 rfl) ?_
  refine lv_iload_n hx hb dX9_chainOf_1 rfl (lv_at hl 1 rfl) ?_
  have hPc := hP.sub (ws' := [(h0, .inr (9, [.ref (n 0), .int (mi 1), .ref (n 2), .ref (n 3), .ref (n 4), .ref (n 5), .ref (n 6), .int (mi 7), .ref (n 8), .ref (n 9), .ref (n 10), .ref (n 11), .ref (n 12), .ref (n 13), .ref (n 14), .int (mi 15), .int (mi 16), .ref (n 17), .ref (n 18), .ref (n 19), .ref (n 20), .ref (n 21), .ref (n 22), .ref (n 23), .ref (n 24), .ref (n 25), .int (mi 26), .int (mi 27), .int (mi 28), .int (mi 29), .int (mi 30), .int (mi 31), .int (mi 32), .int (mi 33), .ref (n 34), .ref (n 35), .int (mq 36), .int (mq 37), .int (mq 38), .ref (n 39), .ref (n 40), .ref (n 41), .ref (n 42), .int (mq 43), .int (mq 44), .int (mq 45)]))]) [0] rfl
  refine vp_callSi (va_Run.run (va_runV (As := [.int x1]) (rest := []) ⟨hx, hb, hml, hown, hts⟩ (k_X9_isMark l D cI cJ cZ cM h0 n mi mq mav n0 h_n hn0 x1) (cwV 1 hts gX9_chainOf_X9_isMark rfl rfl rfl (by decide +kernel) ⟨Nat.le_of_ble_eq_true rfl, Nat.le_of_ble_eq_true rfl⟩) (ro_V hG hPc (va_recv hK hPc (ci := 9) (q0 := 0) rfl rfl)) rfl rfl hl.1 rfl (lv_room (Nat.le_of_ble_eq_true rfl)) dX9_chainOf_2 ⟨Nat.le_of_ble_eq_true rfl, Nat.le_of_ble_eq_true rfl⟩)) (fun r_1 h_1 => ?_)
  rcases h_1 with ⟨rfl, m1_, hm1_, rfl⟩ | ⟨rfl, h_1⟩
  · have hl : lv_has ls 7 [(0, .ref h0), (1, .int (nI m1_)), (2, .int x2)] := hl
    refine W.eq (g2 := F0 m 5 ls [.int 1]) rfl ?_
    refine lv_if_eq (tgt := 17) hx hb dX9_chainOf_5 (by decide) (fun c_2 => False.elim (by revert c_2; decide)) (fun _ => ?_)
    refine lv_aload_n hx hb dX9_chainOf_8 rfl (lv_at hl 0 rfl) ?_
    refine va_get (D := D) (ci := 9) (v := .ref (n 8)) (C := RX9) (T := TX9) (N := 46) hx hb hts (fun _ h9 => List.mem_cons_of_mem _ (List.mem_append_right _ h9)) hown hK hP 0 rfl rfl 8 (by decide) (hts (.fieldLink RX9 29 "BuoyTenderModel" "chainMonth" "[I") (by decide +kernel)) (fun _ h9 => h9) rfl dX9_chainOf_9 ?_
    refine lv_iload_n hx hb dX9_chainOf_12 rfl (lv_at hl 1 rfl) ?_
    refine va_iald hx hb hK hP 1 0 rfl rfl (vp_in_nI (by omega) (by decide)) dX9_chainOf_13 ?_
    refine lv_topi (fun z_3 ez_3 => ?_)
    obtain rfl : z_3 = (mav 8) m1_ := ez_3.trans (congrArg (mav 8) (nI_clamp (by omega)))
    rcases hch m1_ (by omega) with e8 | ⟨c9, hc9, hct, e8⟩
    · refine lv_topi (fun z_4 ez_4 => ?_)
      obtain rfl : z_4 = (-1) := ez_4.trans e8
      refine lv_if_ge (tgt := 19) hx hb dX9_chainOf_14 (by decide) (fun c_5 => False.elim (by revert c_5; decide)) (fun _ => ?_)
      refine lv_iconst (v := (-1)) hx hb dX9_chainOf_17 (by decide) ?_
      exact W.iret (v := (-1)) hx hb hr (fun t ht hW => ⟨(-1), rfl, (Or.inr ⟨rfl, cq_no9 hn0 hm1_ e8⟩), ht⟩) (fun _ h => by cases h) dX9_chainOf_18
    · refine lv_topi (fun z_6 ez_6 => ?_)
      obtain rfl : z_6 = nI c9 := ez_6.trans e8
      obtain ⟨g9, hg9, e11⟩ := hgr m1_ (by omega)
      refine lv_if_ge (tgt := 19) hx hb dX9_chainOf_14 (by decide) (fun c_7 => ?_) (fun c_7 => absurd (nI_pos' (by omega)) c_7)
      refine lv_aload_n hx hb dX9_chainOf_19 rfl (lv_at hl 0 rfl) ?_
      refine va_get (D := D) (ci := 9) (v := .ref (n 9)) (C := RX9) (T := TX9) (N := 46) hx hb hts (fun _ h9 => List.mem_cons_of_mem _ (List.mem_append_right _ h9)) hown hK hP 0 rfl rfl 9 (by decide) (hts (.fieldLink RX9 32 "BuoyTenderModel" "thickness" "[I") (by decide +kernel)) (fun _ h9 => h9) rfl dX9_chainOf_20 ?_
      refine lv_iload_n hx hb dX9_chainOf_23 rfl (lv_at hl 1 rfl) ?_
      refine va_iald hx hb hK hP 2 0 rfl rfl (vp_in_nI (by omega) (by decide)) dX9_chainOf_24 ?_
      refine lv_topi (fun z_8 ez_8 => ?_)
      obtain rfl : z_8 = (mav 9) m1_ := ez_8.trans (congrArg (mav 9) (nI_clamp (by omega)))
      refine lv_istore_n (lv' := [(3, .int ((mav 9) m1_)), (0, .ref h0), (1, .int (nI m1_)), (2, .int x2)]) hx hb dX9_chainOf_25 rfl hl (by decide) rfl (fun ls hl => ?_)
      refine lv_iconst (v := (-1)) hx hb dX9_chainOf_26 (by decide) ?_
      refine lv_istore (lv' := [(4, .int (-1)), (3, .int ((mav 9) m1_)), (0, .ref h0), (1, .int (nI m1_)), (2, .int x2)]) hx hb dX9_chainOf_27 hl (by decide) rfl (fun ls hl => ?_)
      refine lv_iconst (v := 0) hx hb dX9_chainOf_29 (by decide) ?_
      refine lv_istore (lv' := [(5, .int 0), (4, .int (-1)), (3, .int ((mav 9) m1_)), (0, .ref h0), (1, .int (nI m1_)), (2, .int x2)]) hx hb dX9_chainOf_30 hl (by decide) rfl (fun ls hl => ?_)
      refine lv_aload_n hx hb dX9_chainOf_32 rfl (lv_at hl 3 rfl) ?_
      refine va_get (D := D) (ci := 9) (v := .ref (n 8)) (C := RX9) (T := TX9) (N := 46) hx hb hts (fun _ h9 => List.mem_cons_of_mem _ (List.mem_append_right _ h9)) hown hK hP 0 rfl rfl 8 (by decide) (hts (.fieldLink RX9 29 "BuoyTenderModel" "chainMonth" "[I") (by decide +kernel)) (fun _ h9 => h9) rfl dX9_chainOf_33 ?_
      refine lv_iload_n hx hb dX9_chainOf_36 rfl (lv_at hl 4 rfl) ?_
      refine va_iald hx hb hK hP 1 0 rfl rfl (vp_in_nI (by omega) (by decide)) dX9_chainOf_37 ?_
      refine lv_topi (fun z_9 ez_9 => ?_)
      obtain rfl : z_9 = (mav 8) m1_ := ez_9.trans (congrArg (mav 8) (nI_clamp (by omega)))
      refine lv_topi (fun z_10 ez_10 => ?_)
      obtain rfl : z_10 = nI c9 := ez_10.trans e8
      refine lv_istore (lv' := [(6, .int (nI c9)), (5, .int 0), (4, .int (-1)), (3, .int ((mav 9) m1_)), (0, .ref h0), (1, .int (nI m1_)), (2, .int x2)]) hx hb dX9_chainOf_38 hl (by decide) rfl (fun ls hl => ?_)
      have hPl := hP.sub (ws' := [(h0, .inr (9, [.ref (n 0), .int (mi 1), .ref (n 2), .ref (n 3), .ref (n 4), .ref (n 5), .ref (n 6), .int (mi 7), .ref (n 8), .ref (n 9), .ref (n 10), .ref (n 11), .ref (n 12), .ref (n 13), .ref (n 14), .int (mi 15), .int (mi 16), .ref (n 17), .ref (n 18), .ref (n 19), .ref (n 20), .ref (n 21), .ref (n 22), .ref (n 23), .ref (n 24), .ref (n 25), .int (mi 26), .int (mi 27), .int (mi 28), .int (mi 29), .int (mi 30), .int (mi 31), .int (mi 32), .int (mi 33), .ref (n 34), .ref (n 35), .int (mq 36), .int (mq 37), .int (mq 38), .ref (n 39), .ref (n 40), .ref (n 41), .ref (n 42), .int (mq 43), .int (mq 44), .int (mq 45)])), (n 8, .inl (cI, 10, .inl (mav 8))), (n 9, .inl (cI, 10, .inl (mav 9))), (n 10, .inl (cI, 10, .inl (mav 10))), (n 11, .inl (cI, 10, .inl (mav 11))), (n 12, .inl (cI, 48, .inl (mav 12)))]) [0, 1, 2, 3, 4, 5] rfl
      refine lf_X9_chainOf hx hb hml hts hown hG hPl (by omega) hc9 hg9 e8 e11 h_T hT hct ((c9 + 400) + 1) c9 ((mav 9) m1_) (-1) 0 (by omega) (Nat.le_refl _) (by rw [Nat.sub_self]; rfl) (Or.inl ⟨rfl, fun j q => absurd q (by omega)⟩) (Or.inl ⟨hct, rfl⟩) (by omega) _ (lv_sub hl [0, 3, 2, 1, 4, 5, 6] rfl) (fun z4_11 z5_11 ls e_11_0 e_11_1 hl => ?_)
      refine lv_iload_n hx hb dX9_chainOf_128 rfl (lv_at hl 4 rfl) ?_
      refine lv_if_ne (tgt := 146) hx hb dX9_chainOf_129 (by decide) (fun c_12 => ?_) (fun c_12 => ?_)
      · refine lv_iload_n hx hb dX9_chainOf_146 rfl (lv_at hl 4 rfl) ?_
        refine lv_iconst (v := 1) hx hb dX9_chainOf_147 (by decide) ?_
        refine lv_icmp_ne (tgt := 156) hx hb dX9_chainOf_148 (by decide) (fun c_13 => ?_) (fun c_13 => ?_)
        · refine lv_iload_n hx hb dX9_chainOf_156 rfl (lv_at hl 4 rfl) ?_
          refine lv_iconst (v := 2) hx hb dX9_chainOf_157 (by decide) ?_
          refine lv_icmp_ne (tgt := 170) hx hb dX9_chainOf_158 (by decide) (fun c_14 => ?_) (fun c_14 => ?_)
          · refine lv_iconst (v := (-1)) hx hb dX9_chainOf_170 (by decide) ?_
            exact W.iret (v := (-1)) hx hb hr (fun t ht hW => ⟨(-1), rfl, (Or.inl ⟨_, hm1_, rfl, co9_pos e8 hc9, cq_3 c_12 c_13 c_14 rfl⟩), ht⟩) (fun _ h => by cases h) dX9_chainOf_171
          refine lv_aload_n hx hb dX9_chainOf_161 rfl (lv_at hl 2 rfl) ?_
          refine va_get (D := D) (ci := 9) (v := .ref (n 8)) (C := RX9) (T := TX9) (N := 46) hx hb hts (fun _ h9 => List.mem_cons_of_mem _ (List.mem_append_right _ h9)) hown hK hP 0 rfl rfl 8 (by decide) (hts (.fieldLink RX9 29 "BuoyTenderModel" "chainMonth" "[I") (by decide +kernel)) (fun _ h9 => h9) rfl dX9_chainOf_162 ?_
          refine lv_iload_n hx hb dX9_chainOf_165 rfl (lv_at hl 3 rfl) ?_
          refine va_iald hx hb hK hP 1 0 rfl rfl (vp_in_nI (by omega) (by decide)) dX9_chainOf_166 ?_
          refine lv_topi (fun z_15 ez_15 => ?_)
          obtain rfl : z_15 = (mav 8) m1_ := ez_15.trans (congrArg (mav 8) (nI_clamp (by omega)))
          refine lv_topi (fun z_16 ez_16 => ?_)
          obtain rfl : z_16 = nI c9 := ez_16.trans e8
          refine lv_goto (tgt := 171) hx hb dX9_chainOf_167 (by decide) ?_
          exact W.iret (v := (nI c9)) hx hb hr (fun t ht hW => ⟨(nI c9), rfl, (Or.inl ⟨_, hm1_, rfl, co9_pos e8 hc9, cq_2 c_14 e8.symm⟩), ht⟩) (fun _ h => by cases h) dX9_chainOf_171
        refine lv_iload hx hb dX9_chainOf_151 (lv_at hl 0 rfl) ?_
        refine lv_goto (tgt := 171) hx hb dX9_chainOf_153 (by decide) ?_
        exact W.iret (v := z4_11) hx hb hr (fun t ht hW => ⟨z4_11, rfl, (Or.inl ⟨_, hm1_, rfl, co9_pos e8 hc9, co9_1 e8 e11 hc9 hg9 c_13 e_11_0⟩), ht⟩) (fun _ h => by cases h) dX9_chainOf_171
      refine lv_iload hx hb dX9_chainOf_132 (lv_at hl 1 rfl) ?_
      refine lv_if_ge (tgt := 141) hx hb dX9_chainOf_134 (by decide) (fun c_17 => ?_) (fun c_17 => ?_)
      · refine lv_iload hx hb dX9_chainOf_141 (lv_at hl 1 rfl) ?_
        refine lv_goto (tgt := 171) hx hb dX9_chainOf_143 (by decide) ?_
        exact W.iret (v := z5_11) hx hb hr (fun t ht hW => ⟨z5_11, rfl, (Or.inl ⟨_, hm1_, rfl, co9_pos e8 hc9, co9_0 e8 e11 hc9 hg9 c_12 e_11_1 (Or.inr ⟨c_17, rfl⟩)⟩), ht⟩) (fun _ h => by cases h) dX9_chainOf_171
      refine lv_iconst (v := 0) hx hb dX9_chainOf_137 (by decide) ?_
      refine lv_goto (tgt := 171) hx hb dX9_chainOf_138 (by decide) ?_
      exact W.iret (v := 0) hx hb hr (fun t ht hW => ⟨0, rfl, (Or.inl ⟨_, hm1_, rfl, co9_pos e8 hc9, co9_0 e8 e11 hc9 hg9 c_12 e_11_1 (Or.inl ⟨c_17, rfl⟩)⟩), ht⟩) (fun _ h => by cases h) dX9_chainOf_171
  refine lv_if_eq (tgt := 17) hx hb dX9_chainOf_5 (by decide) (fun _ => ?_) (fun c_18 => False.elim (by revert c_18; decide))
  refine lv_iconst (v := (-1)) hx hb dX9_chainOf_17 (by decide) ?_
  exact W.iret (v := (-1)) hx hb hr (fun t ht hW => ⟨(-1), rfl, (Or.inr ⟨rfl, fun ⟨i, h1, h2, _⟩ => h_1 ⟨i, h1, h2⟩⟩), ht⟩) (fun _ h => by cases h) dX9_chainOf_18
