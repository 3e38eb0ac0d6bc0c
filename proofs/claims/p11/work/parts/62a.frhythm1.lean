/-- the one, begun with an even step and gone round, is the other -/
def alkC (s : Nat) (f g : Nat → Int32) : Prop := ∃ t, t < s ∧ t % 2 = 0 ∧ ∀ k, k < s → f ((k + t) % s) = g k
theorem ev_s {M : Nat → Prop} {a : Nat} (h : ∀ t, t < a → t % 2 = 0 → ¬ M t) (he : a % 2 = 0) (hn : ¬ M a) : ∀ t, t < a + 2 → t % 2 = 0 → ¬ M t := fun t ht hv => by
  rcases Nat.lt_or_ge t a with q | q
  · exact h t q hv
  · rw [show t = a by omega]; exact hn
theorem alk_of {y : Int32} {s : Nat} {f g : Nat → Int32} (e : y = nI s) (hs : s < 2 ^ 31) (h : alkC s f g) : alkC y.toNatClampNeg f g := by rw [e, nI_clamp hs]; exact h
theorem alk_to {y : Int32} {s : Nat} {f g : Nat → Int32} (e : y = nI s) (hs : s < 2 ^ 31) (h : alkC y.toNatClampNeg f g) : alkC s f g := by rw [e, nI_clamp hs] at h; exact h
/-- a number without its k lowest digits, and its k-th digit -/
def dvF (x : Int32) : Nat → Int32
  | 0 => x
  | k + 1 => dvF x k / 10
def dgF (x : Int32) (k : Nat) : Int32 := dvF x k - dvF x k / 10 * 10
theorem dg_s {x z : Int32} {f : Nat → Int32} {k_ : Nat} (hz : z = dvF x k_) (hd : ∀ k, k < k_ → 0 < dgF x k ∧ f k = dgF x k) (c : 0 < z - z / 10 * 10) : ∀ k, k < k_ + 1 → 0 < dgF x k ∧ upd f k_ (z - z / 10 * 10) k = dgF x k := fun k hk => by
  show 0 < dgF x k ∧ (if k = k_ then z - z / 10 * 10 else f k) = dgF x k
  by_cases e : k = k_
  · rw [if_pos e, e]
    rw [hz] at c ⊢
    exact ⟨c, rfl⟩
  · rw [if_neg e]; exact hd k (by omega)
theorem dg_no {x z : Int32} {k_ : Nat} (hz : z = dvF x k_) (c : ¬ 0 < z - z / 10 * 10) : ¬ 0 < dgF x k_ := by rw [hz] at c; exact c
/-- many steps, the digits of a number: a rhythm -/
def rhP (x1 x2 : Int32) : Prop := ∃ v, 1 ≤ v ∧ v ≤ 8 ∧ x1 = nI v ∧ v % 2 = 0 ∧ (∀ k, k < v → 0 < dgF x2 k) ∧ dvF x2 v = 0
theorem rem2 {v : Nat} (hv : v < 2 ^ 31) : nI v - nI v / 2 * 2 = nI (v % 2) := pk_rem hv (by decide) (by decide)
theorem rd_ev {v : Nat} (hv : v < 2 ^ 31) (c : nI v - nI v / 2 * 2 = 0) : v % 2 = 0 := by
  rw [rem2 hv] at c
  exact (nI_inj9 (by omega) (by decide)).mp c
theorem rh_no1 {x1 x2 : Int32} (h : ¬ (1 ≤ x1 ∧ x1 ≤ 8)) : ¬ rhP x1 x2 := fun ⟨v, h1, h2, h3, _⟩ => h (by rw [h3]; exact ⟨nI_le h1 (by omega), nI_le h2 (by decide)⟩)
theorem rh_no2 {x1 x2 : Int32} (c : ¬ x1 - x1 / 2 * 2 = 0) : ¬ rhP x1 x2 := fun ⟨v, h1, h2, h3, h4, _⟩ => c (by rw [h3, rem2 (by omega), h4]; rfl)
theorem rh_no3 {v : Nat} {x2 : Int32} (hv : v ≤ 8) (h : ¬ ∀ k, k < v → 0 < dgF x2 k) : ¬ rhP (nI v) x2 := fun ⟨w, h1, h2, h3, h4, h5, _⟩ => h (by rw [(nI_inj9 (by omega) (by omega)).mp h3]; exact h5)
theorem rh_no4 {v : Nat} {x2 z : Int32} (hv : v ≤ 8) (hz : z = dvF x2 v) (c : ¬ z = 0) : ¬ rhP (nI v) x2 := fun ⟨w, h1, h2, h3, h4, h5, h6⟩ => c (by rw [hz, (nI_inj9 (by omega) (by omega)).mp h3]; exact h6)
set_option maxHeartbeats 4000000 in
set_option maxRecDepth 100000 in
/-- X3_matchesTurned: the loop at 2 -/
theorem lf_X3_mt {p : Program} {l : Launch} {e : Env} {s : State} {m : MethodId} {args : Array Value} {below : List Frame} {meth : Method} {c : Code} {Q : State → Prop} {D : va_G} {cI cJ cZ cM : Nat} {s0 : Nat} {s1 : Nat} {y1 : Int32} {f : Nat → Int32} {t0 : Nat} {t1 : Nat} {y2 : Int32} {g : Nat → Int32} {sa : Nat} {t_ : Nat} {H : Heap} (hx : p.tables.exec = Jvm.exec) (hb : c.code = cX3_matchesTurned) (hml : c.maxLocals = 4) (hts : ∀ w ∈ wsX3_matchesTurned, w.before args s = true) (hown : s.vm.findClass RX3 = some m.cls) (hG : GK D cI cJ cZ cM s) (hP : va_P D vwCl [(s0, .inr (3, [.ref s1, .int y1])), (s1, .inl (cI, 8, .inl f)), (t0, .inr (3, [.ref t1, .int y2])), (t1, .inl (cI, 8, .inl g))] H) (esa : y1 = nI sa) (hsa : sa ≤ 8) (ht_ : t_ < sa) :
    ∀ (k9 : Nat) (k_ : Nat), (k_ ≤ sa) → (∀ k, k < k_ → f ((k + t_) % sa) = g k) → sa - k_ < k9 → ∀ (ls : Array Slot), lv_has ls 4 [(3, .int (nI k_)), (0, .ref s0), (1, .ref t0), (2, .int (nI t_))] → (∀  (ls : Array Slot), (∀ k, k < sa → f ((k + t_) % sa) = g k) → lv_has ls 4 [(0, .ref s0), (1, .ref t0), (2, .int (nI t_))] → W p l e (headSpec wsX3_matchesTurned ({ frames := 0, cells := 0, slots := 0, locals := 0 } : Room)).room s m args below meth c H [] 0 0 Q (F0 m 40 ls [])) → (∀  (ls : Array Slot), (¬ (∀ k, k < sa → f ((k + t_) % sa) = g k)) → lv_has ls 4 [(0, .ref s0)] → W p l e (headSpec wsX3_matchesTurned ({ frames := 0, cells := 0, slots := 0, locals := 0 } : Room)).room s m args below meth c H [] 0 0 Q (F0 m 32 ls [])) → W p l e (headSpec wsX3_matchesTurned ({ frames := 0, cells := 0, slots := 0, locals := 0 } : Room)).room s m args below meth c H [] 0 0 Q (F0 m 2 ls []) := by
  have hK := hG.1
  have hN := hG.2
  intro k9
  induction k9 with
  | zero => intro k_ hk hno hfu; exact absurd hfu (Nat.not_lt_zero _)
  | succ k9 ih =>
    intro k_ hk hno hfu ls hl kk0 kk1
    rcases Nat.lt_or_ge k_ sa with hlt | hge
    · refine lv_iload_n hx hb dX3_matchesTurned_2 rfl (lv_at hl 0 rfl) ?_
      refine lv_aload_n hx hb dX3_matchesTurned_3 rfl (lv_at hl 1 rfl) ?_
      refine va_get (D := D) (ci := 3) (v := .int y1) (C := RX3) (T := TX3) (N := 2) hx hb hts (fun _ h9 => List.mem_cons_of_mem _ (List.mem_append_right _ h9)) hown hK hP 0 rfl rfl 1 (by decide) (hts (.fieldLink RX3 15 "BuoyTender$Rhythm" "many" "I") (by decide +kernel)) (fun _ h9 => h9) rfl dX3_matchesTurned_4 ?_
      refine lv_topi (fun z_1 ez_1 => ?_)
      obtain rfl : z_1 = nI sa := ez_1.trans esa
      refine lv_icmp_ge (tgt := 40) hx hb dX3_matchesTurned_7 (by decide) (fun c_2 => absurd c_2 (nI_ge hlt (by omega))) (fun c_2 => ?_)
      refine lv_aload_n hx hb dX3_matchesTurned_10 rfl (lv_at hl 1 rfl) ?_
      refine va_get (D := D) (ci := 3) (v := .ref s1) (C := RX3) (T := TX3) (N := 2) hx hb hts (fun _ h9 => List.mem_cons_of_mem _ (List.mem_append_right _ h9)) hown hK hP 0 rfl rfl 0 (by decide) (hts (.fieldLink RX3 9 "BuoyTender$Rhythm" "steps" "[I") (by decide +kernel)) (fun _ h9 => h9) rfl dX3_matchesTurned_11 ?_
      refine lv_iload_n hx hb dX3_matchesTurned_14 rfl (lv_at hl 0 rfl) ?_
      refine lv_iload_n hx hb dX3_matchesTurned_15 rfl (lv_at hl 3 rfl) ?_
      refine lv_iadd hx hb dX3_matchesTurned_16 ?_
      refine lv_topi (fun z_3 ez_3 => ?_)
      obtain rfl : z_3 = nI (k_ + t_) := ez_3.trans (nI_add k_ t_)
      refine lv_aload_n hx hb dX3_matchesTurned_17 rfl (lv_at hl 1 rfl) ?_
      refine va_get (D := D) (ci := 3) (v := .int y1) (C := RX3) (T := TX3) (N := 2) hx hb hts (fun _ h9 => List.mem_cons_of_mem _ (List.mem_append_right _ h9)) hown hK hP 0 rfl rfl 1 (by decide) (hts (.fieldLink RX3 15 "BuoyTender$Rhythm" "many" "I") (by decide +kernel)) (fun _ h9 => h9) rfl dX3_matchesTurned_18 ?_
      refine lv_topi (fun z_4 ez_4 => ?_)
      obtain rfl : z_4 = nI sa := ez_4.trans esa
      refine lv_irem hx hb dX3_matchesTurned_21 (nI_nz9 (by omega) (by omega)) ?_
      refine lv_topi (fun z_5 ez_5 => ?_)
      obtain rfl : z_5 = nI ((k_ + t_) % sa) := ez_5.trans (pk_rem (by omega) (by omega) (by omega))
      have hmod9 : (k_ + t_) % sa < sa := Nat.mod_lt _ (by omega)
      refine va_iald hx hb hK hP 1 0 rfl rfl (vp_in_nI (by omega) (by decide)) dX3_matchesTurned_22 ?_
      refine lv_topi (fun z_6 ez_6 => ?_)
      obtain rfl : z_6 = f ((k_ + t_) % sa) := ez_6.trans (congrArg f (nI_clamp (by omega)))
      refine lv_aload_n hx hb dX3_matchesTurned_23 rfl (lv_at hl 2 rfl) ?_
      refine va_get (D := D) (ci := 3) (v := .ref t1) (C := RX3) (T := TX3) (N := 2) hx hb hts (fun _ h9 => List.mem_cons_of_mem _ (List.mem_append_right _ h9)) hown hK hP 2 rfl rfl 0 (by decide) (hts (.fieldLink RX3 9 "BuoyTender$Rhythm" "steps" "[I") (by decide +kernel)) (fun _ h9 => h9) rfl dX3_matchesTurned_24 ?_
      refine lv_iload_n hx hb dX3_matchesTurned_27 rfl (lv_at hl 0 rfl) ?_
      refine va_iald hx hb hK hP 3 0 rfl rfl (vp_in_nI (by omega) (by decide)) dX3_matchesTurned_28 ?_
      refine lv_topi (fun z_7 ez_7 => ?_)
      obtain rfl : z_7 = g k_ := ez_7.trans (congrArg g (nI_clamp (by omega)))
      refine lv_icmp_eq (tgt := 34) hx hb dX3_matchesTurned_29 (by decide) (fun c_8 => ?_) (fun c_8 => ?_)
      · refine lv_iinc (v := nI (k_ + 1)) (lv' := [(3, .int (nI (k_ + 1))), (0, .ref s0), (1, .ref t0), (2, .int (nI t_))]) hx hb dX3_matchesTurned_34 hl (k := 0) rfl (nI_add k_ 1) (by decide) rfl (fun ls hl => ?_)
        refine lv_goto (tgt := 2) hx hb dX3_matchesTurned_37 (by decide) ?_
        exact ih (k_ + 1) (by omega) (lt_s hno c_8) (by omega) _ (lv_sub hl [0, 1, 2, 3] rfl) kk0 kk1
      exact kk1  _ (fun q => c_8 (q k_ hlt)) (lv_sub hl [1] rfl)
    · refine lv_iload_n hx hb dX3_matchesTurned_2 rfl (lv_at hl 0 rfl) ?_
      refine lv_aload_n hx hb dX3_matchesTurned_3 rfl (lv_at hl 1 rfl) ?_
      refine va_get (D := D) (ci := 3) (v := .int y1) (C := RX3) (T := TX3) (N := 2) hx hb hts (fun _ h9 => List.mem_cons_of_mem _ (List.mem_append_right _ h9)) hown hK hP 0 rfl rfl 1 (by decide) (hts (.fieldLink RX3 15 "BuoyTender$Rhythm" "many" "I") (by decide +kernel)) (fun _ h9 => h9) rfl dX3_matchesTurned_4 ?_
      refine lv_topi (fun z_9 ez_9 => ?_)
      obtain rfl : z_9 = nI sa := ez_9.trans esa
      refine lv_icmp_ge (tgt := 40) hx hb dX3_matchesTurned_7 (by decide) (fun c_10 => ?_) (fun c_10 => absurd (nI_le hge (by omega)) c_10)
      exact kk0  _ (fun k hk9 => hno k (by omega)) (lv_sub hl [1, 2, 3] rfl)
set_option maxHeartbeats 4000000 in
set_option maxRecDepth 100000 in
/-- alike, turned -/
theorem kf_X3_matchesTurned (l : Launch) (D : va_G) (cI cJ cZ cM : Nat) (s0 : Nat) (s1 : Nat) (y1 : Int32) (f : Nat → Int32) (t0 : Nat) (t1 : Nat) (y2 : Int32) (g : Nat → Int32) (sa : Nat) (esa : y1 = nI sa) (hsa : sa ≤ 8) (t_ : Nat) (ht_ : t_ < sa) : Met l yX3_matchesTurned wsX3_matchesTurned ({ frames := 0, cells := 0, slots := 0, locals := 0 } : Room) (RO D cI cJ cZ cM [.ref s0, .ref t0, .int (nI t_)] [(s0, .inr (3, [.ref s1, .int y1])), (s1, .inl (cI, 8, .inl f)), (t0, .inr (3, [.ref t1, .int y2])), (t1, .inl (cI, 8, .inl g))]) (vp_Si (fun r => okI 1 0 (∀ k, k < sa → f ((k + t_) % sa) = g k) r)) 0 0 (fun _ => False) := by
  refine Met.ofW (cc := cX3_matchesTurned) (maxL := 4) (ret := (some .boolean)) (by decide) rfl ?_
  intro p e s m args below meth c s₁ B hml hv
  obtain ⟨rfl, hG, hP⟩ := hv
  have hx := B.exec
  have hb := B.bytes
  have hr := B.returns
  have hts := atoms_spec (ws := wsX3_matchesTurned) B.pre
  have hown : s.vm.findClass RX3 = some m.cls := findClass_of_methodNamed B.named
  have hlocks := B.notSynchronized
  have hK := hG.1
  have hN := hG.2
  have hl := lv_entry ([.ref s0, .ref t0, .int (nI t_)]) (n := 4) (Nat.le_of_ble_eq_true rfl)
  rw [lg_entry_eq]
  generalize (lg_sl ([.ref s0, .ref t0, .int (nI t_)]) ++ List.replicate (4 - (lg_sl ([.ref s0, .ref t0, .int (nI t_)])).length) Slot.unset).toArray = ls at hl ⊢
  have hl : lv_has ls 4 [(0, .ref s0), (1, .ref t0), (2, .int (nI t_))] := hl
  refine lv_iconst (v := 0) hx hb dX3_matchesTurned_0 (by decide) ?_
  refine lv_istore_n (lv' := [(3, .int 0), (0, .ref s0), (1, .ref t0), (2, .int (nI t_))]) hx hb dX3_matchesTurned_1 rfl hl (by decide) rfl (fun ls hl => ?_)
  have hPl := hP.sub (ws' := [(s0, .inr (3, [.ref s1, .int y1])), (s1, .inl (cI, 8, .inl f)), (t0, .inr (3, [.ref t1, .int y2])), (t1, .inl (cI, 8, .inl g))]) [0, 1, 2, 3] rfl
  refine lf_X3_mt hx hb hml hts hown hG hPl esa hsa ht_ (sa + 1) 0 (Nat.zero_le _) lt_0 (by omega) _ (lv_sub hl [0, 1, 2, 3] rfl) (fun  ls e_1_0 hl => ?_) (fun  ls e_2_0 hl => ?_)
  · refine lv_iconst (v := 1) hx hb dX3_matchesTurned_40 (by decide) ?_
    exact W.zret (v := 1) hx hb hr rfl (fun t ht hW => ⟨1, rfl, (Or.inl ⟨rfl, e_1_0⟩), ht⟩) (fun _ h => by cases h) dX3_matchesTurned_41
  refine lv_iconst (v := 0) hx hb dX3_matchesTurned_32 (by decide) ?_
  exact W.zret (v := 0) hx hb hr rfl (fun t ht hW => ⟨0, rfl, (Or.inr ⟨rfl, e_2_0⟩), ht⟩) (fun _ h => by cases h) dX3_matchesTurned_33
set_option maxHeartbeats 4000000 in
set_option maxRecDepth 100000 in
/-- X3_matches: the loop at 15 -/
theorem lf_X3_matches {p : Program} {l : Launch} {e : Env} {s : State} {m : MethodId} {args : Array Value} {below : List Frame} {meth : Method} {c : Code} {Q : State → Prop} {D : va_G} {cI cJ cZ cM : Nat} {s0 : Nat} {s1 : Nat} {y1 : Int32} {f : Nat → Int32} {t0 : Nat} {t1 : Nat} {y2 : Int32} {g : Nat → Int32} {sa : Nat} {H : Heap} (hx : p.tables.exec = Jvm.exec) (hb : c.code = cX3_matches) (hml : c.maxLocals = 3) (hts : ∀ w ∈ wsX3_matches, w.before args s = true) (hown : s.vm.findClass RX3 = some m.cls) (hG : GK D cI cJ cZ cM s) (hP : va_P D vwCl [(s0, .inr (3, [.ref s1, .int y1])), (s1, .inl (cI, 8, .inl f)), (t0, .inr (3, [.ref t1, .int y2])), (t1, .inl (cI, 8, .inl g))] H) (esa : y1 = nI sa) (hsa : sa ≤ 8) :
    ∀ (k9 : Nat) (t_ : Nat), (t_ ≤ sa + 1) → (t_ % 2 = 0) → (∀ t, t < t_ → t % 2 = 0 → ¬ (∀ k, k < sa → f ((k + t) % sa) = g k)) → sa - t_ < k9 → ∀ (ls : Array Slot), lv_has ls 3 [(2, .int (nI t_)), (0, .ref s0), (1, .ref t0)] → (∀  (ls : Array Slot), (¬ alkC sa f g) → lv_has ls 3 [(0, .ref s0), (1, .ref t0)] → W p l e (headSpec wsX3_matches ({ frames := 1, cells := 0, slots := 0, locals := 23 } : Room)).room s m args below meth c H [] 0 0 Q (F0 m 40 ls [])) → (∀  (ls : Array Slot), (alkC sa f g) → lv_has ls 3 [(0, .ref s0)] → W p l e (headSpec wsX3_matches ({ frames := 1, cells := 0, slots := 0, locals := 23 } : Room)).room s m args below meth c H [] 0 0 Q (F0 m 32 ls [])) → W p l e (headSpec wsX3_matches ({ frames := 1, cells := 0, slots := 0, locals := 23 } : Room)).room s m args below meth c H [] 0 0 Q (F0 m 15 ls []) := by
  have hK := hG.1
  have hN := hG.2
  intro k9
  induction k9 with
  | zero => intro t_ ht_ hev hno hfu; exact absurd hfu (Nat.not_lt_zero _)
  | succ k9 ih =>
    intro t_ ht_ hev hno hfu ls hl kk0 kk1
    rcases Nat.lt_or_ge t_ sa with hlt | hge
    · refine lv_iload_n hx hb dX3_matches_15 rfl (lv_at hl 0 rfl) ?_
      refine lv_aload_n hx hb dX3_matches_16 rfl (lv_at hl 1 rfl) ?_
      refine va_get (D := D) (ci := 3) (v := .int y1) (C := RX3) (T := TX3) (N := 2) hx hb hts (fun _ h9 => List.mem_cons_of_mem _ (List.mem_append_right _ h9)) hown hK hP 0 rfl rfl 1 (by decide) (hts (.fieldLink RX3 15 "BuoyTender$Rhythm" "many" "I") (by decide +kernel)) (fun _ h9 => h9) rfl dX3_matches_17 ?_
      refine lv_topi (fun z_1 ez_1 => ?_)
      obtain rfl : z_1 = nI sa := ez_1.trans esa
      refine lv_icmp_ge (tgt := 40) hx hb dX3_matches_20 (by decide) (fun c_2 => absurd c_2 (nI_ge hlt (by omega))) (fun c_2 => ?_)
      refine lv_aload_n hx hb dX3_matches_23 rfl (lv_at hl 1 rfl) ?_
      refine lv_aload_n hx hb dX3_matches_24 rfl (lv_at hl 2 rfl) ?_
      refine lv_iload_n hx hb dX3_matches_25 rfl (lv_at hl 0 rfl) ?_
      have hq0 : va_P D vwCl [(s0, .inr (3, [.ref s1, .int y1]))] _ := vaP_1 (k := 0) hP rfl
      have hq1 : va_P D vwCl [(s1, .inl (cI, 8, .inl f))] _ := vaP_1 (k := 1) hP rfl
      have hq2 : va_P D vwCl [(t0, .inr (3, [.ref t1, .int y2]))] _ := vaP_1 (k := 2) hP rfl
      have hq3 : va_P D vwCl [(t1, .inl (cI, 8, .inl g))] _ := vaP_1 (k := 3) hP rfl
      have hPc := (va_P.app (va_P.app (va_P.app hq0 hq1) hq2) hq3)
      have hPc : va_P D vwCl [(s0, .inr (3, [.ref s1, .int y1])), (s1, .inl (cI, 8, .inl f)), (t0, .inr (3, [.ref t1, .int y2])), (t1, .inl (cI, 8, .inl g))] _ := hPc
      refine vp_callSi (va_Run.run (va_runV (As := [.ref t0, .int (nI t_)]) (rest := []) ⟨hx, hb, hml, hown, hts⟩ (kf_X3_matchesTurned l D cI cJ cZ cM s0 s1 y1 f t0 t1 y2 g sa esa hsa t_ (by omega)) (cwV 2 hts gX3_matches_X3_matchesTurned rfl rfl rfl (by decide +kernel) ⟨Nat.le_of_ble_eq_true rfl, Nat.le_of_ble_eq_true rfl⟩) (ro_V hG hPc (va_recv hK hPc (ci := 3) (q0 := 0) rfl rfl)) rfl rfl hl.1 rfl (lv_room (Nat.le_of_ble_eq_true rfl)) dX3_matches_26 ⟨Nat.le_of_ble_eq_true rfl, Nat.le_of_ble_eq_true rfl⟩)) (fun r_3 h_3 => ?_)
      rcases h_3 with ⟨rfl, h_3⟩ | ⟨rfl, h_3⟩
      · refine lv_if_eq (tgt := 34) hx hb dX3_matches_29 (by decide) (fun c_4 => False.elim (by revert c_4; decide)) (fun _ => ?_)
        exact kk1  _ ⟨t_, hlt, hev, h_3⟩ (lv_sub hl [1] rfl)
      refine lv_if_eq (tgt := 34) hx hb dX3_matches_29 (by decide) (fun _ => ?_) (fun c_5 => False.elim (by revert c_5; decide))
      refine lv_iinc (v := nI (t_ + 2)) (lv' := [(2, .int (nI (t_ + 2))), (0, .ref s0), (1, .ref t0)]) hx hb dX3_matches_34 hl (k := 0) rfl (nI_add t_ 2) (by decide) rfl (fun ls hl => ?_)
      refine lv_goto (tgt := 15) hx hb dX3_matches_37 (by decide) ?_
      exact ih (t_ + 2) (by omega) (by omega) (ev_s hno hev h_3) (by omega) _ (lv_sub hl [0, 1, 2] rfl) kk0 kk1
    · refine lv_iload_n hx hb dX3_matches_15 rfl (lv_at hl 0 rfl) ?_
      refine lv_aload_n hx hb dX3_matches_16 rfl (lv_at hl 1 rfl) ?_
      refine va_get (D := D) (ci := 3) (v := .int y1) (C := RX3) (T := TX3) (N := 2) hx hb hts (fun _ h9 => List.mem_cons_of_mem _ (List.mem_append_right _ h9)) hown hK hP 0 rfl rfl 1 (by decide) (hts (.fieldLink RX3 15 "BuoyTender$Rhythm" "many" "I") (by decide +kernel)) (fun _ h9 => h9) rfl dX3_matches_17 ?_
      refine lv_topi (fun z_6 ez_6 => ?_)
      obtain rfl : z_6 = nI sa := ez_6.trans esa
      refine lv_icmp_ge (tgt := 40) hx hb dX3_matches_20 (by decide) (fun c_7 => ?_) (fun c_7 => absurd (nI_le hge (by omega)) c_7)
      exact kk0  _ (fun ⟨t, q1, q2, q3⟩ => hno t (by omega) q2 q3) (lv_sub hl [1, 2] rfl)
set_option maxHeartbeats 4000000 in
set_option maxRecDepth 100000 in
/-- alike -/
theorem kf_X3_matches (l : Launch) (D : va_G) (cI cJ cZ cM : Nat) (s0 : Nat) (s1 : Nat) (y1 : Int32) (f : Nat → Int32) (t0 : Nat) (t1 : Nat) (y2 : Int32) (g : Nat → Int32) (sa : Nat) (esa : y1 = nI sa) (hsa : sa ≤ 8) : Met l yX3_matches wsX3_matches ({ frames := 1, cells := 0, slots := 0, locals := 23 } : Room) (RO D cI cJ cZ cM [.ref s0, .ref t0] [(s0, .inr (3, [.ref s1, .int y1])), (s1, .inl (cI, 8, .inl f)), (t0, .inr (3, [.ref t1, .int y2])), (t1, .inl (cI, 8, .inl g))]) (vp_Si (fun r => okI 1 0 (y1 = y2 ∧ alkC y1.toNatClampNeg f g) r)) 0 0 (fun _ => False) := by
  refine Met.ofW (cc := cX3_matches) (maxL := 3) (ret := (some .boolean)) (by decide) rfl ?_
  intro p e s m args below meth c s₁ B hml hv
  obtain ⟨rfl, hG, hP⟩ := hv
  have hx := B.exec
  have hb := B.bytes
  have hr := B.returns
  have hts := atoms_spec (ws := wsX3_matches) B.pre
  have hown : s.vm.findClass RX3 = some m.cls := findClass_of_methodNamed B.named
  have hlocks := B.notSynchronized
  have hK := hG.1
  have hN := hG.2
  have hl := lv_entry ([.ref s0, .ref t0]) (n := 3) (Nat.le_of_ble_eq_true rfl)
  rw [lg_entry_eq]
  generalize (lg_sl ([.ref s0, .ref t0]) ++ List.replicate (3 - (lg_sl ([.ref s0, .ref t0])).length) Slot.unset).toArray = ls at hl ⊢
  have hl : lv_has ls 3 [(0, .ref s0), (1, .ref t0)] := hl
  refine lv_aload_n hx hb dX3_matches_0 rfl (lv_at hl 0 rfl) ?_
  refine va_get (D := D) (ci := 3) (v := .int y1) (C := RX3) (T := TX3) (N := 2) hx hb hts (fun _ h9 => List.mem_cons_of_mem _ (List.mem_append_right _ h9)) hown hK hP 0 rfl rfl 1 (by decide) (hts (.fieldLink RX3 15 "BuoyTender$Rhythm" "many" "I") (by decide +kernel)) (fun _ h9 => h9) rfl dX3_matches_1 ?_
  refine lv_topi (fun z_1 ez_1 => ?_)
  obtain rfl : z_1 = nI sa := ez_1.trans esa
  refine lv_aload_n hx hb dX3_matches_4 rfl (lv_at hl 1 rfl) ?_
  refine va_get (D := D) (ci := 3) (v := .int y2) (C := RX3) (T := TX3) (N := 2) hx hb hts (fun _ h9 => List.mem_cons_of_mem _ (List.mem_append_right _ h9)) hown hK hP 2 rfl rfl 1 (by decide) (hts (.fieldLink RX3 15 "BuoyTender$Rhythm" "many" "I") (by decide +kernel)) (fun _ h9 => h9) rfl dX3_matches_5 ?_
  refine lv_icmp_eq (tgt := 13) hx hb dX3_matches_8 (by decide) (fun c_2 => ?_) (fun c_2 => ?_)
  · refine lv_iconst (v := 0) hx hb dX3_matches_13 (by decide) ?_
    refine lv_istore_n (lv' := [(2, .int 0), (0, .ref s0), (1, .ref t0)]) hx hb dX3_matches_14 rfl hl (by decide) rfl (fun ls hl => ?_)
    have hPl := hP.sub (ws' := [(s0, .inr (3, [.ref s1, .int y1])), (s1, .inl (cI, 8, .inl f)), (t0, .inr (3, [.ref t1, .int y2])), (t1, .inl (cI, 8, .inl g))]) [0, 1, 2, 3] rfl
    refine lf_X3_matches hx hb hml hts hown hG hPl esa hsa (sa + 1) 0 (Nat.zero_le _) rfl lt_0 (by omega) _ (lv_sub hl [0, 1, 2] rfl) (fun  ls e_3_0 hl => ?_) (fun  ls e_4_0 hl => ?_)
    · refine lv_iconst (v := 0) hx hb dX3_matches_40 (by decide) ?_
      exact W.zret (v := 0) hx hb hr rfl (fun t ht hW => ⟨0, rfl, (Or.inr ⟨rfl, fun q => e_3_0 (alk_to esa (by omega) q.2)⟩), ht⟩) (fun _ h => by cases h) dX3_matches_41
    refine lv_iconst (v := 1) hx hb dX3_matches_32 (by decide) ?_
    exact W.zret (v := 1) hx hb hr rfl (fun t ht hW => ⟨1, rfl, (Or.inl ⟨rfl, esa.trans c_2, alk_of esa (by omega) e_4_0⟩), ht⟩) (fun _ h => by cases h) dX3_matches_33
  refine lv_iconst (v := 0) hx hb dX3_matches_11 (by decide) ?_
  exact W.zret (v := 0) hx hb hr rfl (fun t ht hW => ⟨0, rfl, (Or.inr ⟨rfl, fun q => c_2 (esa.symm.trans q.1)⟩), ht⟩) (fun _ h => by cases h) dX3_matches_12
set_option maxHeartbeats 4000000 in
set_option maxRecDepth 100000 in
/-- is there a rhythm -/
theorem kf_X3_isLit (l : Launch) (D : va_G) (cI cJ cZ cM : Nat) (s0 : Nat) (s1 : Nat) (y1 : Int32) (f : Nat → Int32) : Met l yX3_isLit wsX3_isLit ({ frames := 0, cells := 0, slots := 0, locals := 0 } : Room) (RO D cI cJ cZ cM [.ref s0] [(s0, .inr (3, [.ref s1, .int y1])), (s1, .inl (cI, 8, .inl f))]) (vp_Si (fun r => okI 1 0 (0 < y1) r)) 0 0 (fun _ => False) := by
  refine Met.ofW (cc := cX3_isLit) (maxL := 1) (ret := (some .boolean)) (by decide) rfl ?_
  intro p e s m args below meth c s₁ B hml hv
  obtain ⟨rfl, hG, hP⟩ := hv
  have hx := B.exec
  have hb := B.bytes
  have hr := B.returns
  have hts := atoms_spec (ws := wsX3_isLit) B.pre
  have hown : s.vm.findClass RX3 = some m.cls := findClass_of_methodNamed B.named
  have hlocks := B.notSynchronized
  have hK := hG.1
  have hN := hG.2
  have hl := lv_entry ([.ref s0]) (n := 1) (Nat.le_of_ble_eq_true rfl)
  rw [lg_entry_eq]
  generalize (lg_sl ([.ref s0]) ++ List.replicate (1 - (lg_sl ([.ref s0])).length) Slot.unset).toArray = ls at hl ⊢
  have hl : lv_has ls 1 [(0, .ref s0)] := hl
  refine lv_aload_n hx hb dX3_isLit_0 rfl (lv_at hl 0 rfl) ?_
  refine va_get (D := D) (ci := 3) (v := .int y1) (C := RX3) (T := TX3) (N := 2) hx hb hts (fun _ h9 => List.mem_cons_of_mem _ (List.mem_append_right _ h9)) hown hK hP 0 rfl rfl 1 (by decide) (hts (.fieldLink RX3 15 "BuoyTender$Rhythm" "many" "I") (by decide +kernel)) (fun _ h9 => h9) rfl dX3_isLit_1 ?_
  refine lv_if_le (tgt := 11) hx hb dX3_isLit_4 (by decide) (fun c_1 => ?_) (fun c_1 => ?_)
  · refine lv_iconst (v := 0) hx hb dX3_isLit_11 (by decide) ?_
    exact W.zret (v := 0) hx hb hr rfl (fun t ht hW => ⟨0, rfl, (Or.inr ⟨rfl, fun q => Int32.not_lt.mpr c_1 q⟩), ht⟩) (fun _ h => by cases h) dX3_isLit_12
  refine lv_iconst (v := 1) hx hb dX3_isLit_7 (by decide) ?_
  refine lv_goto (tgt := 12) hx hb dX3_isLit_8 (by decide) ?_
  exact W.zret (v := 1) hx hb hr rfl (fun t ht hW => ⟨1, rfl, (Or.inl ⟨rfl, Int32.not_le.mp c_1⟩), ht⟩) (fun _ h => by cases h) dX3_isLit_12
set_option maxHeartbeats 4000000 in
set_option maxRecDepth 100000 in
/-- X3_read: the loop at 23 -/
theorem lf_X3_read {p : Program} {l : Launch} {e : Env} {s : State} {m : MethodId} {args : Array Value} {below : List Frame} {meth : Method} {c : Code} {Q : State → Prop} {D : va_G} {cI cJ cZ cM : Nat} {a : Nat → Nat} {iv : Nat → Int32} {v_ : Nat} {x2 : Int32} {A : Nat → Prop} (hx : p.tables.exec = Jvm.exec) (hb : c.code = cX3_read) (hml : c.maxLocals = 6) (hts : ∀ w ∈ wsX3_read, w.before args s = true) (hown : s.vm.findClass RX3 = some m.cls) (hG : GK D cI cJ cZ cM s) (hA : ∀ q : Nat, s.heap.size ≤ q → A q) (hv_ : v_ ≤ 8) :
    ∀ (k9 : Nat) (k_ : Nat) (z : Int32) (f15 : Nat → Int32), (k_ ≤ v_) → (z = dvF x2 k_) → (∀ k, k < k_ → 0 < dgF x2 k ∧ f15 k = dgF x2 k) → v_ - k_ < k9 → ∀ (H : Heap) (locs : List Loc) (ls : Array Slot), va_P D vwCl [(a 8, .inr (3, [.ref (a 15), .int (iv 19)])), (a 15, .inl (cI, 8, .inl f15))] H → va_D A [(a 8, .inr (3, [.ref (a 15), .int (iv 19)])), (a 15, .inl (cI, 8, .inl f15))] → va_S A s.heap H locs → lv_has ls 6 [(4, .int (nI k_)), (3, .int z), (0, .ref (a 8)), (1, .int (nI v_)), (2, .int x2)] → (∀ (z : Int32) (f15 : Nat → Int32) (H : Heap) (locs : List Loc) (ls : Array Slot), (z = dvF x2 v_) → (∀ k, k < v_ → 0 < dgF x2 k ∧ f15 k = dgF x2 k) → va_P D vwCl [(a 8, .inr (3, [.ref (a 15), .int (iv 19)])), (a 15, .inl (cI, 8, .inl f15))] H → va_D A [(a 8, .inr (3, [.ref (a 15), .int (iv 19)])), (a 15, .inl (cI, 8, .inl f15))] → va_S A s.heap H locs → lv_has ls 6 [(3, .int z), (0, .ref (a 8)), (1, .int (nI v_)), (2, .int x2)] → W p l e (headSpec wsX3_read ({ frames := 1, cells := 0, slots := 0, locals := 22 } : Room)).room s m args below meth c H locs 0 0 Q (F0 m 62 ls [])) → (∀ (f15 : Nat → Int32) (H : Heap) (locs : List Loc) (ls : Array Slot), (¬ ∀ k, k < v_ → 0 < dgF x2 k) → va_P D vwCl [(a 8, .inr (3, [.ref (a 15), .int (iv 19)])), (a 15, .inl (cI, 8, .inl f15))] H → va_D A [(a 8, .inr (3, [.ref (a 15), .int (iv 19)])), (a 15, .inl (cI, 8, .inl f15))] → va_S A s.heap H locs → lv_has ls 6 [(0, .ref (a 8))] → W p l e (headSpec wsX3_read ({ frames := 1, cells := 0, slots := 0, locals := 22 } : Room)).room s m args below meth c H locs 0 0 Q (F0 m 40 ls [])) → W p l e (headSpec wsX3_read ({ frames := 1, cells := 0, slots := 0, locals := 22 } : Room)).room s m args below meth c H locs 0 0 Q (F0 m 23 ls []) := by
  have hK := hG.1
  have hN := hG.2
  intro k9
  induction k9 with
  | zero => intro k_ z f15 hk hz hd hfu; exact absurd hfu (Nat.not_lt_zero _)
  | succ k9 ih =>
    intro k_ z f15 hk hz hd hfu H locs ls hP hD hS hl kk0 kk1
    rcases Nat.lt_or_ge k_ v_ with hlt | hge
    · refine lv_iload hx hb dX3_read_23 (lv_at hl 0 rfl) ?_
      refine lv_iload_n hx hb dX3_read_25 rfl (lv_at hl 3 rfl) ?_
      refine lv_icmp_ge (tgt := 62) hx hb dX3_read_26 (by decide) (fun c_1 => absurd c_1 (nI_ge hlt (by omega))) (fun c_1 => ?_)
      refine lv_iload_n hx hb dX3_read_29 rfl (lv_at hl 1 rfl) ?_
      refine lv_bipush (v := 10) hx hb dX3_read_30 (by decide) ?_
      refine lv_irem hx hb dX3_read_32 (by decide) ?_
      refine lv_istore (lv' := [(5, .int (z - z / 10 * 10)), (4, .int (nI k_)), (3, .int z), (0, .ref (a 8)), (1, .int (nI v_)), (2, .int x2)]) hx hb dX3_read_33 hl (by decide) rfl (fun ls hl => ?_)
      refine lv_iload hx hb dX3_read_35 (lv_at hl 0 rfl) ?_
      refine lv_if_gt (tgt := 42) hx hb dX3_read_37 (by decide) (fun c_2 => ?_) (fun c_2 => ?_)
      · refine lv_aload_n hx hb dX3_read_42 rfl (lv_at hl 3 rfl) ?_
        refine va_get (D := D) (ci := 3) (v := .ref (a 15)) (C := RX3) (T := TX3) (N := 2) hx hb hts (fun _ h9 => List.mem_cons_of_mem _ (List.mem_append_right _ h9)) hown hK hP 0 rfl rfl 0 (by decide) (hts (.fieldLink RX3 9 "BuoyTender$Rhythm" "steps" "[I") (by decide +kernel)) (fun _ h9 => h9) rfl dX3_read_43 ?_
        refine lv_iload hx hb dX3_read_46 (lv_at hl 1 rfl) ?_
        refine lv_iload hx hb dX3_read_48 (lv_at hl 0 rfl) ?_
        refine va_iast hx hb hK hP hD hS 1 0 rfl rfl (vp_in_nI (by omega) (by decide)) dX3_read_50 (fun H locs hP hD hS => ?_)
        rw [nI_clamp (by omega)] at hP hD
        have hP : va_P D vwCl [(a 8, .inr (3, [.ref (a 15), .int (iv 19)])), (a 15, .inl (cI, 8, .inl (upd f15 k_ (z - z / 10 * 10))))] H := hP
        have hD : va_D A [(a 8, .inr (3, [.ref (a 15), .int (iv 19)])), (a 15, .inl (cI, 8, .inl (upd f15 k_ (z - z / 10 * 10))))] := hD
        refine lv_iload_n hx hb dX3_read_51 rfl (lv_at hl 2 rfl) ?_
        refine lv_bipush (v := 10) hx hb dX3_read_52 (by decide) ?_
        refine lv_idiv hx hb dX3_read_54 (by decide) ?_
        refine lv_istore_n (lv' := [(3, .int (z / 10)), (5, .int (z - z / 10 * 10)), (4, .int (nI k_)), (0, .ref (a 8)), (1, .int (nI v_)), (2, .int x2)]) hx hb dX3_read_55 rfl hl (by decide) rfl (fun ls hl => ?_)
        refine lv_iinc (v := nI (k_ + 1)) (lv' := [(4, .int (nI (k_ + 1))), (3, .int (z / 10)), (5, .int (z - z / 10 * 10)), (0, .ref (a 8)), (1, .int (nI v_)), (2, .int x2)]) hx hb dX3_read_56 hl (k := 2) rfl (nI_add k_ 1) (by decide) rfl (fun ls hl => ?_)
        refine lv_goto (tgt := 23) hx hb dX3_read_59 (by decide) ?_
        exact ih (k_ + 1) (z / 10) (upd f15 k_ (z - z / 10 * 10)) (by omega) (by rw [hz]; rfl) (dg_s hz hd c_2) (by omega) _ _ _ hP hD hS (lv_sub hl [0, 1, 3, 4, 5] rfl) kk0 kk1
      exact kk1 f15 _ _ _ (fun q => dg_no hz c_2 (q k_ hlt)) hP hD hS (lv_sub hl [3] rfl)
    · refine lv_iload hx hb dX3_read_23 (lv_at hl 0 rfl) ?_
      refine lv_iload_n hx hb dX3_read_25 rfl (lv_at hl 3 rfl) ?_
      refine lv_icmp_ge (tgt := 62) hx hb dX3_read_26 (by decide) (fun c_3 => ?_) (fun c_3 => absurd (nI_le hge (by omega)) c_3)
      exact kk0 z f15 _ _ _ (show z = dvF x2 v_ by rw [hz, show k_ = v_ by omega]) (fun k q => hd k (by omega)) hP hD hS (lv_sub hl [1, 2, 3, 4] rfl)
set_option maxHeartbeats 4000000 in
set_option maxRecDepth 100000 in
/-- X3_read -/
theorem kf_X3_read (l : Launch) (D : va_G) (cI cJ cZ cM : Nat) (a : Nat → Nat) (iv : Nat → Int32) (av : Nat → Nat → Int32) (b9 : Nat) (e19 : iv 19 = nI b9) (hb9 : b9 ≤ 8) (x1 : Int32) (x2 : Int32) (sz : Nat) : Met l yX3_read wsX3_read ({ frames := 1, cells := 0, slots := 0, locals := 22 } : Room) (RW D cI cJ cZ cM [.ref (a 8), .int x1, .int x2] [(a 8, .inr (3, [.ref (a 15), .int (iv 19)])), (a 15, .inl (cI, 8, .inl (av 15)))] sz) (va_Qi (S := Int32 × (Nat → Int32)) (fun r u => (∃ q, q ≤ 8 ∧ u.1 = nI q) ∧ ((r = 1 ∧ rhP x1 x2 ∧ u.1 = x1 ∧ ∃ v, x1 = nI v ∧ ∀ k, k < v → u.2 k = dgF x2 k) ∨ (r = 0 ∧ ¬ rhP x1 x2))) (BB D (fun u => [(a 8, .inr (3, [.ref (a 15), .int u.1])), (a 15, .inl (cI, 8, .inl u.2))]) (va_A [(a 8, .inr (3, [.ref (a 15), .int (iv 19)])), (a 15, .inl (cI, 8, .inl (av 15)))] sz)) (va_A [(a 8, .inr (3, [.ref (a 15), .int (iv 19)])), (a 15, .inl (cI, 8, .inl (av 15)))] sz)) 0 0 (va_A [(a 8, .inr (3, [.ref (a 15), .int (iv 19)])), (a 15, .inl (cI, 8, .inl (av 15)))] sz) := by
  refine Met.ofW (cc := cX3_read) (maxL := 6) (ret := (some .boolean)) (by decide) rfl ?_
  intro p e s m args below meth c s₁ B hml hv
  obtain ⟨rfl, hsz, hG, hP, hD0⟩ := hv
  have hx := B.exec
  have hb := B.bytes
  have hr := B.returns
  have hts := atoms_spec (ws := wsX3_read) B.pre
  have hown : s.vm.findClass RX3 = some m.cls := findClass_of_methodNamed B.named
  have hlocks := B.notSynchronized
  have hK := hG.1
  have hN := hG.2
  subst hsz
  have hD := hD0.self (sz := s.heap.size)
  generalize hAe : va_A [(a 8, .inr (3, [.ref (a 15), .int (iv 19)])), (a 15, .inl (cI, 8, .inl (av 15)))] s.heap.size = A at hD ⊢
  have hA : ∀ q : Nat, s.heap.size ≤ q → A q := fun q h => by rw [← hAe]; exact Or.inr h
  have hS : va_S A s.heap s.heap [] := va_S.rf
  have hP : va_P D vwCl [(a 8, .inr (3, [.ref (a 15), .int (iv 19)])), (a 15, .inl (cI, 8, .inl (av 15)))] s.heap := hP
  have hl := lv_entry ([.ref (a 8), .int x1, .int x2]) (n := 6) (Nat.le_of_ble_eq_true rfl)
  rw [lg_entry_eq]
  generalize (lg_sl ([.ref (a 8), .int x1, .int x2]) ++ List.replicate (6 - (lg_sl ([.ref (a 8), .int x1, .int x2])).length) Slot.unset).toArray = ls at hl ⊢
  have hl : lv_has ls 6 [(0, .ref (a 8)), (1, .int x1), (2, .int x2)] := hl
  refine lv_iload_n hx hb dX3_read_0 rfl (lv_at hl 1 rfl) ?_
  refine lv_iconst (v := 1) hx hb dX3_read_1 (by decide) ?_
  refine lv_bipush (v := 8) hx hb dX3_read_2 (by decide) ?_
  refine vp_callSi (va_Run.run (va_runSN (As := [.int x1, .int 1, .int 8]) (rest := []) ⟨hx, hb, hml, hown, hts⟩ (k_X8_within l x1 1 8) ⟨(va_cnB 3 hts gX3_read_X8_within_n19 rfl rfl rfl (hN.2.1 (RX3, 19, yX8_within, "BuoyTender") (by decide +kernel)) (hts (.initialized RX8) (by decide +kernel)) (by decide +kernel) ⟨Nat.le_of_ble_eq_true rfl, Nat.le_of_ble_eq_true rfl⟩), hts (.static yX8_within) (by decide +kernel), trivial⟩ preEq rfl rfl hl.1 rfl (lv_room (Nat.le_of_ble_eq_true rfl)) dX3_read_4 ⟨Nat.le_of_ble_eq_true rfl, Nat.le_of_ble_eq_true rfl⟩)) (fun r_1 h_1 => ?_)
  rcases h_1 with ⟨rfl, h_1⟩ | ⟨rfl, h_1⟩
  · refine lv_if_eq (tgt := 16) hx hb dX3_read_7 (by decide) (fun c_2 => False.elim (by revert c_2; decide)) (fun _ => ?_)
    refine lv_iload_n hx hb dX3_read_10 rfl (lv_at hl 1 rfl) ?_
    refine lv_iconst (v := 2) hx hb dX3_read_11 (by decide) ?_
    refine lv_irem hx hb dX3_read_12 (by decide) ?_
    refine lv_if_eq (tgt := 18) hx hb dX3_read_13 (by decide) (fun c_3 => ?_) (fun c_3 => ?_)
    · obtain ⟨v_, hv1_, hv_, rfl⟩ := rng1_n (N := 8) (by decide) h_1
      have hl : lv_has ls 6 [(0, .ref (a 8)), (1, .int (nI v_)), (2, .int x2)] := hl
      refine lv_iload_n hx hb dX3_read_18 rfl (lv_at hl 2 rfl) ?_
      refine lv_istore_n (lv' := [(3, .int x2), (0, .ref (a 8)), (1, .int (nI v_)), (2, .int x2)]) hx hb dX3_read_19 rfl hl (by decide) rfl (fun ls hl => ?_)
      refine lv_iconst (v := 0) hx hb dX3_read_20 (by decide) ?_
      refine lv_istore (lv' := [(4, .int 0), (3, .int x2), (0, .ref (a 8)), (1, .int (nI v_)), (2, .int x2)]) hx hb dX3_read_21 hl (by decide) rfl (fun ls hl => ?_)
      refine lf_X3_read hx hb hml hts hown hG hA hv_ (v_ + 1) 0 x2 (av 15) (Nat.zero_le _) rfl lt_0 (by omega) _ _ _ hP hD hS (lv_sub hl [0, 1, 2, 3, 4] rfl) (fun z_4 f15_4 H locs ls e_4_0 e_4_1 hP hD hS hl => ?_) (fun f15_5 H locs ls e_5_0 hP hD hS hl => ?_)
      · refine lv_aload_n hx hb dX3_read_62 rfl (lv_at hl 1 rfl) ?_
        refine lv_iload_n hx hb dX3_read_63 rfl (lv_at hl 2 rfl) ?_
        refine va_put (D := D) (ci := 3) (v := .int (nI v_)) (ty := (tyX3 1)) (C := RX3) (T := TX3) (N := 2) hx hb hts (fun _ h9 => List.mem_cons_of_mem _ (List.mem_append_right _ h9)) tyX3 tyX3_ok nmX3 hown hK hP hD hS 0 rfl rfl 1 (by decide) (hts (.fieldLink RX3 15 "BuoyTender$Rhythm" "many" "I") (by decide +kernel)) (fun _ h9 => h9) rfl (by decide +kernel) rfl rfl (Nat.le_of_ble_eq_true rfl) dX3_read_64 (fun H locs hP hD hS => ?_)
        have hP : va_P D vwCl [(a 8, .inr (3, [.ref (a 15), .int (nI v_)])), (a 15, .inl (cI, 8, .inl f15_4))] H := hP
        have hD : va_D A [(a 8, .inr (3, [.ref (a 15), .int (nI v_)])), (a 15, .inl (cI, 8, .inl f15_4))] := hD
        refine lv_iload_n hx hb dX3_read_67 rfl (lv_at hl 0 rfl) ?_
        refine lv_if_ne (tgt := 75) hx hb dX3_read_68 (by decide) (fun c_6 => ?_) (fun c_6 => ?_)
        · refine lv_iconst (v := 0) hx hb dX3_read_75 (by decide) ?_
          have hP9 := hP.sub (ws' := [(a 8, .inr (3, [.ref (a 15), .int (nI v_)])), (a 15, .inl (cI, 8, .inl f15_4))]) [0, 1] rfl
          have hD9 := hD.sub (ws' := [(a 8, .inr (3, [.ref (a 15), .int (nI v_)])), (a 15, .inl (cI, 8, .inl f15_4))]) [0, 1] (by decide) rfl
          exact W.zret (v := 0) hx hb hr rfl (fun t ht hW => ⟨⟨0, (nI v_, f15_4), rfl, ⟨⟨_, hv_, rfl⟩, Or.inr ⟨rfl, (rh_no4 hv_ e_4_0 c_6)⟩⟩, ⟨by rw [ht]; exact hP9, hD9⟩⟩, hS.F ht⟩) hS.2.2 dX3_read_76
        refine lv_iconst (v := 1) hx hb dX3_read_71 (by decide) ?_
        refine lv_goto (tgt := 76) hx hb dX3_read_72 (by decide) ?_
        have hP9 := hP.sub (ws' := [(a 8, .inr (3, [.ref (a 15), .int (nI v_)])), (a 15, .inl (cI, 8, .inl f15_4))]) [0, 1] rfl
        have hD9 := hD.sub (ws' := [(a 8, .inr (3, [.ref (a 15), .int (nI v_)])), (a 15, .inl (cI, 8, .inl f15_4))]) [0, 1] (by decide) rfl
        exact W.zret (v := 1) hx hb hr rfl (fun t ht hW => ⟨⟨1, (nI v_, f15_4), rfl, ⟨⟨_, hv_, rfl⟩, Or.inl ⟨rfl, ⟨v_, hv1_, hv_, rfl, rd_ev (by omega) c_3, fun k q => (e_4_1 k q).1, e_4_0.symm.trans c_6⟩, rfl, v_, rfl, fun k q => (e_4_1 k q).2⟩⟩, ⟨by rw [ht]; exact hP9, hD9⟩⟩, hS.F ht⟩) hS.2.2 dX3_read_76
      refine lv_iconst (v := 0) hx hb dX3_read_40 (by decide) ?_
      have hP9 := hP.sub (ws' := [(a 8, .inr (3, [.ref (a 15), .int (iv 19)])), (a 15, .inl (cI, 8, .inl f15_5))]) [0, 1] rfl
      have hD9 := hD.sub (ws' := [(a 8, .inr (3, [.ref (a 15), .int (iv 19)])), (a 15, .inl (cI, 8, .inl f15_5))]) [0, 1] (by decide) rfl
      exact W.zret (v := 0) hx hb hr rfl (fun t ht hW => ⟨⟨0, (iv 19, f15_5), rfl, ⟨⟨_, hb9, e19⟩, Or.inr ⟨rfl, (rh_no3 hv_ e_5_0)⟩⟩, ⟨by rw [ht]; exact hP9, hD9⟩⟩, hS.F ht⟩) hS.2.2 dX3_read_41
    refine lv_iconst (v := 0) hx hb dX3_read_16 (by decide) ?_
    have hP9 := hP.sub (ws' := [(a 8, .inr (3, [.ref (a 15), .int (iv 19)])), (a 15, .inl (cI, 8, .inl (av 15)))]) [0, 1] rfl
    have hD9 := hD.sub (ws' := [(a 8, .inr (3, [.ref (a 15), .int (iv 19)])), (a 15, .inl (cI, 8, .inl (av 15)))]) [0, 1] (by decide) rfl
    exact W.zret (v := 0) hx hb hr rfl (fun t ht hW => ⟨⟨0, (iv 19, av 15), rfl, ⟨⟨_, hb9, e19⟩, Or.inr ⟨rfl, (rh_no2 c_3)⟩⟩, ⟨by rw [ht]; exact hP9, hD9⟩⟩, hS.F ht⟩) hS.2.2 dX3_read_17
  refine lv_if_eq (tgt := 16) hx hb dX3_read_7 (by decide) (fun _ => ?_) (fun c_7 => False.elim (by revert c_7; decide))
  refine lv_iconst (v := 0) hx hb dX3_read_16 (by decide) ?_
  have hP9 := hP.sub (ws' := [(a 8, .inr (3, [.ref (a 15), .int (iv 19)])), (a 15, .inl (cI, 8, .inl (av 15)))]) [0, 1] rfl
  have hD9 := hD.sub (ws' := [(a 8, .inr (3, [.ref (a 15), .int (iv 19)])), (a 15, .inl (cI, 8, .inl (av 15)))]) [0, 1] (by decide) rfl
  exact W.zret (v := 0) hx hb hr rfl (fun t ht hW => ⟨⟨0, (iv 19, av 15), rfl, ⟨⟨_, hb9, e19⟩, Or.inr ⟨rfl, (rh_no1 h_1)⟩⟩, ⟨by rw [ht]; exact hP9, hD9⟩⟩, hS.F ht⟩) hS.2.2 dX3_read_17
