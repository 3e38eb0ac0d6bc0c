def opC (f g h : Nat → Int32) (x y : Int32) (w : Nat) : Prop := f w = x ∧ g w = y ∧ h w = -1
def opM (f g h : Nat → Int32) (x y : Int32) (w : Nat) : Prop := f w = x ∧ g w = y ∧ h w < 0
/-- how many below k have P -/
noncomputable def cntP (P : Nat → Prop) : Nat → Nat
  | 0 => 0
  | k + 1 => cntP P k + @ite Nat (P k) (Classical.propDecidable (P k)) 1 0
theorem cntP_t {P : Nat → Prop} {k : Nat} (h : P k) : cntP P (k + 1) = cntP P k + 1 := by
  show cntP P k + @ite Nat (P k) (Classical.propDecidable (P k)) 1 0 = _
  rw [if_pos h]
theorem cntP_f {P : Nat → Prop} {k : Nat} (h : ¬ P k) : cntP P (k + 1) = cntP P k := by
  show cntP P k + @ite Nat (P k) (Classical.propDecidable (P k)) 1 0 = _
  rw [if_neg h]; rfl
/-- the answer r is the number of the one with P of which x others with P stand ahead, of the first k; -1 where there is none -/
def numP (P : Nat → Prop) (k : Nat) (x r : Int32) : Prop := (∃ w, w < k ∧ P w ∧ nI (cntP P w) = x ∧ r = nI w) ∨ (r = -1 ∧ ∀ w, w < k → P w → ¬ nI (cntP P w) = x)
set_option maxHeartbeats 4000000 in
set_option maxRecDepth 100000 in
/-- X7_isOpen: the loop at 2 -/
theorem lp_X7_isOpen {p : Program} {l : Launch} {e : Env} {s : State} {m : MethodId} {args : Array Value} {below : List Frame} {meth : Method} {c : Code} {Q : State → Prop} {D : va_G} {cI cJ cZ cM : Nat} {a : Nat → Nat} {iv : Nat → Int32} {av : Nat → Nat → Int32} {wc : Nat} {x1 : Int32} {x2 : Int32} {H : Heap} (hx : p.tables.exec = Jvm.exec) (hb : c.code = cX7_isOpen) (hml : c.maxLocals = 4) (hts : ∀ w ∈ wsX7_isOpen, w.before args s = true) (hown : s.vm.findClass RX7 = some m.cls) (hG : GK D cI cJ cZ cM s) (hP : va_P D vwCl [(a 4, .inr (7, [.ref (a 9), .ref (a 10), .ref (a 11), .ref (a 12), .int (iv 4)])), (a 9, .inl (cI, 100, .inl (av 9))), (a 10, .inl (cI, 100, .inl (av 10))), (a 11, .inl (cI, 100, .inl (av 11))), (a 12, .inl (cI, 100, .inl (av 12)))] H) (h_w : iv 4 = nI wc) (hwc : wc ≤ 100) :
    ∀ (k9 : Nat) (i : Nat), (∀ w, w < i → ¬ opC (av 9) (av 10) (av 12) x1 x2 w) → (i ≤ wc) → wc - i < k9 → ∀ (ls : Array Slot), lv_has ls 4 [(3, .int (nI i)), (0, .ref (a 4)), (1, .int x1), (2, .int x2)] → (∀  (ls : Array Slot), (∀ w, w < wc → ¬ opC (av 9) (av 10) (av 12) x1 x2 w) → lv_has ls 4 [(0, .ref (a 4)), (1, .int x1), (2, .int x2)] → W p l e (headSpec wsX7_isOpen ({ frames := 0, cells := 0, slots := 0, locals := 0 } : Room)).room s m args below meth c H [] 0 0 Q (F0 m 48 ls [])) → (∀  (ls : Array Slot), (∃ w, w < wc ∧ opC (av 9) (av 10) (av 12) x1 x2 w) → lv_has ls 4 [(0, .ref (a 4)), (1, .int x1), (2, .int x2)] → W p l e (headSpec wsX7_isOpen ({ frames := 0, cells := 0, slots := 0, locals := 0 } : Room)).room s m args below meth c H [] 0 0 Q (F0 m 41 ls [.int 1])) → W p l e (headSpec wsX7_isOpen ({ frames := 0, cells := 0, slots := 0, locals := 0 } : Room)).room s m args below meth c H [] 0 0 Q (F0 m 2 ls []) := by
  have hK := hG.1
  have hN := hG.2
  intro k9
  induction k9 with
  | zero => intro i hno hi hfu; exact absurd hfu (Nat.not_lt_zero _)
  | succ k9 ih =>
    intro i hno hi hfu ls hl kk0 kk1
    rcases Nat.lt_or_ge i wc with hlt | hge
    · refine lv_iload_n hx hb dX7_isOpen_2 rfl (lv_at hl 0 rfl) ?_
      refine lv_aload_n hx hb dX7_isOpen_3 rfl (lv_at hl 1 rfl) ?_
      refine va_get (D := D) (ci := 7) (v := .int (iv 4)) (C := RX7) (T := TX7) (N := 5) hx hb hts (fun _ h9 => List.mem_cons_of_mem _ (List.mem_append_right _ h9)) hown hK hP 0 rfl rfl 4 (by decide) (hts (.fieldLink RX7 24 "BuoyTender$Warnings" "count" "I") (by decide +kernel)) (fun _ h9 => h9) rfl dX7_isOpen_4 ?_
      refine lv_topi (fun z_1 ez_1 => ?_)
      obtain rfl : z_1 = nI wc := ez_1.trans h_w
      refine lv_icmp_ge (tgt := 48) hx hb dX7_isOpen_7 (by decide) (fun c_2 => absurd c_2 (nI_ge hlt (by omega))) (fun c_2 => ?_)
      refine lv_aload_n hx hb dX7_isOpen_10 rfl (lv_at hl 1 rfl) ?_
      refine va_get (D := D) (ci := 7) (v := .ref (a 9)) (C := RX7) (T := TX7) (N := 5) hx hb hts (fun _ h9 => List.mem_cons_of_mem _ (List.mem_append_right _ h9)) hown hK hP 0 rfl rfl 0 (by decide) (hts (.fieldLink RX7 9 "BuoyTender$Warnings" "markOf" "[I") (by decide +kernel)) (fun _ h9 => h9) rfl dX7_isOpen_11 ?_
      refine lv_iload_n hx hb dX7_isOpen_14 rfl (lv_at hl 0 rfl) ?_
      refine va_iald hx hb hK hP 1 0 rfl rfl (vp_in_nI (by omega) (by decide)) dX7_isOpen_15 ?_
      refine lv_topi (fun z_3 ez_3 => ?_)
      obtain rfl : z_3 = (av 9) i := ez_3.trans (congrArg (av 9) (nI_clamp (by omega)))
      refine lv_iload_n hx hb dX7_isOpen_16 rfl (lv_at hl 2 rfl) ?_
      refine lv_icmp_ne (tgt := 42) hx hb dX7_isOpen_17 (by decide) (fun c_4 => ?_) (fun c_4 => ?_)
      · refine lv_iinc (v := nI (i + 1)) (lv' := [(3, .int (nI (i + 1))), (0, .ref (a 4)), (1, .int x1), (2, .int x2)]) hx hb dX7_isOpen_42 hl (k := 0) rfl (nI_add i 1) (by decide) rfl (fun ls hl => ?_)
        refine lv_goto (tgt := 2) hx hb dX7_isOpen_45 (by decide) ?_
        exact ih (i + 1) (lt_s hno (fun q => c_4 q.1)) (by omega) (by omega) _ (lv_sub hl [0, 1, 2, 3] rfl) kk0 kk1
      refine lv_aload_n hx hb dX7_isOpen_20 rfl (lv_at hl 1 rfl) ?_
      refine va_get (D := D) (ci := 7) (v := .ref (a 10)) (C := RX7) (T := TX7) (N := 5) hx hb hts (fun _ h9 => List.mem_cons_of_mem _ (List.mem_append_right _ h9)) hown hK hP 0 rfl rfl 1 (by decide) (hts (.fieldLink RX7 15 "BuoyTender$Warnings" "reasonOf" "[I") (by decide +kernel)) (fun _ h9 => h9) rfl dX7_isOpen_21 ?_
      refine lv_iload_n hx hb dX7_isOpen_24 rfl (lv_at hl 0 rfl) ?_
      refine va_iald hx hb hK hP 2 0 rfl rfl (vp_in_nI (by omega) (by decide)) dX7_isOpen_25 ?_
      refine lv_topi (fun z_5 ez_5 => ?_)
      obtain rfl : z_5 = (av 10) i := ez_5.trans (congrArg (av 10) (nI_clamp (by omega)))
      refine lv_iload_n hx hb dX7_isOpen_26 rfl (lv_at hl 3 rfl) ?_
      refine lv_icmp_ne (tgt := 42) hx hb dX7_isOpen_27 (by decide) (fun c_6 => ?_) (fun c_6 => ?_)
      · refine lv_iinc (v := nI (i + 1)) (lv' := [(3, .int (nI (i + 1))), (0, .ref (a 4)), (1, .int x1), (2, .int x2)]) hx hb dX7_isOpen_42 hl (k := 0) rfl (nI_add i 1) (by decide) rfl (fun ls hl => ?_)
        refine lv_goto (tgt := 2) hx hb dX7_isOpen_45 (by decide) ?_
        exact ih (i + 1) (lt_s hno (fun q => c_6 q.2.1)) (by omega) (by omega) _ (lv_sub hl [0, 1, 2, 3] rfl) kk0 kk1
      refine lv_aload_n hx hb dX7_isOpen_30 rfl (lv_at hl 1 rfl) ?_
      refine va_get (D := D) (ci := 7) (v := .ref (a 12)) (C := RX7) (T := TX7) (N := 5) hx hb hts (fun _ h9 => List.mem_cons_of_mem _ (List.mem_append_right _ h9)) hown hK hP 0 rfl rfl 3 (by decide) (hts (.fieldLink RX7 21 "BuoyTender$Warnings" "cancelledOn" "[I") (by decide +kernel)) (fun _ h9 => h9) rfl dX7_isOpen_31 ?_
      refine lv_iload_n hx hb dX7_isOpen_34 rfl (lv_at hl 0 rfl) ?_
      refine va_iald hx hb hK hP 4 0 rfl rfl (vp_in_nI (by omega) (by decide)) dX7_isOpen_35 ?_
      refine lv_topi (fun z_7 ez_7 => ?_)
      obtain rfl : z_7 = (av 12) i := ez_7.trans (congrArg (av 12) (nI_clamp (by omega)))
      refine lv_iconst (v := (-1)) hx hb dX7_isOpen_36 (by decide) ?_
      refine lv_icmp_ne (tgt := 42) hx hb dX7_isOpen_37 (by decide) (fun c_8 => ?_) (fun c_8 => ?_)
      · refine lv_iinc (v := nI (i + 1)) (lv' := [(3, .int (nI (i + 1))), (0, .ref (a 4)), (1, .int x1), (2, .int x2)]) hx hb dX7_isOpen_42 hl (k := 0) rfl (nI_add i 1) (by decide) rfl (fun ls hl => ?_)
        refine lv_goto (tgt := 2) hx hb dX7_isOpen_45 (by decide) ?_
        exact ih (i + 1) (lt_s hno (fun q => c_8 q.2.2)) (by omega) (by omega) _ (lv_sub hl [0, 1, 2, 3] rfl) kk0 kk1
      refine lv_iconst (v := 1) hx hb dX7_isOpen_40 (by decide) ?_
      exact kk1  _ ⟨i, hlt, c_4, c_6, c_8⟩ (lv_sub hl [1, 2, 3] rfl)
    · refine lv_iload_n hx hb dX7_isOpen_2 rfl (lv_at hl 0 rfl) ?_
      refine lv_aload_n hx hb dX7_isOpen_3 rfl (lv_at hl 1 rfl) ?_
      refine va_get (D := D) (ci := 7) (v := .int (iv 4)) (C := RX7) (T := TX7) (N := 5) hx hb hts (fun _ h9 => List.mem_cons_of_mem _ (List.mem_append_right _ h9)) hown hK hP 0 rfl rfl 4 (by decide) (hts (.fieldLink RX7 24 "BuoyTender$Warnings" "count" "I") (by decide +kernel)) (fun _ h9 => h9) rfl dX7_isOpen_4 ?_
      refine lv_topi (fun z_9 ez_9 => ?_)
      obtain rfl : z_9 = nI wc := ez_9.trans h_w
      refine lv_icmp_ge (tgt := 48) hx hb dX7_isOpen_7 (by decide) (fun c_10 => ?_) (fun c_10 => absurd (nI_le hge (by omega)) c_10)
      exact kk0  _ (fun w hw => hno w (by omega)) (lv_sub hl [1, 2, 3] rfl)
set_option maxHeartbeats 4000000 in
set_option maxRecDepth 100000 in
/-- is one open -/
theorem k_X7_isOpen (l : Launch) (D : va_G) (cI cJ cZ cM : Nat) (a : Nat → Nat) (iv : Nat → Int32) (av : Nat → Nat → Int32) (wc : Nat) (h_w : iv 4 = nI wc) (hwc : wc ≤ 100) (x1 : Int32) (x2 : Int32) : Met l yX7_isOpen wsX7_isOpen ({ frames := 0, cells := 0, slots := 0, locals := 0 } : Room) (RO D cI cJ cZ cM [.ref (a 4), .int x1, .int x2] [(a 4, .inr (7, [.ref (a 9), .ref (a 10), .ref (a 11), .ref (a 12), .int (iv 4)])), (a 9, .inl (cI, 100, .inl (av 9))), (a 10, .inl (cI, 100, .inl (av 10))), (a 11, .inl (cI, 100, .inl (av 11))), (a 12, .inl (cI, 100, .inl (av 12)))]) (vp_Si (fun r => okI 1 0 (∃ w, w < wc ∧ opC (av 9) (av 10) (av 12) x1 x2 w) r)) 0 0 (fun _ => False) := by
  refine Met.ofW (cc := cX7_isOpen) (maxL := 4) (ret := (some .boolean)) (by decide) rfl ?_
  intro p e s m args below meth c s₁ B hml hv
  obtain ⟨rfl, hG, hP⟩ := hv
  have hx := B.exec
  have hb := B.bytes
  have hr := B.returns
  have hts := atoms_spec (ws := wsX7_isOpen) B.pre
  have hown : s.vm.findClass RX7 = some m.cls := findClass_of_methodNamed B.named
  have hlocks := B.notSynchronized
  have hK := hG.1
  have hN := hG.2
  have hl := lv_entry ([.ref (a 4), .int x1, .int x2]) (n := 4) (Nat.le_of_ble_eq_true rfl)
  rw [lg_entry_eq]
  generalize (lg_sl ([.ref (a 4), .int x1, .int x2]) ++ List.replicate (4 - (lg_sl ([.ref (a 4), .int x1, .int x2])).length) Slot.unset).toArray = ls at hl ⊢
  have hl : lv_has ls 4 [(0, .ref (a 4)), (1, .int x1), (2, .int x2)] := hl
  refine lv_iconst (v := 0) hx hb dX7_isOpen_0 (by decide) ?_
  refine lv_istore_n (lv' := [(3, .int 0), (0, .ref (a 4)), (1, .int x1), (2, .int x2)]) hx hb dX7_isOpen_1 rfl hl (by decide) rfl (fun ls hl => ?_)
  have hPl := hP.sub (ws' := [(a 4, .inr (7, [.ref (a 9), .ref (a 10), .ref (a 11), .ref (a 12), .int (iv 4)])), (a 9, .inl (cI, 100, .inl (av 9))), (a 10, .inl (cI, 100, .inl (av 10))), (a 11, .inl (cI, 100, .inl (av 11))), (a 12, .inl (cI, 100, .inl (av 12)))]) [0, 1, 2, 3, 4] rfl
  refine lp_X7_isOpen hx hb hml hts hown hG hPl h_w hwc (wc + 1) 0 lt_0 (Nat.zero_le _) (by omega) _ (lv_sub hl [0, 1, 2, 3] rfl) (fun  ls e_1_0 hl => ?_) (fun  ls e_2_0 hl => ?_)
  · refine lv_iconst (v := 0) hx hb dX7_isOpen_48 (by decide) ?_
    exact W.zret (v := 0) hx hb hr rfl (fun t ht hW => ⟨0, rfl, (Or.inr ⟨rfl, fun ⟨w, hw, q⟩ => e_1_0 w hw q⟩), ht⟩) (fun _ h => by cases h) dX7_isOpen_49
  exact W.zret (v := 1) hx hb hr rfl (fun t ht hW => ⟨1, rfl, (Or.inl ⟨rfl, e_2_0⟩), ht⟩) (fun _ h => by cases h) dX7_isOpen_41
set_option maxHeartbeats 4000000 in
set_option maxRecDepth 100000 in
/-- X7_countOn: the loop at 4 -/
theorem lp_X7_countOn {p : Program} {l : Launch} {e : Env} {s : State} {m : MethodId} {args : Array Value} {below : List Frame} {meth : Method} {c : Code} {Q : State → Prop} {D : va_G} {cI cJ cZ cM : Nat} {a : Nat → Nat} {iv : Nat → Int32} {av : Nat → Nat → Int32} {wc : Nat} {x1 : Int32} {H : Heap} (hx : p.tables.exec = Jvm.exec) (hb : c.code = cX7_countOn) (hml : c.maxLocals = 4) (hts : ∀ w ∈ wsX7_countOn, w.before args s = true) (hown : s.vm.findClass RX7 = some m.cls) (hG : GK D cI cJ cZ cM s) (hP : va_P D vwCl [(a 4, .inr (7, [.ref (a 9), .ref (a 10), .ref (a 11), .ref (a 12), .int (iv 4)])), (a 9, .inl (cI, 100, .inl (av 9))), (a 10, .inl (cI, 100, .inl (av 10))), (a 11, .inl (cI, 100, .inl (av 11))), (a 12, .inl (cI, 100, .inl (av 12)))] H) (h_w : iv 4 = nI wc) (hwc : wc ≤ 100) :
    ∀ (k9 : Nat) (i : Nat) (q : Nat), (q = cntP (outC (av 11) (av 12) x1) i) → (i ≤ wc) → wc - i < k9 → ∀ (ls : Array Slot), lv_has ls 4 [(3, .int (nI i)), (2, .int (nI q)), (0, .ref (a 4)), (1, .int x1)] → (∀ (q : Nat) (ls : Array Slot), (q = cntP (outC (av 11) (av 12) x1) wc) → lv_has ls 4 [(0, .ref (a 4)), (1, .int x1), (2, .int (nI q))] → W p l e (headSpec wsX7_countOn ({ frames := 1, cells := 0, slots := 0, locals := 22 } : Room)).room s m args below meth c H [] 0 0 Q (F0 m 30 ls [])) → W p l e (headSpec wsX7_countOn ({ frames := 1, cells := 0, slots := 0, locals := 22 } : Room)).room s m args below meth c H [] 0 0 Q (F0 m 4 ls []) := by
  have hK := hG.1
  have hN := hG.2
  intro k9
  induction k9 with
  | zero => intro i q hq hi hfu; exact absurd hfu (Nat.not_lt_zero _)
  | succ k9 ih =>
    intro i q hq hi hfu ls hl kk0
    rcases Nat.lt_or_ge i wc with hlt | hge
    · refine lv_iload_n hx hb dX7_countOn_4 rfl (lv_at hl 0 rfl) ?_
      refine lv_aload_n hx hb dX7_countOn_5 rfl (lv_at hl 2 rfl) ?_
      refine va_get (D := D) (ci := 7) (v := .int (iv 4)) (C := RX7) (T := TX7) (N := 5) hx hb hts (fun _ h9 => List.mem_cons_of_mem _ (List.mem_append_right _ h9)) hown hK hP 0 rfl rfl 4 (by decide) (hts (.fieldLink RX7 24 "BuoyTender$Warnings" "count" "I") (by decide +kernel)) (fun _ h9 => h9) rfl dX7_countOn_6 ?_
      refine lv_topi (fun z_1 ez_1 => ?_)
      obtain rfl : z_1 = nI wc := ez_1.trans h_w
      refine lv_icmp_ge (tgt := 30) hx hb dX7_countOn_9 (by decide) (fun c_2 => absurd c_2 (nI_ge hlt (by omega))) (fun c_2 => ?_)
      refine lv_aload_n hx hb dX7_countOn_12 rfl (lv_at hl 2 rfl) ?_
      refine lv_iload_n hx hb dX7_countOn_13 rfl (lv_at hl 0 rfl) ?_
      refine lv_iload_n hx hb dX7_countOn_14 rfl (lv_at hl 3 rfl) ?_
      have hPc := hP.sub (ws' := [(a 4, .inr (7, [.ref (a 9), .ref (a 10), .ref (a 11), .ref (a 12), .int (iv 4)])), (a 9, .inl (cI, 100, .inl (av 9))), (a 10, .inl (cI, 100, .inl (av 10))), (a 11, .inl (cI, 100, .inl (av 11))), (a 12, .inl (cI, 100, .inl (av 12)))]) [0, 1, 2, 3, 4] rfl
      refine vp_callSi (va_Run.run (va_runV (As := [.int (nI i), .int x1]) (rest := []) ⟨hx, hb, hml, hown, hts⟩ (k_X7_isOutOn l D cI cJ cZ cM a iv av i (by omega) x1) (cwV 2 hts gX7_countOn_X7_isOutOn rfl rfl rfl (by decide +kernel) ⟨Nat.le_of_ble_eq_true rfl, Nat.le_of_ble_eq_true rfl⟩) (ro_V hG hPc (va_recv hK hPc (ci := 7) (q0 := 0) rfl rfl)) rfl rfl hl.1 rfl (lv_room (Nat.le_of_ble_eq_true rfl)) dX7_countOn_15 ⟨Nat.le_of_ble_eq_true rfl, Nat.le_of_ble_eq_true rfl⟩)) (fun r_3 h_3 => ?_)
      rcases h_3 with ⟨rfl, h_3⟩ | ⟨rfl, h_3⟩
      · refine lv_if_eq (tgt := 24) hx hb dX7_countOn_18 (by decide) (fun c_4 => False.elim (by revert c_4; decide)) (fun _ => ?_)
        refine lv_iinc (v := nI (q + 1)) (lv' := [(2, .int (nI (q + 1))), (3, .int (nI i)), (0, .ref (a 4)), (1, .int x1)]) hx hb dX7_countOn_21 hl (k := 1) rfl (nI_add q 1) (by decide) rfl (fun ls hl => ?_)
        refine lv_iinc (v := nI (i + 1)) (lv' := [(3, .int (nI (i + 1))), (2, .int (nI (q + 1))), (0, .ref (a 4)), (1, .int x1)]) hx hb dX7_countOn_24 hl (k := 1) rfl (nI_add i 1) (by decide) rfl (fun ls hl => ?_)
        refine lv_goto (tgt := 4) hx hb dX7_countOn_27 (by decide) ?_
        exact ih (i + 1) (q + 1) (by rw [cntP_t h_3]; omega) (by omega) (by omega) _ (lv_sub hl [0, 1, 2, 3] rfl) kk0
      refine lv_if_eq (tgt := 24) hx hb dX7_countOn_18 (by decide) (fun _ => ?_) (fun c_5 => False.elim (by revert c_5; decide))
      refine lv_iinc (v := nI (i + 1)) (lv' := [(3, .int (nI (i + 1))), (2, .int (nI q)), (0, .ref (a 4)), (1, .int x1)]) hx hb dX7_countOn_24 hl (k := 0) rfl (nI_add i 1) (by decide) rfl (fun ls hl => ?_)
      refine lv_goto (tgt := 4) hx hb dX7_countOn_27 (by decide) ?_
      exact ih (i + 1) q (by rw [cntP_f h_3]; omega) (by omega) (by omega) _ (lv_sub hl [0, 1, 2, 3] rfl) kk0
    · refine lv_iload_n hx hb dX7_countOn_4 rfl (lv_at hl 0 rfl) ?_
      refine lv_aload_n hx hb dX7_countOn_5 rfl (lv_at hl 2 rfl) ?_
      refine va_get (D := D) (ci := 7) (v := .int (iv 4)) (C := RX7) (T := TX7) (N := 5) hx hb hts (fun _ h9 => List.mem_cons_of_mem _ (List.mem_append_right _ h9)) hown hK hP 0 rfl rfl 4 (by decide) (hts (.fieldLink RX7 24 "BuoyTender$Warnings" "count" "I") (by decide +kernel)) (fun _ h9 => h9) rfl dX7_countOn_6 ?_
      refine lv_topi (fun z_6 ez_6 => ?_)
      obtain rfl : z_6 = nI wc := ez_6.trans h_w
      refine lv_icmp_ge (tgt := 30) hx hb dX7_countOn_9 (by decide) (fun c_7 => ?_) (fun c_7 => absurd (nI_le hge (by omega)) c_7)
      exact kk0 q _ (show q = cntP (outC (av 11) (av 12) x1) wc by rw [hq, show i = wc by omega]) (lv_sub hl [2, 3, 1] rfl)
set_option maxHeartbeats 4000000 in
set_option maxRecDepth 100000 in
/-- how many are out -/
theorem k_X7_countOn (l : Launch) (D : va_G) (cI cJ cZ cM : Nat) (a : Nat → Nat) (iv : Nat → Int32) (av : Nat → Nat → Int32) (wc : Nat) (h_w : iv 4 = nI wc) (hwc : wc ≤ 100) (x1 : Int32) : Met l yX7_countOn wsX7_countOn ({ frames := 1, cells := 0, slots := 0, locals := 22 } : Room) (RO D cI cJ cZ cM [.ref (a 4), .int x1] [(a 4, .inr (7, [.ref (a 9), .ref (a 10), .ref (a 11), .ref (a 12), .int (iv 4)])), (a 9, .inl (cI, 100, .inl (av 9))), (a 10, .inl (cI, 100, .inl (av 10))), (a 11, .inl (cI, 100, .inl (av 11))), (a 12, .inl (cI, 100, .inl (av 12)))]) (vp_Si (fun r => r = nI (cntP (outC (av 11) (av 12) x1) wc))) 0 0 (fun _ => False) := by
  refine Met.ofW (cc := cX7_countOn) (maxL := 4) (ret := (some .int)) (by decide) rfl ?_
  intro p e s m args below meth c s₁ B hml hv
  obtain ⟨rfl, hG, hP⟩ := hv
  have hx := B.exec
  have hb := B.bytes
  have hr := B.returns
  have hts := atoms_spec (ws := wsX7_countOn) B.pre
  have hown : s.vm.findClass RX7 = some m.cls := findClass_of_methodNamed B.named
  have hlocks := B.notSynchronized
  have hK := hG.1
  have hN := hG.2
  have hl := lv_entry ([.ref (a 4), .int x1]) (n := 4) (Nat.le_of_ble_eq_true rfl)
  rw [lg_entry_eq]
  generalize (lg_sl ([.ref (a 4), .int x1]) ++ List.replicate (4 - (lg_sl ([.ref (a 4), .int x1])).length) Slot.unset).toArray = ls at hl ⊢
  have hl : lv_has ls 4 [(0, .ref (a 4)), (1, .int x1)] := hl
  refine lv_iconst (v := 0) hx hb dX7_countOn_0 (by decide) ?_
  refine lv_istore_n (lv' := [(2, .int 0), (0, .ref (a 4)), (1, .int x1)]) hx hb dX7_countOn_1 rfl hl (by decide) rfl (fun ls hl => ?_)
  refine lv_iconst (v := 0) hx hb dX7_countOn_2 (by decide) ?_
  refine lv_istore_n (lv' := [(3, .int 0), (2, .int 0), (0, .ref (a 4)), (1, .int x1)]) hx hb dX7_countOn_3 rfl hl (by decide) rfl (fun ls hl => ?_)
  have hPl := hP.sub (ws' := [(a 4, .inr (7, [.ref (a 9), .ref (a 10), .ref (a 11), .ref (a 12), .int (iv 4)])), (a 9, .inl (cI, 100, .inl (av 9))), (a 10, .inl (cI, 100, .inl (av 10))), (a 11, .inl (cI, 100, .inl (av 11))), (a 12, .inl (cI, 100, .inl (av 12)))]) [0, 1, 2, 3, 4] rfl
  refine lp_X7_countOn hx hb hml hts hown hG hPl h_w hwc (wc + 1) 0 0 rfl (Nat.zero_le _) (by omega) _ (lv_sub hl [0, 1, 2, 3] rfl) (fun q_1 ls e_1_0 hl => ?_)
  refine lv_iload_n hx hb dX7_countOn_30 rfl (lv_at hl 2 rfl) ?_
  exact W.iret (v := (nI q_1)) hx hb hr (fun t ht hW => ⟨(nI q_1), rfl, (congrArg nI e_1_0), ht⟩) (fun _ h => by cases h) dX7_countOn_31
set_option maxHeartbeats 4000000 in
set_option maxRecDepth 100000 in
/-- X9_list: the loop at 18 -/
theorem lp_X9_list {p : Program} {l : Launch} {e : Env} {s : State} {m : MethodId} {args : Array Value} {below : List Frame} {meth : Method} {c : Code} {Q : State → Prop} {D : va_G} {cI cJ cZ cM : Nat} {h0 : Nat} {n : Nat → Nat} {mi : Nat → Int32} {mq : Nat → Int32} {mav : Nat → Nat → Int32} {wc : Nat} {x1 : Int32} {H : Heap} (hx : p.tables.exec = Jvm.exec) (hb : c.code = cX9_list) (hml : c.maxLocals = 4) (hts : ∀ w ∈ wsX9_list, w.before args s = true) (hown : s.vm.findClass RX9 = some m.cls) (hG : GK D cI cJ cZ cM s) (hP : va_P D vwCl [(h0, .inr (9, [.ref (n 0), .int (mi 1), .ref (n 2), .ref (n 3), .ref (n 4), .ref (n 5), .ref (n 6), .int (mi 7), .ref (n 8), .ref (n 9), .ref (n 10), .ref (n 11), .ref (n 12), .ref (n 13), .ref (n 14), .int (mi 15), .int (mi 16), .ref (n 17), .ref (n 18), .ref (n 19), .ref (n 20), .ref (n 21), .ref (n 22), .ref (n 23), .ref (n 24), .ref (n 25), .int (mi 26), .int (mi 27), .int (mi 28), .int (mi 29), .int (mi 30), .int (mi 31), .int (mi 32), .int (mi 33), .ref (n 34), .ref (n 35), .int (mq 36), .int (mq 37), .int (mq 38), .ref (n 39), .ref (n 40), .ref (n 41), .ref (n 42), .int (mq 43), .int (mq 44), .int (mq 45)])), (n 19, .inl (cI, 100, .inl (mav 19))), (n 20, .inl (cI, 100, .inl (mav 20)))] H) (h_w : mi 16 = nI wc) (hwc : wc ≤ 100) :
    ∀ (k9 : Nat) (i : Nat) (q : Nat), (q = cntP (outM (mav 19) (mav 20) x1) i) → (i ≤ wc) → wc - i < k9 → ∀ (ls : Array Slot), lv_has ls 4 [(3, .int (nI i)), (2, .int (nI q)), (0, .ref h0), (1, .int x1)] → (∀ (q : Nat) (ls : Array Slot), (q = cntP (outM (mav 19) (mav 20) x1) wc) → lv_has ls 4 [(0, .ref h0), (1, .int x1), (2, .int (nI q))] → W p l e (headSpec wsX9_list ({ frames := 1, cells := 0, slots := 0, locals := 22 } : Room)).room s m args below meth c H [] 0 0 Q (F0 m 49 ls [])) → W p l e (headSpec wsX9_list ({ frames := 1, cells := 0, slots := 0, locals := 22 } : Room)).room s m args below meth c H [] 0 0 Q (F0 m 18 ls []) := by
  have hK := hG.1
  have hN := hG.2
  intro k9
  induction k9 with
  | zero => intro i q hq hi hfu; exact absurd hfu (Nat.not_lt_zero _)
  | succ k9 ih =>
    intro i q hq hi hfu ls hl kk0
    rcases Nat.lt_or_ge i wc with hlt | hge
    · refine lv_iload_n hx hb dX9_list_18 rfl (lv_at hl 0 rfl) ?_
      refine lv_aload_n hx hb dX9_list_19 rfl (lv_at hl 2 rfl) ?_
      refine va_get (D := D) (ci := 9) (v := .int (mi 16)) (C := RX9) (T := TX9) (N := 46) hx hb hts (fun _ h9 => List.mem_cons_of_mem _ (List.mem_append_right _ h9)) hown hK hP 0 rfl rfl 16 (by decide) (hts (.fieldLink RX9 146 "BuoyTenderModel" "warnings" "I") (by decide +kernel)) (fun _ h9 => h9) rfl dX9_list_20 ?_
      refine lv_topi (fun z_1 ez_1 => ?_)
      obtain rfl : z_1 = nI wc := ez_1.trans h_w
      refine lv_icmp_ge (tgt := 49) hx hb dX9_list_23 (by decide) (fun c_2 => absurd c_2 (nI_ge hlt (by omega))) (fun c_2 => ?_)
      refine lv_iload_n hx hb dX9_list_26 rfl (lv_at hl 1 rfl) ?_
      refine lv_aload_n hx hb dX9_list_27 rfl (lv_at hl 2 rfl) ?_
      refine lv_iload_n hx hb dX9_list_28 rfl (lv_at hl 0 rfl) ?_
      refine lv_iload_n hx hb dX9_list_29 rfl (lv_at hl 3 rfl) ?_
      have hPc := hP.sub (ws' := [(h0, .inr (9, [.ref (n 0), .int (mi 1), .ref (n 2), .ref (n 3), .ref (n 4), .ref (n 5), .ref (n 6), .int (mi 7), .ref (n 8), .ref (n 9), .ref (n 10), .ref (n 11), .ref (n 12), .ref (n 13), .ref (n 14), .int (mi 15), .int (mi 16), .ref (n 17), .ref (n 18), .ref (n 19), .ref (n 20), .ref (n 21), .ref (n 22), .ref (n 23), .ref (n 24), .ref (n 25), .int (mi 26), .int (mi 27), .int (mi 28), .int (mi 29), .int (mi 30), .int (mi 31), .int (mi 32), .int (mi 33), .ref (n 34), .ref (n 35), .int (mq 36), .int (mq 37), .int (mq 38), .ref (n 39), .ref (n 40), .ref (n 41), .ref (n 42), .int (mq 43), .int (mq 44), .int (mq 45)])), (n 19, .inl (cI, 100, .inl (mav 19))), (n 20, .inl (cI, 100, .inl (mav 20)))]) [0, 1, 2] rfl
      refine vp_callSi (va_Run.run (va_runV (As := [.int (nI i), .int x1]) (rest := [.int (nI q)]) ⟨hx, hb, hml, hown, hts⟩ (k_X9_isForce l D cI cJ cZ cM h0 n mi mq mav i (by omega) x1) (cwV 2 hts gX9_list_X9_isForce rfl rfl rfl (by decide +kernel) ⟨Nat.le_of_ble_eq_true rfl, Nat.le_of_ble_eq_true rfl⟩) (ro_V hG hPc (va_recv hK hPc (ci := 9) (q0 := 0) rfl rfl)) rfl rfl hl.1 rfl (lv_room (Nat.le_of_ble_eq_true rfl)) dX9_list_30 ⟨Nat.le_of_ble_eq_true rfl, Nat.le_of_ble_eq_true rfl⟩)) (fun r_3 h_3 => ?_)
      rcases h_3 with ⟨rfl, h_3⟩ | ⟨rfl, h_3⟩
      · refine lv_if_eq (tgt := 40) hx hb dX9_list_33 (by decide) (fun c_4 => False.elim (by revert c_4; decide)) (fun _ => ?_)
        refine lv_iconst (v := 1) hx hb dX9_list_36 (by decide) ?_
        refine lv_goto (tgt := 41) hx hb dX9_list_37 (by decide) ?_
        refine lv_iadd hx hb dX9_list_41 ?_
        refine lv_topi (fun z_5 ez_5 => ?_)
        obtain rfl : z_5 = nI (q + 1) := ez_5.trans (nI_add q 1)
        refine lv_istore_n (lv' := [(2, .int (nI (q + 1))), (3, .int (nI i)), (0, .ref h0), (1, .int x1)]) hx hb dX9_list_42 rfl hl (by decide) rfl (fun ls hl => ?_)
        refine lv_iinc (v := nI (i + 1)) (lv' := [(3, .int (nI (i + 1))), (2, .int (nI (q + 1))), (0, .ref h0), (1, .int x1)]) hx hb dX9_list_43 hl (k := 1) rfl (nI_add i 1) (by decide) rfl (fun ls hl => ?_)
        refine lv_goto (tgt := 18) hx hb dX9_list_46 (by decide) ?_
        exact ih (i + 1) (q + 1) (by rw [cntP_t h_3]; omega) (by omega) (by omega) _ (lv_sub hl [0, 1, 2, 3] rfl) kk0
      refine lv_if_eq (tgt := 40) hx hb dX9_list_33 (by decide) (fun _ => ?_) (fun c_6 => False.elim (by revert c_6; decide))
      refine lv_iconst (v := 0) hx hb dX9_list_40 (by decide) ?_
      refine lv_iadd hx hb dX9_list_41 ?_
      refine lv_topi (fun z_7 ez_7 => ?_)
      obtain rfl : z_7 = nI (q + 0) := ez_7.trans (nI_add q 0)
      refine lv_istore_n (lv' := [(2, .int (nI (q + 0))), (3, .int (nI i)), (0, .ref h0), (1, .int x1)]) hx hb dX9_list_42 rfl hl (by decide) rfl (fun ls hl => ?_)
      refine lv_iinc (v := nI (i + 1)) (lv' := [(3, .int (nI (i + 1))), (2, .int (nI (q + 0))), (0, .ref h0), (1, .int x1)]) hx hb dX9_list_43 hl (k := 1) rfl (nI_add i 1) (by decide) rfl (fun ls hl => ?_)
      refine lv_goto (tgt := 18) hx hb dX9_list_46 (by decide) ?_
      exact ih (i + 1) (q + 0) (by rw [cntP_f h_3]; omega) (by omega) (by omega) _ (lv_sub hl [0, 1, 2, 3] rfl) kk0
    · refine lv_iload_n hx hb dX9_list_18 rfl (lv_at hl 0 rfl) ?_
      refine lv_aload_n hx hb dX9_list_19 rfl (lv_at hl 2 rfl) ?_
      refine va_get (D := D) (ci := 9) (v := .int (mi 16)) (C := RX9) (T := TX9) (N := 46) hx hb hts (fun _ h9 => List.mem_cons_of_mem _ (List.mem_append_right _ h9)) hown hK hP 0 rfl rfl 16 (by decide) (hts (.fieldLink RX9 146 "BuoyTenderModel" "warnings" "I") (by decide +kernel)) (fun _ h9 => h9) rfl dX9_list_20 ?_
      refine lv_topi (fun z_8 ez_8 => ?_)
      obtain rfl : z_8 = nI wc := ez_8.trans h_w
      refine lv_icmp_ge (tgt := 49) hx hb dX9_list_23 (by decide) (fun c_9 => ?_) (fun c_9 => absurd (nI_le hge (by omega)) c_9)
      exact kk0 q _ (show q = cntP (outM (mav 19) (mav 20) x1) wc by rw [hq, show i = wc by omega]) (lv_sub hl [2, 3, 1] rfl)
set_option maxHeartbeats 4000000 in
set_option maxRecDepth 100000 in
/-- how many are in force -/
theorem k_X9_list (l : Launch) (D : va_G) (cI cJ cZ cM : Nat) (h0 : Nat) (n : Nat → Nat) (mi : Nat → Int32) (mq : Nat → Int32) (mav : Nat → Nat → Int32) (wc : Nat) (h_w : mi 16 = nI wc) (hwc : wc ≤ 100) (x1 : Int32) : Met l yX9_list wsX9_list ({ frames := 1, cells := 0, slots := 0, locals := 22 } : Room) (RO D cI cJ cZ cM [.ref h0, .int x1] [(h0, .inr (9, [.ref (n 0), .int (mi 1), .ref (n 2), .ref (n 3), .ref (n 4), .ref (n 5), .ref (n 6), .int (mi 7), .ref (n 8), .ref (n 9), .ref (n 10), .ref (n 11), .ref (n 12), .ref (n 13), .ref (n 14), .int (mi 15), .int (mi 16), .ref (n 17), .ref (n 18), .ref (n 19), .ref (n 20), .ref (n 21), .ref (n 22), .ref (n 23), .ref (n 24), .ref (n 25), .int (mi 26), .int (mi 27), .int (mi 28), .int (mi 29), .int (mi 30), .int (mi 31), .int (mi 32), .int (mi 33), .ref (n 34), .ref (n 35), .int (mq 36), .int (mq 37), .int (mq 38), .ref (n 39), .ref (n 40), .ref (n 41), .ref (n 42), .int (mq 43), .int (mq 44), .int (mq 45)])), (n 19, .inl (cI, 100, .inl (mav 19))), (n 20, .inl (cI, 100, .inl (mav 20)))]) (vp_Si (fun r => okI (nI (cntP (outM (mav 19) (mav 20) x1) wc)) (-1) (0 ≤ x1 ∧ x1 ≤ mi 7) r)) 0 0 (fun _ => False) := by
  refine Met.ofW (cc := cX9_list) (maxL := 4) (ret := (some .int)) (by decide) rfl ?_
  intro p e s m args below meth c s₁ B hml hv
  obtain ⟨rfl, hG, hP⟩ := hv
  have hx := B.exec
  have hb := B.bytes
  have hr := B.returns
  have hts := atoms_spec (ws := wsX9_list) B.pre
  have hown : s.vm.findClass RX9 = some m.cls := findClass_of_methodNamed B.named
  have hlocks := B.notSynchronized
  have hK := hG.1
  have hN := hG.2
  have hl := lv_entry ([.ref h0, .int x1]) (n := 4) (Nat.le_of_ble_eq_true rfl)
  rw [lg_entry_eq]
  generalize (lg_sl ([.ref h0, .int x1]) ++ List.replicate (4 - (lg_sl ([.ref h0, .int x1])).length) Slot.unset).toArray = ls at hl ⊢
  have hl : lv_has ls 4 [(0, .ref h0), (1, .int x1)] := hl
  refine lv_iload_n hx hb dX9_list_0 rfl (lv_at hl 1 rfl) ?_
  refine lv_iconst (v := 0) hx hb dX9_list_1 (by decide) ?_
  refine lv_aload_n hx hb dX9_list_2 rfl (lv_at hl 0 rfl) ?_
  refine va_get (D := D) (ci := 9) (v := .int (mi 7)) (C := RX9) (T := TX9) (N := 46) hx hb hts (fun _ h9 => List.mem_cons_of_mem _ (List.mem_append_right _ h9)) hown hK hP 0 rfl rfl 7 (by decide) (hts (.fieldLink RX9 131 "BuoyTenderModel" "clock" "I") (by decide +kernel)) (fun _ h9 => h9) rfl dX9_list_3 ?_
  refine vp_callSi (va_Run.run (va_runS (As := [.int x1, .int 0, .int (mi 7)]) (rest := []) ⟨hx, hb, hml, hown, hts⟩ (k_X9_in l x1 0 (mi 7)) (va_cwS 3 hts gX9_list_X9_in rfl rfl rfl (by decide +kernel) ⟨Nat.le_of_ble_eq_true rfl, Nat.le_of_ble_eq_true rfl⟩) preEq rfl rfl hl.1 rfl (lv_room (Nat.le_of_ble_eq_true rfl)) dX9_list_6 ⟨Nat.le_of_ble_eq_true rfl, Nat.le_of_ble_eq_true rfl⟩)) (fun r_1 h_1 => ?_)
  rcases h_1 with ⟨rfl, h_1⟩ | ⟨rfl, h_1⟩
  · refine lv_if_ne (tgt := 14) hx hb dX9_list_9 (by decide) (fun _ => ?_) (fun c_2 => False.elim (by revert c_2; decide))
    refine lv_iconst (v := 0) hx hb dX9_list_14 (by decide) ?_
    refine lv_istore_n (lv' := [(2, .int 0), (0, .ref h0), (1, .int x1)]) hx hb dX9_list_15 rfl hl (by decide) rfl (fun ls hl => ?_)
    refine lv_iconst (v := 0) hx hb dX9_list_16 (by decide) ?_
    refine lv_istore_n (lv' := [(3, .int 0), (2, .int 0), (0, .ref h0), (1, .int x1)]) hx hb dX9_list_17 rfl hl (by decide) rfl (fun ls hl => ?_)
    have hPl := hP.sub (ws' := [(h0, .inr (9, [.ref (n 0), .int (mi 1), .ref (n 2), .ref (n 3), .ref (n 4), .ref (n 5), .ref (n 6), .int (mi 7), .ref (n 8), .ref (n 9), .ref (n 10), .ref (n 11), .ref (n 12), .ref (n 13), .ref (n 14), .int (mi 15), .int (mi 16), .ref (n 17), .ref (n 18), .ref (n 19), .ref (n 20), .ref (n 21), .ref (n 22), .ref (n 23), .ref (n 24), .ref (n 25), .int (mi 26), .int (mi 27), .int (mi 28), .int (mi 29), .int (mi 30), .int (mi 31), .int (mi 32), .int (mi 33), .ref (n 34), .ref (n 35), .int (mq 36), .int (mq 37), .int (mq 38), .ref (n 39), .ref (n 40), .ref (n 41), .ref (n 42), .int (mq 43), .int (mq 44), .int (mq 45)])), (n 19, .inl (cI, 100, .inl (mav 19))), (n 20, .inl (cI, 100, .inl (mav 20)))]) [0, 1, 2] rfl
    refine lp_X9_list hx hb hml hts hown hG hPl h_w hwc (wc + 1) 0 0 rfl (Nat.zero_le _) (by omega) _ (lv_sub hl [0, 1, 2, 3] rfl) (fun q_3 ls e_3_0 hl => ?_)
    refine lv_iload_n hx hb dX9_list_49 rfl (lv_at hl 2 rfl) ?_
    exact W.iret (v := (nI q_3)) hx hb hr (fun t ht hW => ⟨(nI q_3), rfl, (Or.inl ⟨congrArg nI e_3_0, h_1⟩), ht⟩) (fun _ h => by cases h) dX9_list_50
  refine lv_if_ne (tgt := 14) hx hb dX9_list_9 (by decide) (fun c_4 => False.elim (by revert c_4; decide)) (fun _ => ?_)
  refine lv_iconst (v := (-1)) hx hb dX9_list_12 (by decide) ?_
  exact W.iret (v := (-1)) hx hb hr (fun t ht hW => ⟨(-1), rfl, (Or.inr ⟨rfl, h_1⟩), ht⟩) (fun _ h => by cases h) dX9_list_13
set_option maxHeartbeats 4000000 in
set_option maxRecDepth 100000 in
/-- X7_numberOn: the loop at 5 -/
theorem lp_X7_numberOn {p : Program} {l : Launch} {e : Env} {s : State} {m : MethodId} {args : Array Value} {below : List Frame} {meth : Method} {c : Code} {Q : State → Prop} {D : va_G} {cI cJ cZ cM : Nat} {a : Nat → Nat} {iv : Nat → Int32} {av : Nat → Nat → Int32} {wc : Nat} {x1 : Int32} {x2 : Int32} {H : Heap} (hx : p.tables.exec = Jvm.exec) (hb : c.code = cX7_numberOn) (hml : c.maxLocals = 5) (hts : ∀ w ∈ wsX7_numberOn, w.before args s = true) (hown : s.vm.findClass RX7 = some m.cls) (hG : GK D cI cJ cZ cM s) (hP : va_P D vwCl [(a 4, .inr (7, [.ref (a 9), .ref (a 10), .ref (a 11), .ref (a 12), .int (iv 4)])), (a 9, .inl (cI, 100, .inl (av 9))), (a 10, .inl (cI, 100, .inl (av 10))), (a 11, .inl (cI, 100, .inl (av 11))), (a 12, .inl (cI, 100, .inl (av 12)))] H) (h_w : iv 4 = nI wc) (hwc : wc ≤ 100) :
    ∀ (k9 : Nat) (i : Nat) (q : Nat), (q = cntP (outC (av 11) (av 12) x1) i) → (i ≤ wc) → (∀ w, w < i → (outC (av 11) (av 12) x1) w → ¬ nI (cntP (outC (av 11) (av 12) x1) w) = x2) → wc - i < k9 → ∀ (ls : Array Slot), lv_has ls 5 [(4, .int (nI i)), (3, .int (nI q)), (0, .ref (a 4)), (1, .int x1), (2, .int x2)] → (∀  (ls : Array Slot), (∀ w, w < wc → (outC (av 11) (av 12) x1) w → ¬ nI (cntP (outC (av 11) (av 12) x1) w) = x2) → lv_has ls 5 [(0, .ref (a 4)), (1, .int x1), (2, .int x2)] → W p l e (headSpec wsX7_numberOn ({ frames := 1, cells := 0, slots := 0, locals := 22 } : Room)).room s m args below meth c H [] 0 0 Q (F0 m 41 ls [])) → (∀ (i : Nat) (ls : Array Slot), (i < wc) → ((outC (av 11) (av 12) x1) i) → (nI (cntP (outC (av 11) (av 12) x1) i) = x2) → lv_has ls 5 [(0, .ref (a 4)), (1, .int x1), (2, .int x2)] → W p l e (headSpec wsX7_numberOn ({ frames := 1, cells := 0, slots := 0, locals := 22 } : Room)).room s m args below meth c H [] 0 0 Q (F0 m 31 ls [.int (nI i)])) → W p l e (headSpec wsX7_numberOn ({ frames := 1, cells := 0, slots := 0, locals := 22 } : Room)).room s m args below meth c H [] 0 0 Q (F0 m 5 ls []) := by
  have hK := hG.1
  have hN := hG.2
  intro k9
  induction k9 with
  | zero => intro i q hq hi hno hfu; exact absurd hfu (Nat.not_lt_zero _)
  | succ k9 ih =>
    intro i q hq hi hno hfu ls hl kk0 kk1
    rcases Nat.lt_or_ge i wc with hlt | hge
    · refine lv_iload hx hb dX7_numberOn_5 (lv_at hl 0 rfl) ?_
      refine lv_aload_n hx hb dX7_numberOn_7 rfl (lv_at hl 2 rfl) ?_
      refine va_get (D := D) (ci := 7) (v := .int (iv 4)) (C := RX7) (T := TX7) (N := 5) hx hb hts (fun _ h9 => List.mem_cons_of_mem _ (List.mem_append_right _ h9)) hown hK hP 0 rfl rfl 4 (by decide) (hts (.fieldLink RX7 24 "BuoyTender$Warnings" "count" "I") (by decide +kernel)) (fun _ h9 => h9) rfl dX7_numberOn_8 ?_
      refine lv_topi (fun z_1 ez_1 => ?_)
      obtain rfl : z_1 = nI wc := ez_1.trans h_w
      refine lv_icmp_ge (tgt := 41) hx hb dX7_numberOn_11 (by decide) (fun c_2 => absurd c_2 (nI_ge hlt (by omega))) (fun c_2 => ?_)
      refine lv_aload_n hx hb dX7_numberOn_14 rfl (lv_at hl 2 rfl) ?_
      refine lv_iload hx hb dX7_numberOn_15 (lv_at hl 0 rfl) ?_
      refine lv_iload_n hx hb dX7_numberOn_17 rfl (lv_at hl 3 rfl) ?_
      have hPc := hP.sub (ws' := [(a 4, .inr (7, [.ref (a 9), .ref (a 10), .ref (a 11), .ref (a 12), .int (iv 4)])), (a 9, .inl (cI, 100, .inl (av 9))), (a 10, .inl (cI, 100, .inl (av 10))), (a 11, .inl (cI, 100, .inl (av 11))), (a 12, .inl (cI, 100, .inl (av 12)))]) [0, 1, 2, 3, 4] rfl
      refine vp_callSi (va_Run.run (va_runV (As := [.int (nI i), .int x1]) (rest := []) ⟨hx, hb, hml, hown, hts⟩ (k_X7_isOutOn l D cI cJ cZ cM a iv av i (by omega) x1) (cwV 2 hts gX7_numberOn_X7_isOutOn rfl rfl rfl (by decide +kernel) ⟨Nat.le_of_ble_eq_true rfl, Nat.le_of_ble_eq_true rfl⟩) (ro_V hG hPc (va_recv hK hPc (ci := 7) (q0 := 0) rfl rfl)) rfl rfl hl.1 rfl (lv_room (Nat.le_of_ble_eq_true rfl)) dX7_numberOn_18 ⟨Nat.le_of_ble_eq_true rfl, Nat.le_of_ble_eq_true rfl⟩)) (fun r_3 h_3 => ?_)
      rcases h_3 with ⟨rfl, h_3⟩ | ⟨rfl, h_3⟩
      · refine lv_if_eq (tgt := 35) hx hb dX7_numberOn_21 (by decide) (fun c_4 => False.elim (by revert c_4; decide)) (fun _ => ?_)
        refine lv_iload_n hx hb dX7_numberOn_24 rfl (lv_at hl 1 rfl) ?_
        refine lv_iload_n hx hb dX7_numberOn_25 rfl (lv_at hl 4 rfl) ?_
        refine lv_icmp_ne (tgt := 32) hx hb dX7_numberOn_26 (by decide) (fun c_5 => ?_) (fun c_5 => ?_)
        · refine lv_iinc (v := nI (q + 1)) (lv' := [(3, .int (nI (q + 1))), (4, .int (nI i)), (0, .ref (a 4)), (1, .int x1), (2, .int x2)]) hx hb dX7_numberOn_32 hl (k := 1) rfl (nI_add q 1) (by decide) rfl (fun ls hl => ?_)
          refine lv_iinc (v := nI (i + 1)) (lv' := [(4, .int (nI (i + 1))), (3, .int (nI (q + 1))), (0, .ref (a 4)), (1, .int x1), (2, .int x2)]) hx hb dX7_numberOn_35 hl (k := 1) rfl (nI_add i 1) (by decide) rfl (fun ls hl => ?_)
          refine lv_goto (tgt := 5) hx hb dX7_numberOn_38 (by decide) ?_
          exact ih (i + 1) (q + 1) (by rw [cntP_t h_3]; omega) (by omega) (lt_s hno (fun _ => hq ▸ c_5)) (by omega) _ (lv_sub hl [0, 1, 2, 3, 4] rfl) kk0 kk1
        refine lv_iload hx hb dX7_numberOn_29 (lv_at hl 0 rfl) ?_
        exact kk1 i _ hlt h_3 (hq ▸ c_5) (lv_sub hl [2, 3, 4] rfl)
      refine lv_if_eq (tgt := 35) hx hb dX7_numberOn_21 (by decide) (fun _ => ?_) (fun c_6 => False.elim (by revert c_6; decide))
      refine lv_iinc (v := nI (i + 1)) (lv' := [(4, .int (nI (i + 1))), (3, .int (nI q)), (0, .ref (a 4)), (1, .int x1), (2, .int x2)]) hx hb dX7_numberOn_35 hl (k := 0) rfl (nI_add i 1) (by decide) rfl (fun ls hl => ?_)
      refine lv_goto (tgt := 5) hx hb dX7_numberOn_38 (by decide) ?_
      exact ih (i + 1) q (by rw [cntP_f h_3]; omega) (by omega) (lt_s hno (fun z => absurd z h_3)) (by omega) _ (lv_sub hl [0, 1, 2, 3, 4] rfl) kk0 kk1
    · refine lv_iload hx hb dX7_numberOn_5 (lv_at hl 0 rfl) ?_
      refine lv_aload_n hx hb dX7_numberOn_7 rfl (lv_at hl 2 rfl) ?_
      refine va_get (D := D) (ci := 7) (v := .int (iv 4)) (C := RX7) (T := TX7) (N := 5) hx hb hts (fun _ h9 => List.mem_cons_of_mem _ (List.mem_append_right _ h9)) hown hK hP 0 rfl rfl 4 (by decide) (hts (.fieldLink RX7 24 "BuoyTender$Warnings" "count" "I") (by decide +kernel)) (fun _ h9 => h9) rfl dX7_numberOn_8 ?_
      refine lv_topi (fun z_7 ez_7 => ?_)
      obtain rfl : z_7 = nI wc := ez_7.trans h_w
      refine lv_icmp_ge (tgt := 41) hx hb dX7_numberOn_11 (by decide) (fun c_8 => ?_) (fun c_8 => absurd (nI_le hge (by omega)) c_8)
      exact kk0  _ (fun w hw => hno w (by omega)) (lv_sub hl [2, 3, 4] rfl)
set_option maxHeartbeats 4000000 in
set_option maxRecDepth 100000 in
/-- the i-th that is out -/
theorem k_X7_numberOn (l : Launch) (D : va_G) (cI cJ cZ cM : Nat) (a : Nat → Nat) (iv : Nat → Int32) (av : Nat → Nat → Int32) (wc : Nat) (h_w : iv 4 = nI wc) (hwc : wc ≤ 100) (x1 : Int32) (x2 : Int32) : Met l yX7_numberOn wsX7_numberOn ({ frames := 1, cells := 0, slots := 0, locals := 22 } : Room) (RO D cI cJ cZ cM [.ref (a 4), .int x1, .int x2] [(a 4, .inr (7, [.ref (a 9), .ref (a 10), .ref (a 11), .ref (a 12), .int (iv 4)])), (a 9, .inl (cI, 100, .inl (av 9))), (a 10, .inl (cI, 100, .inl (av 10))), (a 11, .inl (cI, 100, .inl (av 11))), (a 12, .inl (cI, 100, .inl (av 12)))]) (vp_Si (fun r => numP (outC (av 11) (av 12) x1) wc x2 r)) 0 0 (fun _ => False) := by
  refine Met.ofW (cc := cX7_numberOn) (maxL := 5) (ret := (some .int)) (by decide) rfl ?_
  intro p e s m args below meth c s₁ B hml hv
  obtain ⟨rfl, hG, hP⟩ := hv
  have hx := B.exec
  have hb := B.bytes
  have hr := B.returns
  have hts := atoms_spec (ws := wsX7_numberOn) B.pre
  have hown : s.vm.findClass RX7 = some m.cls := findClass_of_methodNamed B.named
  have hlocks := B.notSynchronized
  have hK := hG.1
  have hN := hG.2
  have hl := lv_entry ([.ref (a 4), .int x1, .int x2]) (n := 5) (Nat.le_of_ble_eq_true rfl)
  rw [lg_entry_eq]
  generalize (lg_sl ([.ref (a 4), .int x1, .int x2]) ++ List.replicate (5 - (lg_sl ([.ref (a 4), .int x1, .int x2])).length) Slot.unset).toArray = ls at hl ⊢
  have hl : lv_has ls 5 [(0, .ref (a 4)), (1, .int x1), (2, .int x2)] := hl
  refine lv_iconst (v := 0) hx hb dX7_numberOn_0 (by decide) ?_
  refine lv_istore_n (lv' := [(3, .int 0), (0, .ref (a 4)), (1, .int x1), (2, .int x2)]) hx hb dX7_numberOn_1 rfl hl (by decide) rfl (fun ls hl => ?_)
  refine lv_iconst (v := 0) hx hb dX7_numberOn_2 (by decide) ?_
  refine lv_istore (lv' := [(4, .int 0), (3, .int 0), (0, .ref (a 4)), (1, .int x1), (2, .int x2)]) hx hb dX7_numberOn_3 hl (by decide) rfl (fun ls hl => ?_)
  have hPl := hP.sub (ws' := [(a 4, .inr (7, [.ref (a 9), .ref (a 10), .ref (a 11), .ref (a 12), .int (iv 4)])), (a 9, .inl (cI, 100, .inl (av 9))), (a 10, .inl (cI, 100, .inl (av 10))), (a 11, .inl (cI, 100, .inl (av 11))), (a 12, .inl (cI, 100, .inl (av 12)))]) [0, 1, 2, 3, 4] rfl
  refine lp_X7_numberOn hx hb hml hts hown hG hPl h_w hwc (wc + 1) 0 0 rfl (Nat.zero_le _) lt_0 (by omega) _ (lv_sub hl [0, 1, 2, 3, 4] rfl) (fun  ls e_1_0 hl => ?_) (fun i_2 ls e_2_0 e_2_1 e_2_2 hl => ?_)
  · refine lv_iconst (v := (-1)) hx hb dX7_numberOn_41 (by decide) ?_
    exact W.iret (v := (-1)) hx hb hr (fun t ht hW => ⟨(-1), rfl, (Or.inr ⟨rfl, e_1_0⟩), ht⟩) (fun _ h => by cases h) dX7_numberOn_42
  exact W.iret (v := (nI i_2)) hx hb hr (fun t ht hW => ⟨(nI i_2), rfl, (Or.inl ⟨_, e_2_0, e_2_1, e_2_2, rfl⟩), ht⟩) (fun _ h => by cases h) dX7_numberOn_31
set_option maxHeartbeats 4000000 in
set_option maxRecDepth 100000 in
/-- X9_listed: the loop at 5 -/
theorem lp_X9_listed {p : Program} {l : Launch} {e : Env} {s : State} {m : MethodId} {args : Array Value} {below : List Frame} {meth : Method} {c : Code} {Q : State → Prop} {D : va_G} {cI cJ cZ cM : Nat} {h0 : Nat} {n : Nat → Nat} {mi : Nat → Int32} {mq : Nat → Int32} {mav : Nat → Nat → Int32} {wc : Nat} {x1 : Int32} {x2 : Int32} {H : Heap} (hx : p.tables.exec = Jvm.exec) (hb : c.code = cX9_listed) (hml : c.maxLocals = 5) (hts : ∀ w ∈ wsX9_listed, w.before args s = true) (hown : s.vm.findClass RX9 = some m.cls) (hG : GK D cI cJ cZ cM s) (hP : va_P D vwCl [(h0, .inr (9, [.ref (n 0), .int (mi 1), .ref (n 2), .ref (n 3), .ref (n 4), .ref (n 5), .ref (n 6), .int (mi 7), .ref (n 8), .ref (n 9), .ref (n 10), .ref (n 11), .ref (n 12), .ref (n 13), .ref (n 14), .int (mi 15), .int (mi 16), .ref (n 17), .ref (n 18), .ref (n 19), .ref (n 20), .ref (n 21), .ref (n 22), .ref (n 23), .ref (n 24), .ref (n 25), .int (mi 26), .int (mi 27), .int (mi 28), .int (mi 29), .int (mi 30), .int (mi 31), .int (mi 32), .int (mi 33), .ref (n 34), .ref (n 35), .int (mq 36), .int (mq 37), .int (mq 38), .ref (n 39), .ref (n 40), .ref (n 41), .ref (n 42), .int (mq 43), .int (mq 44), .int (mq 45)])), (n 19, .inl (cI, 100, .inl (mav 19))), (n 20, .inl (cI, 100, .inl (mav 20)))] H) (h_w : mi 16 = nI wc) (hwc : wc ≤ 100) :
    ∀ (k9 : Nat) (i : Nat) (q : Nat), (q = cntP (outM (mav 19) (mav 20) x1) i) → (i ≤ wc) → (∀ w, w < i → (outM (mav 19) (mav 20) x1) w → ¬ nI (cntP (outM (mav 19) (mav 20) x1) w) = x2) → wc - i < k9 → ∀ (ls : Array Slot), lv_has ls 5 [(4, .int (nI i)), (3, .int (nI q)), (0, .ref h0), (1, .int x1), (2, .int x2)] → (∀  (ls : Array Slot), ((∀ w, w < wc → (outM (mav 19) (mav 20) x1) w → ¬ nI (cntP (outM (mav 19) (mav 20) x1) w) = x2) ∨ ¬ (0 ≤ x1 ∧ x1 ≤ mi 7)) → lv_has ls 5 [(0, .ref h0), (1, .int x1), (2, .int x2)] → W p l e (headSpec wsX9_listed ({ frames := 1, cells := 0, slots := 0, locals := 22 } : Room)).room s m args below meth c H [] 0 0 Q (F0 m 53 ls [])) → (∀ (i : Nat) (ls : Array Slot), (i < wc) → ((outM (mav 19) (mav 20) x1) i) → (nI (cntP (outM (mav 19) (mav 20) x1) i) = x2) → lv_has ls 5 [(0, .ref h0), (1, .int x1), (2, .int x2)] → W p l e (headSpec wsX9_listed ({ frames := 1, cells := 0, slots := 0, locals := 22 } : Room)).room s m args below meth c H [] 0 0 Q (F0 m 43 ls [.int (nI i)])) → W p l e (headSpec wsX9_listed ({ frames := 1, cells := 0, slots := 0, locals := 22 } : Room)).room s m args below meth c H [] 0 0 Q (F0 m 5 ls []) := by
  have hK := hG.1
  have hN := hG.2
  intro k9
  induction k9 with
  | zero => intro i q hq hi hno hfu; exact absurd hfu (Nat.not_lt_zero _)
  | succ k9 ih =>
    intro i q hq hi hno hfu ls hl kk0 kk1
    rcases Nat.lt_or_ge i wc with hlt | hge
    · refine lv_iload hx hb dX9_listed_5 (lv_at hl 0 rfl) ?_
      refine lv_aload_n hx hb dX9_listed_7 rfl (lv_at hl 2 rfl) ?_
      refine va_get (D := D) (ci := 9) (v := .int (mi 16)) (C := RX9) (T := TX9) (N := 46) hx hb hts (fun _ h9 => List.mem_cons_of_mem _ (List.mem_append_right _ h9)) hown hK hP 0 rfl rfl 16 (by decide) (hts (.fieldLink RX9 146 "BuoyTenderModel" "warnings" "I") (by decide +kernel)) (fun _ h9 => h9) rfl dX9_listed_8 ?_
      refine lv_topi (fun z_1 ez_1 => ?_)
      obtain rfl : z_1 = nI wc := ez_1.trans h_w
      refine lv_icmp_ge (tgt := 53) hx hb dX9_listed_11 (by decide) (fun c_2 => absurd c_2 (nI_ge hlt (by omega))) (fun c_2 => ?_)
      refine lv_iload_n hx hb dX9_listed_14 rfl (lv_at hl 3 rfl) ?_
      refine lv_iconst (v := 0) hx hb dX9_listed_15 (by decide) ?_
      refine lv_aload_n hx hb dX9_listed_16 rfl (lv_at hl 2 rfl) ?_
      refine va_get (D := D) (ci := 9) (v := .int (mi 7)) (C := RX9) (T := TX9) (N := 46) hx hb hts (fun _ h9 => List.mem_cons_of_mem _ (List.mem_append_right _ h9)) hown hK hP 0 rfl rfl 7 (by decide) (hts (.fieldLink RX9 131 "BuoyTenderModel" "clock" "I") (by decide +kernel)) (fun _ h9 => h9) rfl dX9_listed_17 ?_
      refine vp_callSi (va_Run.run (va_runS (As := [.int x1, .int 0, .int (mi 7)]) (rest := []) ⟨hx, hb, hml, hown, hts⟩ (k_X9_in l x1 0 (mi 7)) (va_cwS 3 hts gX9_listed_X9_in rfl rfl rfl (by decide +kernel) ⟨Nat.le_of_ble_eq_true rfl, Nat.le_of_ble_eq_true rfl⟩) preEq rfl rfl hl.1 rfl (lv_room (Nat.le_of_ble_eq_true rfl)) dX9_listed_20 ⟨Nat.le_of_ble_eq_true rfl, Nat.le_of_ble_eq_true rfl⟩)) (fun r_3 h_3 => ?_)
      rcases h_3 with ⟨rfl, h_3⟩ | ⟨rfl, h_3⟩
      · refine lv_if_eq (tgt := 53) hx hb dX9_listed_23 (by decide) (fun c_4 => False.elim (by revert c_4; decide)) (fun _ => ?_)
        refine lv_aload_n hx hb dX9_listed_26 rfl (lv_at hl 2 rfl) ?_
        refine lv_iload hx hb dX9_listed_27 (lv_at hl 0 rfl) ?_
        refine lv_iload_n hx hb dX9_listed_29 rfl (lv_at hl 3 rfl) ?_
        have hPc := hP.sub (ws' := [(h0, .inr (9, [.ref (n 0), .int (mi 1), .ref (n 2), .ref (n 3), .ref (n 4), .ref (n 5), .ref (n 6), .int (mi 7), .ref (n 8), .ref (n 9), .ref (n 10), .ref (n 11), .ref (n 12), .ref (n 13), .ref (n 14), .int (mi 15), .int (mi 16), .ref (n 17), .ref (n 18), .ref (n 19), .ref (n 20), .ref (n 21), .ref (n 22), .ref (n 23), .ref (n 24), .ref (n 25), .int (mi 26), .int (mi 27), .int (mi 28), .int (mi 29), .int (mi 30), .int (mi 31), .int (mi 32), .int (mi 33), .ref (n 34), .ref (n 35), .int (mq 36), .int (mq 37), .int (mq 38), .ref (n 39), .ref (n 40), .ref (n 41), .ref (n 42), .int (mq 43), .int (mq 44), .int (mq 45)])), (n 19, .inl (cI, 100, .inl (mav 19))), (n 20, .inl (cI, 100, .inl (mav 20)))]) [0, 1, 2] rfl
        refine vp_callSi (va_Run.run (va_runV (As := [.int (nI i), .int x1]) (rest := []) ⟨hx, hb, hml, hown, hts⟩ (k_X9_isForce l D cI cJ cZ cM h0 n mi mq mav i (by omega) x1) (cwV 2 hts gX9_listed_X9_isForce rfl rfl rfl (by decide +kernel) ⟨Nat.le_of_ble_eq_true rfl, Nat.le_of_ble_eq_true rfl⟩) (ro_V hG hPc (va_recv hK hPc (ci := 9) (q0 := 0) rfl rfl)) rfl rfl hl.1 rfl (lv_room (Nat.le_of_ble_eq_true rfl)) dX9_listed_30 ⟨Nat.le_of_ble_eq_true rfl, Nat.le_of_ble_eq_true rfl⟩)) (fun r_5 h_5 => ?_)
        rcases h_5 with ⟨rfl, h_5⟩ | ⟨rfl, h_5⟩
        · refine lv_if_eq (tgt := 47) hx hb dX9_listed_33 (by decide) (fun c_6 => False.elim (by revert c_6; decide)) (fun _ => ?_)
          refine lv_iload_n hx hb dX9_listed_36 rfl (lv_at hl 1 rfl) ?_
          refine lv_iload_n hx hb dX9_listed_37 rfl (lv_at hl 4 rfl) ?_
          refine lv_icmp_ne (tgt := 44) hx hb dX9_listed_38 (by decide) (fun c_7 => ?_) (fun c_7 => ?_)
          · refine lv_iinc (v := nI (q + 1)) (lv' := [(3, .int (nI (q + 1))), (4, .int (nI i)), (0, .ref h0), (1, .int x1), (2, .int x2)]) hx hb dX9_listed_44 hl (k := 1) rfl (nI_add q 1) (by decide) rfl (fun ls hl => ?_)
            refine lv_iinc (v := nI (i + 1)) (lv' := [(4, .int (nI (i + 1))), (3, .int (nI (q + 1))), (0, .ref h0), (1, .int x1), (2, .int x2)]) hx hb dX9_listed_47 hl (k := 1) rfl (nI_add i 1) (by decide) rfl (fun ls hl => ?_)
            refine lv_goto (tgt := 5) hx hb dX9_listed_50 (by decide) ?_
            exact ih (i + 1) (q + 1) (by rw [cntP_t h_5]; omega) (by omega) (lt_s hno (fun _ => hq ▸ c_7)) (by omega) _ (lv_sub hl [0, 1, 2, 3, 4] rfl) kk0 kk1
          refine lv_iload hx hb dX9_listed_41 (lv_at hl 0 rfl) ?_
          exact kk1 i _ hlt h_5 (hq ▸ c_7) (lv_sub hl [2, 3, 4] rfl)
        refine lv_if_eq (tgt := 47) hx hb dX9_listed_33 (by decide) (fun _ => ?_) (fun c_8 => False.elim (by revert c_8; decide))
        refine lv_iinc (v := nI (i + 1)) (lv' := [(4, .int (nI (i + 1))), (3, .int (nI q)), (0, .ref h0), (1, .int x1), (2, .int x2)]) hx hb dX9_listed_47 hl (k := 0) rfl (nI_add i 1) (by decide) rfl (fun ls hl => ?_)
        refine lv_goto (tgt := 5) hx hb dX9_listed_50 (by decide) ?_
        exact ih (i + 1) q (by rw [cntP_f h_5]; omega) (by omega) (lt_s hno (fun z => absurd z h_5)) (by omega) _ (lv_sub hl [0, 1, 2, 3, 4] rfl) kk0 kk1
      refine lv_if_eq (tgt := 53) hx hb dX9_listed_23 (by decide) (fun _ => ?_) (fun c_9 => False.elim (by revert c_9; decide))
      exact kk0  _ (Or.inr h_3) (lv_sub hl [2, 3, 4] rfl)
    · refine lv_iload hx hb dX9_listed_5 (lv_at hl 0 rfl) ?_
      refine lv_aload_n hx hb dX9_listed_7 rfl (lv_at hl 2 rfl) ?_
      refine va_get (D := D) (ci := 9) (v := .int (mi 16)) (C := RX9) (T := TX9) (N := 46) hx hb hts (fun _ h9 => List.mem_cons_of_mem _ (List.mem_append_right _ h9)) hown hK hP 0 rfl rfl 16 (by decide) (hts (.fieldLink RX9 146 "BuoyTenderModel" "warnings" "I") (by decide +kernel)) (fun _ h9 => h9) rfl dX9_listed_8 ?_
      refine lv_topi (fun z_10 ez_10 => ?_)
      obtain rfl : z_10 = nI wc := ez_10.trans h_w
      refine lv_icmp_ge (tgt := 53) hx hb dX9_listed_11 (by decide) (fun c_11 => ?_) (fun c_11 => absurd (nI_le hge (by omega)) c_11)
      exact kk0  _ (Or.inl (fun w hw => hno w (by omega))) (lv_sub hl [2, 3, 4] rfl)
