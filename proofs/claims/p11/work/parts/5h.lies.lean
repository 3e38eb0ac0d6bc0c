set_option maxHeartbeats 4000000 in
set_option maxRecDepth 100000 in
/-- X8_depth: the loop at 55 -/
theorem lp_X8_depthI {p : Program} {l : Launch} {e : Env} {s : State} {m : MethodId} {args : Array Value} {below : List Frame} {meth : Method} {c : Code} {Q : State → Prop} {D : va_G} {cI cJ cZ cM : Nat} {h0 : Nat} {a : Nat → Nat} {iv : Nat → Int32} {dx : Nat} {dy : Nat} {dp : Nat} {dq : Nat} {x5 : Int32} {i_ : Nat} {A : Nat → Prop} (hx : p.tables.exec = Jvm.exec) (hb : c.code = cX8_depth) (hml : c.maxLocals = 8) (hts : ∀ w ∈ wsX8_depth, w.before args s = true) (hown : s.vm.findClass RX8 = some m.cls) (hG : GK D cI cJ cZ cM s) (hA : ∀ q : Nat, s.heap.size ≤ q → A q) (hi_ : i_ < 40) (hp_ : dp < 40) :
    ∀ (k9 : Nat) (j_ : Nat) (f1 : Nat → Int32), (j_ ≤ dp + 1) → (dp + 1) - j_ < k9 → ∀ (H : Heap) (locs : List Loc) (ls : Array Slot), va_P D vwCl [(h0, .inr (8, [.ref (a 1), .ref (a 2), .ref (a 3), .ref (a 4), .ref (a 5), .ref (a 6), .ref (a 7), .ref (a 8), .int (iv 0), .int (iv 1), .int (iv 2), .int (iv 3)])), (a 1, .inl (cI, 1600, .inl f1))] H → va_D A [(h0, .inr (8, [.ref (a 1), .ref (a 2), .ref (a 3), .ref (a 4), .ref (a 5), .ref (a 6), .ref (a 7), .ref (a 8), .int (iv 0), .int (iv 1), .int (iv 2), .int (iv 3)])), (a 1, .inl (cI, 1600, .inl f1))] → va_S A s.heap H locs → lv_has ls 8 [(7, .int (nI j_)), (6, .int (nI i_)), (0, .ref h0), (1, .int (nI dx)), (2, .int (nI dy)), (3, .int (nI dp)), (4, .int (nI dq)), (5, .int x5)] → (∀ (f1 : Nat → Int32) (H : Heap) (locs : List Loc) (ls : Array Slot), va_P D vwCl [(h0, .inr (8, [.ref (a 1), .ref (a 2), .ref (a 3), .ref (a 4), .ref (a 5), .ref (a 6), .ref (a 7), .ref (a 8), .int (iv 0), .int (iv 1), .int (iv 2), .int (iv 3)])), (a 1, .inl (cI, 1600, .inl f1))] H → va_D A [(h0, .inr (8, [.ref (a 1), .ref (a 2), .ref (a 3), .ref (a 4), .ref (a 5), .ref (a 6), .ref (a 7), .ref (a 8), .int (iv 0), .int (iv 1), .int (iv 2), .int (iv 3)])), (a 1, .inl (cI, 1600, .inl f1))] → va_S A s.heap H locs → lv_has ls 8 [(6, .int (nI i_)), (0, .ref h0), (1, .int (nI dx)), (2, .int (nI dy)), (3, .int (nI dp)), (4, .int (nI dq)), (5, .int x5)] → W p l e (headSpec wsX8_depth ({ frames := 2, cells := 0, slots := 0, locals := 43 } : Room)).room s m args below meth c H locs 0 0 Q (F0 m 82 ls [])) → W p l e (headSpec wsX8_depth ({ frames := 2, cells := 0, slots := 0, locals := 43 } : Room)).room s m args below meth c H locs 0 0 Q (F0 m 55 ls []) := by
  have hK := hG.1
  have hN := hG.2
  intro k9
  induction k9 with
  | zero => intro j_ f1 hj hfu; exact absurd hfu (Nat.not_lt_zero _)
  | succ k9 ih =>
    intro j_ f1 hj hfu H locs ls hP hD hS hl kk0
    rcases Nat.lt_or_ge j_ (dp + 1) with hlt | hge
    · refine lv_iload hx hb dX8_depth_55 (lv_at hl 0 rfl) ?_
      refine lv_iload_n hx hb dX8_depth_57 rfl (lv_at hl 5 rfl) ?_
      refine lv_icmp_gt (tgt := 82) hx hb dX8_depth_58 (by decide) (fun c_1 => absurd c_1 (gt_no hlt (by omega))) (fun c_1 => ?_)
      refine lv_aload_n hx hb dX8_depth_61 rfl (lv_at hl 2 rfl) ?_
      refine va_get (D := D) (ci := 8) (v := .ref (a 1)) (C := RX8) (T := TX8) (N := 12) hx hb hts (fun _ h9 => List.mem_cons_of_mem _ (List.mem_append_right _ h9)) hown hK hP 0 rfl rfl 0 (by decide) (hts (.fieldLink RX8 9 "BuoyTender" "depths" "[I") (by decide +kernel)) (fun _ h9 => h9) rfl dX8_depth_62 ?_
      refine lv_iload hx hb dX8_depth_65 (lv_at hl 1 rfl) ?_
      refine lv_bipush (v := 40) hx hb dX8_depth_67 (by decide) ?_
      refine lv_imul hx hb dX8_depth_69 ?_
      refine lv_topi (fun z_2 ez_2 => ?_)
      obtain rfl : z_2 = nI (i_ * 40) := ez_2.trans (pk_mul i_ 40)
      refine lv_iload hx hb dX8_depth_70 (lv_at hl 0 rfl) ?_
      refine lv_iadd hx hb dX8_depth_72 ?_
      refine lv_topi (fun z_3 ez_3 => ?_)
      obtain rfl : z_3 = nI ((i_ * 40) + j_) := ez_3.trans (nI_add (i_ * 40) j_)
      refine lv_iload hx hb dX8_depth_73 (lv_at hl 7 rfl) ?_
      refine va_iast hx hb hK hP hD hS 1 0 rfl rfl (vp_in_nI (by omega) (by decide)) dX8_depth_75 (fun H locs hP hD hS => ?_)
      rw [nI_clamp (by omega)] at hP hD
      have hP : va_P D vwCl [(h0, .inr (8, [.ref (a 1), .ref (a 2), .ref (a 3), .ref (a 4), .ref (a 5), .ref (a 6), .ref (a 7), .ref (a 8), .int (iv 0), .int (iv 1), .int (iv 2), .int (iv 3)])), (a 1, .inl (cI, 1600, .inl (upd f1 ((i_ * 40) + j_) x5)))] H := hP
      have hD : va_D A [(h0, .inr (8, [.ref (a 1), .ref (a 2), .ref (a 3), .ref (a 4), .ref (a 5), .ref (a 6), .ref (a 7), .ref (a 8), .int (iv 0), .int (iv 1), .int (iv 2), .int (iv 3)])), (a 1, .inl (cI, 1600, .inl (upd f1 ((i_ * 40) + j_) x5)))] := hD
      refine lv_iinc (v := nI (j_ + 1)) (lv' := [(7, .int (nI (j_ + 1))), (6, .int (nI i_)), (0, .ref h0), (1, .int (nI dx)), (2, .int (nI dy)), (3, .int (nI dp)), (4, .int (nI dq)), (5, .int x5)]) hx hb dX8_depth_76 hl (k := 0) rfl (nI_add j_ 1) (by decide) rfl (fun ls hl => ?_)
      refine lv_goto (tgt := 55) hx hb dX8_depth_79 (by decide) ?_
      exact ih (j_ + 1) (upd f1 ((i_ * 40) + j_) x5) (by omega) (by omega) _ _ _ hP hD hS (lv_sub hl [0, 1, 2, 3, 4, 5, 6, 7] rfl) kk0
    · refine lv_iload hx hb dX8_depth_55 (lv_at hl 0 rfl) ?_
      refine lv_iload_n hx hb dX8_depth_57 rfl (lv_at hl 5 rfl) ?_
      refine lv_icmp_gt (tgt := 82) hx hb dX8_depth_58 (by decide) (fun c_4 => ?_) (fun c_4 => absurd (gt_yes hge (by omega)) c_4)
      exact kk0 f1 _ _ _  hP hD hS (lv_sub hl [1, 2, 3, 4, 5, 6, 7] rfl)
set_option maxHeartbeats 4000000 in
set_option maxRecDepth 100000 in
/-- X8_depth: the loop at 45 -/
theorem lp_X8_depthO {p : Program} {l : Launch} {e : Env} {s : State} {m : MethodId} {args : Array Value} {below : List Frame} {meth : Method} {c : Code} {Q : State → Prop} {D : va_G} {cI cJ cZ cM : Nat} {h0 : Nat} {a : Nat → Nat} {iv : Nat → Int32} {dx : Nat} {dy : Nat} {dp : Nat} {dq : Nat} {x5 : Int32} {A : Nat → Prop} (hx : p.tables.exec = Jvm.exec) (hb : c.code = cX8_depth) (hml : c.maxLocals = 8) (hts : ∀ w ∈ wsX8_depth, w.before args s = true) (hown : s.vm.findClass RX8 = some m.cls) (hG : GK D cI cJ cZ cM s) (hA : ∀ q : Nat, s.heap.size ≤ q → A q) (hp_ : dp < 40) (hq_ : dq < 40) (hxp : dx ≤ dp) :
    ∀ (k9 : Nat) (i_ : Nat) (f1 : Nat → Int32), (i_ ≤ dq + 1) → (dq + 1) - i_ < k9 → ∀ (H : Heap) (locs : List Loc) (ls : Array Slot), va_P D vwCl [(h0, .inr (8, [.ref (a 1), .ref (a 2), .ref (a 3), .ref (a 4), .ref (a 5), .ref (a 6), .ref (a 7), .ref (a 8), .int (iv 0), .int (iv 1), .int (iv 2), .int (iv 3)])), (a 1, .inl (cI, 1600, .inl f1))] H → va_D A [(h0, .inr (8, [.ref (a 1), .ref (a 2), .ref (a 3), .ref (a 4), .ref (a 5), .ref (a 6), .ref (a 7), .ref (a 8), .int (iv 0), .int (iv 1), .int (iv 2), .int (iv 3)])), (a 1, .inl (cI, 1600, .inl f1))] → va_S A s.heap H locs → lv_has ls 8 [(6, .int (nI i_)), (0, .ref h0), (1, .int (nI dx)), (2, .int (nI dy)), (3, .int (nI dp)), (4, .int (nI dq)), (5, .int x5)] → (∀ (f1 : Nat → Int32) (H : Heap) (locs : List Loc) (ls : Array Slot), va_P D vwCl [(h0, .inr (8, [.ref (a 1), .ref (a 2), .ref (a 3), .ref (a 4), .ref (a 5), .ref (a 6), .ref (a 7), .ref (a 8), .int (iv 0), .int (iv 1), .int (iv 2), .int (iv 3)])), (a 1, .inl (cI, 1600, .inl f1))] H → va_D A [(h0, .inr (8, [.ref (a 1), .ref (a 2), .ref (a 3), .ref (a 4), .ref (a 5), .ref (a 6), .ref (a 7), .ref (a 8), .int (iv 0), .int (iv 1), .int (iv 2), .int (iv 3)])), (a 1, .inl (cI, 1600, .inl f1))] → va_S A s.heap H locs → lv_has ls 8 [(0, .ref h0), (1, .int (nI dx)), (2, .int (nI dy)), (3, .int (nI dp)), (4, .int (nI dq)), (5, .int x5)] → W p l e (headSpec wsX8_depth ({ frames := 2, cells := 0, slots := 0, locals := 43 } : Room)).room s m args below meth c H locs 0 0 Q (F0 m 88 ls [])) → W p l e (headSpec wsX8_depth ({ frames := 2, cells := 0, slots := 0, locals := 43 } : Room)).room s m args below meth c H locs 0 0 Q (F0 m 45 ls []) := by
  have hK := hG.1
  have hN := hG.2
  intro k9
  induction k9 with
  | zero => intro i_ f1 hi hfu; exact absurd hfu (Nat.not_lt_zero _)
  | succ k9 ih =>
    intro i_ f1 hi hfu H locs ls hP hD hS hl kk0
    rcases Nat.lt_or_ge i_ (dq + 1) with hlt | hge
    · refine lv_iload hx hb dX8_depth_45 (lv_at hl 0 rfl) ?_
      refine lv_iload hx hb dX8_depth_47 (lv_at hl 5 rfl) ?_
      refine lv_icmp_gt (tgt := 88) hx hb dX8_depth_49 (by decide) (fun c_1 => absurd c_1 (gt_no hlt (by omega))) (fun c_1 => ?_)
      refine lv_iload_n hx hb dX8_depth_52 rfl (lv_at hl 2 rfl) ?_
      refine lv_istore (lv' := [(7, .int (nI dx)), (6, .int (nI i_)), (0, .ref h0), (1, .int (nI dx)), (2, .int (nI dy)), (3, .int (nI dp)), (4, .int (nI dq)), (5, .int x5)]) hx hb dX8_depth_53 hl (by decide) rfl (fun ls hl => ?_)
      refine lp_X8_depthI hx hb hml hts hown hG hA (by omega) hp_ ((dp + 1) + 1) dx f1 (by omega) (by omega) _ _ _ hP hD hS (lv_sub hl [0, 1, 2, 3, 4, 5, 6, 7] rfl) (fun f1_2 H locs ls  hP hD hS hl => ?_)
      refine lv_iinc (v := nI (i_ + 1)) (lv' := [(6, .int (nI (i_ + 1))), (0, .ref h0), (1, .int (nI dx)), (2, .int (nI dy)), (3, .int (nI dp)), (4, .int (nI dq)), (5, .int x5)]) hx hb dX8_depth_82 hl (k := 0) rfl (nI_add i_ 1) (by decide) rfl (fun ls hl => ?_)
      refine lv_goto (tgt := 45) hx hb dX8_depth_85 (by decide) ?_
      exact ih (i_ + 1) f1_2 (by omega) (by omega) _ _ _ hP hD hS (lv_sub hl [0, 1, 2, 3, 4, 5, 6] rfl) kk0
    · refine lv_iload hx hb dX8_depth_45 (lv_at hl 0 rfl) ?_
      refine lv_iload hx hb dX8_depth_47 (lv_at hl 5 rfl) ?_
      refine lv_icmp_gt (tgt := 88) hx hb dX8_depth_49 (by decide) (fun c_3 => ?_) (fun c_3 => absurd (gt_yes hge (by omega)) c_3)
      exact kk0 f1 _ _ _  hP hD hS (lv_sub hl [1, 2, 3, 4, 5, 6] rfl)
set_option maxHeartbeats 4000000 in
set_option maxRecDepth 100000 in
/-- X8_depth -/
theorem k_X8_depth (l : Launch) (D : va_G) (cI cJ cZ cM : Nat) (h0 : Nat) (a : Nat → Nat) (iv : Nat → Int32) (av : Nat → Nat → Int32) (x1 : Int32) (x2 : Int32) (x3 : Int32) (x4 : Int32) (x5 : Int32) (sz : Nat) : Met l yX8_depth wsX8_depth ({ frames := 2, cells := 0, slots := 0, locals := 43 } : Room) (RW D cI cJ cZ cM [.ref h0, .int x1, .int x2, .int x3, .int x4, .int x5] [(h0, .inr (8, [.ref (a 1), .ref (a 2), .ref (a 3), .ref (a 4), .ref (a 5), .ref (a 6), .ref (a 7), .ref (a 8), .int (iv 0), .int (iv 1), .int (iv 2), .int (iv 3)])), (a 1, .inl (cI, 1600, .inl (av 1)))] sz) (va_Qi (S := Int32 × (Nat → Int32)) (fun r u => okI 1 0 (placeP x1 x2 ∧ placeP x3 x4 ∧ ¬ x3 < x1 ∧ ¬ x4 < x2 ∧ (0 ≤ x5 ∧ x5 ≤ 200)) r) (BB D (fun u => [(h0, .inr (8, [.ref (a 1), .ref (a 2), .ref (a 3), .ref (a 4), .ref (a 5), .ref (a 6), .ref (a 7), .ref (a 8), .int (iv 0), .int (iv 1), .int (iv 2), .int u.1])), (a 1, .inl (cI, 1600, .inl u.2))]) (va_A [(h0, .inr (8, [.ref (a 1), .ref (a 2), .ref (a 3), .ref (a 4), .ref (a 5), .ref (a 6), .ref (a 7), .ref (a 8), .int (iv 0), .int (iv 1), .int (iv 2), .int (iv 3)])), (a 1, .inl (cI, 1600, .inl (av 1)))] sz)) (va_A [(h0, .inr (8, [.ref (a 1), .ref (a 2), .ref (a 3), .ref (a 4), .ref (a 5), .ref (a 6), .ref (a 7), .ref (a 8), .int (iv 0), .int (iv 1), .int (iv 2), .int (iv 3)])), (a 1, .inl (cI, 1600, .inl (av 1)))] sz)) 0 0 (va_A [(h0, .inr (8, [.ref (a 1), .ref (a 2), .ref (a 3), .ref (a 4), .ref (a 5), .ref (a 6), .ref (a 7), .ref (a 8), .int (iv 0), .int (iv 1), .int (iv 2), .int (iv 3)])), (a 1, .inl (cI, 1600, .inl (av 1)))] sz) := by
  refine Met.ofW (cc := cX8_depth) (maxL := 8) (ret := (some .boolean)) (by decide) rfl ?_
  intro p e s m args below meth c s₁ B hml hv
  obtain ⟨rfl, hsz, hG, hP, hD0⟩ := hv
  have hx := B.exec
  have hb := B.bytes
  have hr := B.returns
  have hts := atoms_spec (ws := wsX8_depth) B.pre
  have hown : s.vm.findClass RX8 = some m.cls := findClass_of_methodNamed B.named
  have hlocks := B.notSynchronized
  have hK := hG.1
  have hN := hG.2
  subst hsz
  have hD := hD0.self (sz := s.heap.size)
  generalize hAe : va_A [(h0, .inr (8, [.ref (a 1), .ref (a 2), .ref (a 3), .ref (a 4), .ref (a 5), .ref (a 6), .ref (a 7), .ref (a 8), .int (iv 0), .int (iv 1), .int (iv 2), .int (iv 3)])), (a 1, .inl (cI, 1600, .inl (av 1)))] s.heap.size = A at hD ⊢
  have hA : ∀ q : Nat, s.heap.size ≤ q → A q := fun q h => by rw [← hAe]; exact Or.inr h
  have hS : va_S A s.heap s.heap [] := va_S.rf
  have hP : va_P D vwCl [(h0, .inr (8, [.ref (a 1), .ref (a 2), .ref (a 3), .ref (a 4), .ref (a 5), .ref (a 6), .ref (a 7), .ref (a 8), .int (iv 0), .int (iv 1), .int (iv 2), .int (iv 3)])), (a 1, .inl (cI, 1600, .inl (av 1)))] s.heap := hP
  have hl := lv_entry ([.ref h0, .int x1, .int x2, .int x3, .int x4, .int x5]) (n := 8) (Nat.le_of_ble_eq_true rfl)
  rw [lg_entry_eq]
  generalize (lg_sl ([.ref h0, .int x1, .int x2, .int x3, .int x4, .int x5]) ++ List.replicate (8 - (lg_sl ([.ref h0, .int x1, .int x2, .int x3, .int x4, .int x5])).length) Slot.unset).toArray = ls at hl ⊢
  have hl : lv_has ls 8 [(0, .ref h0), (1, .int x1), (2, .int x2), (3, .int x3), (4, .int x4), (5, .int x5)] := hl
  refine lv_iload_n hx hb dX8_depth_0 rfl (lv_at hl 1 rfl) ?_
  refine lv_iload_n hx hb dX8_depth_1 rfl (lv_at hl 2 rfl) ?_
  refine vp_callSi (va_Run.run (va_runS (As := [.int x1, .int x2]) (rest := []) ⟨hx, hb, hml, hown, hts⟩ (k_X8_isPlace l x1 x2) (va_cwS 2 hts gX8_depth_X8_isPlace rfl rfl rfl (by decide +kernel) ⟨Nat.le_of_ble_eq_true rfl, Nat.le_of_ble_eq_true rfl⟩) preEq rfl rfl hl.1 rfl (lv_room (Nat.le_of_ble_eq_true rfl)) dX8_depth_2 ⟨Nat.le_of_ble_eq_true rfl, Nat.le_of_ble_eq_true rfl⟩)) (fun r_1 h_1 => ?_)
  rcases h_1 with ⟨rfl, h_1⟩ | ⟨rfl, h_1⟩
  · refine lv_if_eq (tgt := 40) hx hb dX8_depth_5 (by decide) (fun c_2 => False.elim (by revert c_2; decide)) (fun _ => ?_)
    refine lv_iload_n hx hb dX8_depth_8 rfl (lv_at hl 3 rfl) ?_
    refine lv_iload hx hb dX8_depth_9 (lv_at hl 4 rfl) ?_
    refine vp_callSi (va_Run.run (va_runS (As := [.int x3, .int x4]) (rest := []) ⟨hx, hb, hml, hown, hts⟩ (k_X8_isPlace l x3 x4) (va_cwS 2 hts gX8_depth_X8_isPlace rfl rfl rfl (by decide +kernel) ⟨Nat.le_of_ble_eq_true rfl, Nat.le_of_ble_eq_true rfl⟩) preEq rfl rfl hl.1 rfl (lv_room (Nat.le_of_ble_eq_true rfl)) dX8_depth_11 ⟨Nat.le_of_ble_eq_true rfl, Nat.le_of_ble_eq_true rfl⟩)) (fun r_3 h_3 => ?_)
    rcases h_3 with ⟨rfl, h_3⟩ | ⟨rfl, h_3⟩
    · refine lv_if_eq (tgt := 40) hx hb dX8_depth_14 (by decide) (fun c_4 => False.elim (by revert c_4; decide)) (fun _ => ?_)
      refine lv_iload_n hx hb dX8_depth_17 rfl (lv_at hl 1 rfl) ?_
      refine lv_iload_n hx hb dX8_depth_18 rfl (lv_at hl 3 rfl) ?_
      refine lv_icmp_gt (tgt := 40) hx hb dX8_depth_19 (by decide) (fun c_5 => ?_) (fun c_5 => ?_)
      · refine lv_iconst (v := 0) hx hb dX8_depth_40 (by decide) ?_
        have hP9 := hP.sub (ws' := [(h0, .inr (8, [.ref (a 1), .ref (a 2), .ref (a 3), .ref (a 4), .ref (a 5), .ref (a 6), .ref (a 7), .ref (a 8), .int (iv 0), .int (iv 1), .int (iv 2), .int (iv 3)])), (a 1, .inl (cI, 1600, .inl (av 1)))]) [0, 1] rfl
        have hD9 := hD.sub (ws' := [(h0, .inr (8, [.ref (a 1), .ref (a 2), .ref (a 3), .ref (a 4), .ref (a 5), .ref (a 6), .ref (a 7), .ref (a 8), .int (iv 0), .int (iv 1), .int (iv 2), .int (iv 3)])), (a 1, .inl (cI, 1600, .inl (av 1)))]) [0, 1] (by decide) rfl
        exact W.zret (v := 0) hx hb hr rfl (fun t ht hW => ⟨⟨0, (iv 3, av 1), rfl, (Or.inr ⟨rfl, fun h9 => h9.2.2.1 c_5⟩), ⟨by rw [ht]; exact hP9, hD9⟩⟩, hS.F ht⟩) hS.2.2 dX8_depth_41
      refine lv_iload_n hx hb dX8_depth_22 rfl (lv_at hl 2 rfl) ?_
      refine lv_iload hx hb dX8_depth_23 (lv_at hl 4 rfl) ?_
      refine lv_icmp_gt (tgt := 40) hx hb dX8_depth_25 (by decide) (fun c_6 => ?_) (fun c_6 => ?_)
      · refine lv_iconst (v := 0) hx hb dX8_depth_40 (by decide) ?_
        have hP9 := hP.sub (ws' := [(h0, .inr (8, [.ref (a 1), .ref (a 2), .ref (a 3), .ref (a 4), .ref (a 5), .ref (a 6), .ref (a 7), .ref (a 8), .int (iv 0), .int (iv 1), .int (iv 2), .int (iv 3)])), (a 1, .inl (cI, 1600, .inl (av 1)))]) [0, 1] rfl
        have hD9 := hD.sub (ws' := [(h0, .inr (8, [.ref (a 1), .ref (a 2), .ref (a 3), .ref (a 4), .ref (a 5), .ref (a 6), .ref (a 7), .ref (a 8), .int (iv 0), .int (iv 1), .int (iv 2), .int (iv 3)])), (a 1, .inl (cI, 1600, .inl (av 1)))]) [0, 1] (by decide) rfl
        exact W.zret (v := 0) hx hb hr rfl (fun t ht hW => ⟨⟨0, (iv 3, av 1), rfl, (Or.inr ⟨rfl, fun h9 => h9.2.2.2.1 c_6⟩), ⟨by rw [ht]; exact hP9, hD9⟩⟩, hS.F ht⟩) hS.2.2 dX8_depth_41
      refine lv_iload hx hb dX8_depth_28 (lv_at hl 5 rfl) ?_
      refine lv_iconst (v := 0) hx hb dX8_depth_30 (by decide) ?_
      refine lv_sipush (v := 200) hx hb dX8_depth_31 (by decide) ?_
      refine vp_callSi (va_Run.run (va_runS (As := [.int x5, .int 0, .int 200]) (rest := []) ⟨hx, hb, hml, hown, hts⟩ (k_X8_within l x5 0 200) (va_cwS 3 hts gX8_depth_X8_within rfl rfl rfl (by decide +kernel) ⟨Nat.le_of_ble_eq_true rfl, Nat.le_of_ble_eq_true rfl⟩) preEq rfl rfl hl.1 rfl (lv_room (Nat.le_of_ble_eq_true rfl)) dX8_depth_34 ⟨Nat.le_of_ble_eq_true rfl, Nat.le_of_ble_eq_true rfl⟩)) (fun r_7 h_7 => ?_)
      rcases h_7 with ⟨rfl, h_7⟩ | ⟨rfl, h_7⟩
      · refine lv_if_ne (tgt := 42) hx hb dX8_depth_37 (by decide) (fun _ => ?_) (fun c_8 => False.elim (by revert c_8; decide))
        obtain ⟨dx, dy, hdx, hdy, rfl, rfl⟩ := place_n h_1
        obtain ⟨dp, dq, hp_, hq_, rfl, rfl⟩ := place_n h_3
        have hxp : dx ≤ dp := Nat.le_of_not_lt (fun q => c_5 ((nI_ltI (by omega) (by omega)).mpr q))
        have hyq : dy ≤ dq := Nat.le_of_not_lt (fun q => c_6 ((nI_ltI (by omega) (by omega)).mpr q))
        have hl : lv_has ls 8 [(0, .ref h0), (1, .int (nI dx)), (2, .int (nI dy)), (3, .int (nI dp)), (4, .int (nI dq)), (5, .int x5)] := hl
        refine lv_iload_n hx hb dX8_depth_42 rfl (lv_at hl 2 rfl) ?_
        refine lv_istore (lv' := [(6, .int (nI dy)), (0, .ref h0), (1, .int (nI dx)), (2, .int (nI dy)), (3, .int (nI dp)), (4, .int (nI dq)), (5, .int x5)]) hx hb dX8_depth_43 hl (by decide) rfl (fun ls hl => ?_)
        refine lp_X8_depthO hx hb hml hts hown hG hA hp_ hq_ hxp ((dq + 1) + 1) dy (av 1) (by omega) (by omega) _ _ _ hP hD hS (lv_sub hl [0, 1, 2, 3, 4, 5, 6] rfl) (fun f1_9 H locs ls  hP hD hS hl => ?_)
        refine lv_aload_n hx hb dX8_depth_88 rfl (lv_at hl 0 rfl) ?_
        refine lv_iconst (v := 0) hx hb dX8_depth_89 (by decide) ?_
        refine va_put (D := D) (ci := 8) (v := .int 0) (ty := (tyX8 11)) (C := RX8) (T := TX8) (N := 12) hx hb hts (fun _ h9 => List.mem_cons_of_mem _ (List.mem_append_right _ h9)) tyX8 tyX8_ok nmX8 hown hK hP hD hS 0 rfl rfl 11 (by decide) (hts (.fieldLink RX8 65 "BuoyTender" "planned" "Z") (by decide +kernel)) (fun _ h9 => h9) rfl (by decide +kernel) rfl rfl (Nat.le_of_ble_eq_true rfl) dX8_depth_90 (fun H locs hP hD hS => ?_)
        have hP : va_P D vwCl [(h0, .inr (8, [.ref (a 1), .ref (a 2), .ref (a 3), .ref (a 4), .ref (a 5), .ref (a 6), .ref (a 7), .ref (a 8), .int (iv 0), .int (iv 1), .int (iv 2), .int 0])), (a 1, .inl (cI, 1600, .inl f1_9))] H := hP
        have hD : va_D A [(h0, .inr (8, [.ref (a 1), .ref (a 2), .ref (a 3), .ref (a 4), .ref (a 5), .ref (a 6), .ref (a 7), .ref (a 8), .int (iv 0), .int (iv 1), .int (iv 2), .int 0])), (a 1, .inl (cI, 1600, .inl f1_9))] := hD
        refine lv_iconst (v := 1) hx hb dX8_depth_93 (by decide) ?_
        have hP9 := hP.sub (ws' := [(h0, .inr (8, [.ref (a 1), .ref (a 2), .ref (a 3), .ref (a 4), .ref (a 5), .ref (a 6), .ref (a 7), .ref (a 8), .int (iv 0), .int (iv 1), .int (iv 2), .int 0])), (a 1, .inl (cI, 1600, .inl f1_9))]) [0, 1] rfl
        have hD9 := hD.sub (ws' := [(h0, .inr (8, [.ref (a 1), .ref (a 2), .ref (a 3), .ref (a 4), .ref (a 5), .ref (a 6), .ref (a 7), .ref (a 8), .int (iv 0), .int (iv 1), .int (iv 2), .int 0])), (a 1, .inl (cI, 1600, .inl f1_9))]) [0, 1] (by decide) rfl
        exact W.zret (v := 1) hx hb hr rfl (fun t ht hW => ⟨⟨1, (0, f1_9), rfl, (Or.inl ⟨rfl, ⟨h_1, h_3, c_5, c_6, h_7⟩⟩), ⟨by rw [ht]; exact hP9, hD9⟩⟩, hS.F ht⟩) hS.2.2 dX8_depth_94
      refine lv_if_ne (tgt := 42) hx hb dX8_depth_37 (by decide) (fun c_10 => False.elim (by revert c_10; decide)) (fun _ => ?_)
      refine lv_iconst (v := 0) hx hb dX8_depth_40 (by decide) ?_
      have hP9 := hP.sub (ws' := [(h0, .inr (8, [.ref (a 1), .ref (a 2), .ref (a 3), .ref (a 4), .ref (a 5), .ref (a 6), .ref (a 7), .ref (a 8), .int (iv 0), .int (iv 1), .int (iv 2), .int (iv 3)])), (a 1, .inl (cI, 1600, .inl (av 1)))]) [0, 1] rfl
      have hD9 := hD.sub (ws' := [(h0, .inr (8, [.ref (a 1), .ref (a 2), .ref (a 3), .ref (a 4), .ref (a 5), .ref (a 6), .ref (a 7), .ref (a 8), .int (iv 0), .int (iv 1), .int (iv 2), .int (iv 3)])), (a 1, .inl (cI, 1600, .inl (av 1)))]) [0, 1] (by decide) rfl
      exact W.zret (v := 0) hx hb hr rfl (fun t ht hW => ⟨⟨0, (iv 3, av 1), rfl, (Or.inr ⟨rfl, fun h9 => h_7 (h9.2.2.2.2)⟩), ⟨by rw [ht]; exact hP9, hD9⟩⟩, hS.F ht⟩) hS.2.2 dX8_depth_41
    refine lv_if_eq (tgt := 40) hx hb dX8_depth_14 (by decide) (fun _ => ?_) (fun c_11 => False.elim (by revert c_11; decide))
    refine lv_iconst (v := 0) hx hb dX8_depth_40 (by decide) ?_
    have hP9 := hP.sub (ws' := [(h0, .inr (8, [.ref (a 1), .ref (a 2), .ref (a 3), .ref (a 4), .ref (a 5), .ref (a 6), .ref (a 7), .ref (a 8), .int (iv 0), .int (iv 1), .int (iv 2), .int (iv 3)])), (a 1, .inl (cI, 1600, .inl (av 1)))]) [0, 1] rfl
    have hD9 := hD.sub (ws' := [(h0, .inr (8, [.ref (a 1), .ref (a 2), .ref (a 3), .ref (a 4), .ref (a 5), .ref (a 6), .ref (a 7), .ref (a 8), .int (iv 0), .int (iv 1), .int (iv 2), .int (iv 3)])), (a 1, .inl (cI, 1600, .inl (av 1)))]) [0, 1] (by decide) rfl
    exact W.zret (v := 0) hx hb hr rfl (fun t ht hW => ⟨⟨0, (iv 3, av 1), rfl, (Or.inr ⟨rfl, fun h9 => h_3 (h9.2.1)⟩), ⟨by rw [ht]; exact hP9, hD9⟩⟩, hS.F ht⟩) hS.2.2 dX8_depth_41
  refine lv_if_eq (tgt := 40) hx hb dX8_depth_5 (by decide) (fun _ => ?_) (fun c_12 => False.elim (by revert c_12; decide))
  refine lv_iconst (v := 0) hx hb dX8_depth_40 (by decide) ?_
  have hP9 := hP.sub (ws' := [(h0, .inr (8, [.ref (a 1), .ref (a 2), .ref (a 3), .ref (a 4), .ref (a 5), .ref (a 6), .ref (a 7), .ref (a 8), .int (iv 0), .int (iv 1), .int (iv 2), .int (iv 3)])), (a 1, .inl (cI, 1600, .inl (av 1)))]) [0, 1] rfl
  have hD9 := hD.sub (ws' := [(h0, .inr (8, [.ref (a 1), .ref (a 2), .ref (a 3), .ref (a 4), .ref (a 5), .ref (a 6), .ref (a 7), .ref (a 8), .int (iv 0), .int (iv 1), .int (iv 2), .int (iv 3)])), (a 1, .inl (cI, 1600, .inl (av 1)))]) [0, 1] (by decide) rfl
  exact W.zret (v := 0) hx hb hr rfl (fun t ht hW => ⟨⟨0, (iv 3, av 1), rfl, (Or.inr ⟨rfl, fun h9 => h_1 (h9.1)⟩), ⟨by rw [ht]; exact hP9, hD9⟩⟩, hS.F ht⟩) hS.2.2 dX8_depth_41
set_option maxHeartbeats 4000000 in
set_option maxRecDepth 100000 in
/-- X6_count -/
theorem k_X6_count (l : Launch) (D : va_G) (cI cJ cZ cM : Nat) (a : Nat → Nat) (iv : Nat → Int32) (av : Nat → Nat → Int32) (ma : Nat → Nat → Nat) (mv : Nat → Nat → Int32) (mso : Nat → Nat → Int64) (mrs : Nat → Nat → Int32) (n0 : Nat) (fM : Nat → Option Nat) (m_ : Nat) (hm_ : m_ < n0) (x1 : Int32) (x2 : Int32) (sz : Nat) : Met l yX6_count wsX6_count ({ frames := 1, cells := 0, slots := 0, locals := 40 } : Room) (RW D cI cJ cZ cM [.ref (a 7), .ref (ma m_ 0), .int x1, .int x2] ([(a 7, .inr (6, [.int (iv 13), .int (iv 14), .int (iv 15), .int (iv 16), .int (iv 17), .int (iv 18)]))] ++ MG cI cJ ma mv mso mrs n0) sz) (va_Qv (S := Int32 × Int32 × Int32 × Int32 × Int32 × Int32) (fun u => True) (BB D (fun u => [(a 7, .inr (6, [.int u.1, .int u.2.1, .int u.2.2.1, .int u.2.2.2.1, .int u.2.2.2.2.1, .int u.2.2.2.2.2]))] ++ MG cI cJ ma mv mso mrs n0) (va_A ([(a 7, .inr (6, [.int (iv 13), .int (iv 14), .int (iv 15), .int (iv 16), .int (iv 17), .int (iv 18)]))] ++ MG cI cJ ma mv mso mrs n0) sz)) (va_A ([(a 7, .inr (6, [.int (iv 13), .int (iv 14), .int (iv 15), .int (iv 16), .int (iv 17), .int (iv 18)]))] ++ MG cI cJ ma mv mso mrs n0) sz)) 0 0 (va_A ([(a 7, .inr (6, [.int (iv 13), .int (iv 14), .int (iv 15), .int (iv 16), .int (iv 17), .int (iv 18)]))] ++ MG cI cJ ma mv mso mrs n0) sz) := by
  refine Met.ofW (cc := cX6_count) (maxL := 4) (ret := none) (by decide) rfl ?_
  intro p e s m args below meth c s₁ B hml hv
  obtain ⟨rfl, hsz, hG, hP, hD0⟩ := hv
  have hx := B.exec
  have hb := B.bytes
  have hr := B.returns
  have hts := atoms_spec (ws := wsX6_count) B.pre
  have hown : s.vm.findClass RX6 = some m.cls := findClass_of_methodNamed B.named
  have hlocks := B.notSynchronized
  have hK := hG.1
  have hN := hG.2
  subst hsz
  have hD := hD0.self (sz := s.heap.size)
  generalize hAe : va_A ([(a 7, .inr (6, [.int (iv 13), .int (iv 14), .int (iv 15), .int (iv 16), .int (iv 17), .int (iv 18)]))] ++ MG cI cJ ma mv mso mrs n0) s.heap.size = A at hD ⊢
  have hA : ∀ q : Nat, s.heap.size ≤ q → A q := fun q h => by rw [← hAe]; exact Or.inr h
  have hS : va_S A s.heap s.heap [] := va_S.rf
  have hP : va_P D vwCl ([(a 7, .inr (6, [.int (iv 13), .int (iv 14), .int (iv 15), .int (iv 16), .int (iv 17), .int (iv 18)]))] ++ MG cI cJ ma mv mso mrs n0) s.heap := hP
  have hl := lv_entry ([.ref (a 7), .ref (ma m_ 0), .int x1, .int x2]) (n := 4) (Nat.le_of_ble_eq_true rfl)
  rw [lg_entry_eq]
  generalize (lg_sl ([.ref (a 7), .ref (ma m_ 0), .int x1, .int x2]) ++ List.replicate (4 - (lg_sl ([.ref (a 7), .ref (ma m_ 0), .int x1, .int x2])).length) Slot.unset).toArray = ls at hl ⊢
  have hl : lv_has ls 4 [(0, .ref (a 7)), (1, .ref (ma m_ 0)), (2, .int x1), (3, .int x2)] := hl
  refine lv_aload_n hx hb dX6_count_0 rfl (lv_at hl 0 rfl) ?_
  refine lv_aload_n hx hb dX6_count_1 rfl (lv_at hl 0 rfl) ?_
  refine va_get (D := D) (ci := 6) (v := .int (iv 13)) (C := RX6) (T := TX6) (N := 6) hx hb hts (fun _ h9 => List.mem_cons_of_mem _ (List.mem_append_left _ (List.mem_append_right _ h9))) hown hK hP 0 rfl rfl 0 (by decide) (hts (.fieldLink RX6 9 "BuoyTender$Survey" "left" "I") (by decide +kernel)) (fun _ h9 => h9) rfl dX6_count_2 ?_
  refine lv_if_ne (tgt := 12) hx hb dX6_count_5 (by decide) (fun c_1 => ?_) (fun c_1 => ?_)
  · refine lv_aload_n hx hb dX6_count_12 rfl (lv_at hl 0 rfl) ?_
    refine va_get (D := D) (ci := 6) (v := .int (iv 15)) (C := RX6) (T := TX6) (N := 6) hx hb hts (fun _ h9 => List.mem_cons_of_mem _ (List.mem_append_left _ (List.mem_append_right _ h9))) hown hK hP 0 rfl rfl 2 (by decide) (hts (.fieldLink RX6 18 "BuoyTender$Survey" "leastX" "I") (by decide +kernel)) (fun _ h9 => h9) rfl dX6_count_13 ?_
    refine lv_iload_n hx hb dX6_count_16 rfl (lv_at hl 2 rfl) ?_
    refine va_mmin hx hb (hml.trans hl.1.symm) hown (hts (.methodLink RX6 52 Lib.Math.min.name) (by decide +kernel)) (hts (.static Lib.Math.min.name) (by decide +kernel)) (hts (.initialized "java/lang/Math") (by decide +kernel)) (hts (.code Lib.Math.min.name Lib.Math.min.code 2 (some .int)) (by decide +kernel)) (Nat.le_of_ble_eq_true rfl) (Nat.le_of_ble_eq_true rfl) (Nat.le_of_ble_eq_true rfl) (Nat.le_of_ble_eq_true rfl) dX6_count_17 ?_
    refine lv_topi (fun z_2 ez_2 => ?_)
    refine va_put (D := D) (ci := 6) (v := .int z_2) (ty := (tyX6 2)) (C := RX6) (T := TX6) (N := 6) hx hb hts (fun _ h9 => List.mem_cons_of_mem _ (List.mem_append_left _ (List.mem_append_right _ h9))) tyX6 tyX6_ok nmX6 hown hK hP hD hS 0 rfl rfl 2 (by decide) (hts (.fieldLink RX6 18 "BuoyTender$Survey" "leastX" "I") (by decide +kernel)) (fun _ h9 => h9) rfl (by decide +kernel) rfl rfl (Nat.le_of_ble_eq_true rfl) dX6_count_20 (fun H locs hP hD hS => ?_)
    have hP : va_P D vwCl ([(a 7, .inr (6, [.int (iv 13), .int (iv 14), .int z_2, .int (iv 16), .int (iv 17), .int (iv 18)]))] ++ MG cI cJ ma mv mso mrs n0) H := hP
    have hD : va_D A ([(a 7, .inr (6, [.int (iv 13), .int (iv 14), .int z_2, .int (iv 16), .int (iv 17), .int (iv 18)]))] ++ MG cI cJ ma mv mso mrs n0) := hD
    refine lv_aload_n hx hb dX6_count_23 rfl (lv_at hl 0 rfl) ?_
    refine lv_aload_n hx hb dX6_count_24 rfl (lv_at hl 0 rfl) ?_
    refine va_get (D := D) (ci := 6) (v := .int (iv 13)) (C := RX6) (T := TX6) (N := 6) hx hb hts (fun _ h9 => List.mem_cons_of_mem _ (List.mem_append_left _ (List.mem_append_right _ h9))) hown hK hP 0 rfl rfl 0 (by decide) (hts (.fieldLink RX6 9 "BuoyTender$Survey" "left" "I") (by decide +kernel)) (fun _ h9 => h9) rfl dX6_count_25 ?_
    refine lv_if_ne (tgt := 35) hx hb dX6_count_28 (by decide) (fun c_3 => ?_) (fun c_3 => ?_)
    · refine lv_aload_n hx hb dX6_count_35 rfl (lv_at hl 0 rfl) ?_
      refine va_get (D := D) (ci := 6) (v := .int (iv 16)) (C := RX6) (T := TX6) (N := 6) hx hb hts (fun _ h9 => List.mem_cons_of_mem _ (List.mem_append_left _ (List.mem_append_right _ h9))) hown hK hP 0 rfl rfl 3 (by decide) (hts (.fieldLink RX6 21 "BuoyTender$Survey" "leastY" "I") (by decide +kernel)) (fun _ h9 => h9) rfl dX6_count_36 ?_
      refine lv_iload_n hx hb dX6_count_39 rfl (lv_at hl 3 rfl) ?_
      refine va_mmin hx hb (hml.trans hl.1.symm) hown (hts (.methodLink RX6 52 Lib.Math.min.name) (by decide +kernel)) (hts (.static Lib.Math.min.name) (by decide +kernel)) (hts (.initialized "java/lang/Math") (by decide +kernel)) (hts (.code Lib.Math.min.name Lib.Math.min.code 2 (some .int)) (by decide +kernel)) (Nat.le_of_ble_eq_true rfl) (Nat.le_of_ble_eq_true rfl) (Nat.le_of_ble_eq_true rfl) (Nat.le_of_ble_eq_true rfl) dX6_count_40 ?_
      refine lv_topi (fun z_4 ez_4 => ?_)
      refine va_put (D := D) (ci := 6) (v := .int z_4) (ty := (tyX6 3)) (C := RX6) (T := TX6) (N := 6) hx hb hts (fun _ h9 => List.mem_cons_of_mem _ (List.mem_append_left _ (List.mem_append_right _ h9))) tyX6 tyX6_ok nmX6 hown hK hP hD hS 0 rfl rfl 3 (by decide) (hts (.fieldLink RX6 21 "BuoyTender$Survey" "leastY" "I") (by decide +kernel)) (fun _ h9 => h9) rfl (by decide +kernel) rfl rfl (Nat.le_of_ble_eq_true rfl) dX6_count_43 (fun H locs hP hD hS => ?_)
      have hP : va_P D vwCl ([(a 7, .inr (6, [.int (iv 13), .int (iv 14), .int z_2, .int z_4, .int (iv 17), .int (iv 18)]))] ++ MG cI cJ ma mv mso mrs n0) H := hP
      have hD : va_D A ([(a 7, .inr (6, [.int (iv 13), .int (iv 14), .int z_2, .int z_4, .int (iv 17), .int (iv 18)]))] ++ MG cI cJ ma mv mso mrs n0) := hD
      refine lv_aload_n hx hb dX6_count_46 rfl (lv_at hl 0 rfl) ?_
      refine lv_aload_n hx hb dX6_count_47 rfl (lv_at hl 0 rfl) ?_
      refine va_get (D := D) (ci := 6) (v := .int (iv 17)) (C := RX6) (T := TX6) (N := 6) hx hb hts (fun _ h9 => List.mem_cons_of_mem _ (List.mem_append_left _ (List.mem_append_right _ h9))) hown hK hP 0 rfl rfl 4 (by decide) (hts (.fieldLink RX6 24 "BuoyTender$Survey" "mostX" "I") (by decide +kernel)) (fun _ h9 => h9) rfl dX6_count_48 ?_
      refine lv_iload_n hx hb dX6_count_51 rfl (lv_at hl 2 rfl) ?_
      refine va_mmax hx hb (hml.trans hl.1.symm) hown (hts (.methodLink RX6 58 Lib.Math.max.name) (by decide +kernel)) (hts (.static Lib.Math.max.name) (by decide +kernel)) (hts (.initialized "java/lang/Math") (by decide +kernel)) (hts (.code Lib.Math.max.name Lib.Math.max.code 2 (some .int)) (by decide +kernel)) (Nat.le_of_ble_eq_true rfl) (Nat.le_of_ble_eq_true rfl) (Nat.le_of_ble_eq_true rfl) (Nat.le_of_ble_eq_true rfl) dX6_count_52 ?_
      refine lv_topi (fun z_5 ez_5 => ?_)
      refine va_put (D := D) (ci := 6) (v := .int z_5) (ty := (tyX6 4)) (C := RX6) (T := TX6) (N := 6) hx hb hts (fun _ h9 => List.mem_cons_of_mem _ (List.mem_append_left _ (List.mem_append_right _ h9))) tyX6 tyX6_ok nmX6 hown hK hP hD hS 0 rfl rfl 4 (by decide) (hts (.fieldLink RX6 24 "BuoyTender$Survey" "mostX" "I") (by decide +kernel)) (fun _ h9 => h9) rfl (by decide +kernel) rfl rfl (Nat.le_of_ble_eq_true rfl) dX6_count_55 (fun H locs hP hD hS => ?_)
      have hP : va_P D vwCl ([(a 7, .inr (6, [.int (iv 13), .int (iv 14), .int z_2, .int z_4, .int z_5, .int (iv 18)]))] ++ MG cI cJ ma mv mso mrs n0) H := hP
      have hD : va_D A ([(a 7, .inr (6, [.int (iv 13), .int (iv 14), .int z_2, .int z_4, .int z_5, .int (iv 18)]))] ++ MG cI cJ ma mv mso mrs n0) := hD
      refine lv_aload_n hx hb dX6_count_58 rfl (lv_at hl 0 rfl) ?_
      refine lv_aload_n hx hb dX6_count_59 rfl (lv_at hl 0 rfl) ?_
      refine va_get (D := D) (ci := 6) (v := .int (iv 18)) (C := RX6) (T := TX6) (N := 6) hx hb hts (fun _ h9 => List.mem_cons_of_mem _ (List.mem_append_left _ (List.mem_append_right _ h9))) hown hK hP 0 rfl rfl 5 (by decide) (hts (.fieldLink RX6 27 "BuoyTender$Survey" "mostY" "I") (by decide +kernel)) (fun _ h9 => h9) rfl dX6_count_60 ?_
      refine lv_iload_n hx hb dX6_count_63 rfl (lv_at hl 3 rfl) ?_
      refine va_mmax hx hb (hml.trans hl.1.symm) hown (hts (.methodLink RX6 58 Lib.Math.max.name) (by decide +kernel)) (hts (.static Lib.Math.max.name) (by decide +kernel)) (hts (.initialized "java/lang/Math") (by decide +kernel)) (hts (.code Lib.Math.max.name Lib.Math.max.code 2 (some .int)) (by decide +kernel)) (Nat.le_of_ble_eq_true rfl) (Nat.le_of_ble_eq_true rfl) (Nat.le_of_ble_eq_true rfl) (Nat.le_of_ble_eq_true rfl) dX6_count_64 ?_
      refine lv_topi (fun z_6 ez_6 => ?_)
      refine va_put (D := D) (ci := 6) (v := .int z_6) (ty := (tyX6 5)) (C := RX6) (T := TX6) (N := 6) hx hb hts (fun _ h9 => List.mem_cons_of_mem _ (List.mem_append_left _ (List.mem_append_right _ h9))) tyX6 tyX6_ok nmX6 hown hK hP hD hS 0 rfl rfl 5 (by decide) (hts (.fieldLink RX6 27 "BuoyTender$Survey" "mostY" "I") (by decide +kernel)) (fun _ h9 => h9) rfl (by decide +kernel) rfl rfl (Nat.le_of_ble_eq_true rfl) dX6_count_67 (fun H locs hP hD hS => ?_)
      have hP : va_P D vwCl ([(a 7, .inr (6, [.int (iv 13), .int (iv 14), .int z_2, .int z_4, .int z_5, .int z_6]))] ++ MG cI cJ ma mv mso mrs n0) H := hP
      have hD : va_D A ([(a 7, .inr (6, [.int (iv 13), .int (iv 14), .int z_2, .int z_4, .int z_5, .int z_6]))] ++ MG cI cJ ma mv mso mrs n0) := hD
      refine lv_aload_n hx hb dX6_count_70 rfl (lv_at hl 0 rfl) ?_
      refine lv_dup hx hb dX6_count_71 rfl ?_
      refine va_get (D := D) (ci := 6) (v := .int (iv 13)) (C := RX6) (T := TX6) (N := 6) hx hb hts (fun _ h9 => List.mem_cons_of_mem _ (List.mem_append_left _ (List.mem_append_right _ h9))) hown hK hP 0 rfl rfl 0 (by decide) (hts (.fieldLink RX6 9 "BuoyTender$Survey" "left" "I") (by decide +kernel)) (fun _ h9 => h9) rfl dX6_count_72 ?_
      refine lv_iconst (v := 1) hx hb dX6_count_75 (by decide) ?_
      refine lv_iadd hx hb dX6_count_76 ?_
      refine va_put (D := D) (ci := 6) (v := .int ((iv 13) + 1)) (ty := (tyX6 0)) (C := RX6) (T := TX6) (N := 6) hx hb hts (fun _ h9 => List.mem_cons_of_mem _ (List.mem_append_left _ (List.mem_append_right _ h9))) tyX6 tyX6_ok nmX6 hown hK hP hD hS 0 rfl rfl 0 (by decide) (hts (.fieldLink RX6 9 "BuoyTender$Survey" "left" "I") (by decide +kernel)) (fun _ h9 => h9) rfl (by decide +kernel) rfl rfl (Nat.le_of_ble_eq_true rfl) dX6_count_77 (fun H locs hP hD hS => ?_)
      have hP : va_P D vwCl ([(a 7, .inr (6, [.int ((iv 13) + 1), .int (iv 14), .int z_2, .int z_4, .int z_5, .int z_6]))] ++ MG cI cJ ma mv mso mrs n0) H := hP
      have hD : va_D A ([(a 7, .inr (6, [.int ((iv 13) + 1), .int (iv 14), .int z_2, .int z_4, .int z_5, .int z_6]))] ++ MG cI cJ ma mv mso mrs n0) := hD
      refine lv_iload_n hx hb dX6_count_80 rfl (lv_at hl 2 rfl) ?_
      refine lv_iload_n hx hb dX6_count_81 rfl (lv_at hl 3 rfl) ?_
      refine lv_aload_n hx hb dX6_count_82 rfl (lv_at hl 1 rfl) ?_
      refine va_getN (D := D) (ci := 1) (v := .int (mv m_ 0)) (C := RX1) (T := TX1) (N := 9) hx hb hts (fun _ h9 => List.mem_cons_of_mem _ (List.mem_append_right _ h9)) hown hK hP (1 + (6 * m_ + 0)) (mg_x0 rfl hm_) rfl 0 (by decide) (va_Nw.use rfl (hN.1 (RX6, 61, "BuoyTender$Mark", "x", "I", "BuoyTender") (by decide +kernel))) (fun _ h9 => h9) rfl dX6_count_83 ?_
      refine lv_aload_n hx hb dX6_count_86 rfl (lv_at hl 1 rfl) ?_
      refine va_getN (D := D) (ci := 1) (v := .int (mv m_ 1)) (C := RX1) (T := TX1) (N := 9) hx hb hts (fun _ h9 => List.mem_cons_of_mem _ (List.mem_append_right _ h9)) hown hK hP (1 + (6 * m_ + 0)) (mg_x0 rfl hm_) rfl 1 (by decide) (va_Nw.use rfl (hN.1 (RX6, 64, "BuoyTender$Mark", "y", "I", "BuoyTender") (by decide +kernel))) (fun _ h9 => h9) rfl dX6_count_87 ?_
      refine vp_callSi (va_Run.run (va_runSN (As := [.int x1, .int x2, .int (mv m_ 0), .int (mv m_ 1)]) (rest := []) ⟨hx, hb, hml, hown, hts⟩ (k_X8_squareBetween l x1 x2 (mv m_ 0) (mv m_ 1)) ⟨(va_cnB 4 hts gX6_count_X8_squareBetween_n67 rfl rfl rfl (hN.2.1 (RX6, 67, yX8_squareBetween, "BuoyTender") (by decide +kernel)) (hts (.initialized RX8) (by decide +kernel)) (by decide +kernel) ⟨Nat.le_of_ble_eq_true rfl, Nat.le_of_ble_eq_true rfl⟩), hts (.static yX8_squareBetween) (by decide +kernel), trivial⟩ preEq rfl rfl hl.1 rfl (lv_room (Nat.le_of_ble_eq_true rfl)) dX6_count_90 ⟨Nat.le_of_ble_eq_true rfl, Nat.le_of_ble_eq_true rfl⟩)) (fun r_7 h_7 => ?_)
      obtain rfl : r_7 = (x1 - (mv m_ 0)) * (x1 - (mv m_ 0)) + (x2 - (mv m_ 1)) * (x2 - (mv m_ 1)) := h_7
      refine lv_aload_n hx hb dX6_count_93 rfl (lv_at hl 1 rfl) ?_
      refine va_getN (D := D) (ci := 1) (v := .int (mv m_ 2)) (C := RX1) (T := TX1) (N := 9) hx hb hts (fun _ h9 => List.mem_cons_of_mem _ (List.mem_append_right _ h9)) hown hK hP (1 + (6 * m_ + 0)) (mg_x0 rfl hm_) rfl 2 (by decide) (va_Nw.use rfl (hN.1 (RX6, 71, "BuoyTender$Mark", "radius", "I", "BuoyTender") (by decide +kernel))) (fun _ h9 => h9) rfl dX6_count_94 ?_
      refine lv_aload_n hx hb dX6_count_97 rfl (lv_at hl 1 rfl) ?_
      refine va_getN (D := D) (ci := 1) (v := .int (mv m_ 2)) (C := RX1) (T := TX1) (N := 9) hx hb hts (fun _ h9 => List.mem_cons_of_mem _ (List.mem_append_right _ h9)) hown hK hP (1 + (6 * m_ + 0)) (mg_x0 rfl hm_) rfl 2 (by decide) (va_Nw.use rfl (hN.1 (RX6, 71, "BuoyTender$Mark", "radius", "I", "BuoyTender") (by decide +kernel))) (fun _ h9 => h9) rfl dX6_count_98 ?_
      refine lv_imul hx hb dX6_count_101 ?_
      refine lv_icmp_gt (tgt := 115) hx hb dX6_count_102 (by decide) (fun c_8 => ?_) (fun c_8 => ?_)
      · have hP9 := hP.part (cx := [(a 7, .inr (6, [.int ((iv 13) + 1), .int (iv 14), .int z_2, .int z_4, .int z_5, .int z_6]))]) [0] rfl
        have hD9 := hD.part (cx := [(a 7, .inr (6, [.int ((iv 13) + 1), .int (iv 14), .int z_2, .int z_4, .int z_5, .int z_6]))]) [0] (by decide) rfl
        exact W.vret hx hb hr (fun t ht hW => ⟨⟨((iv 13) + 1, iv 14, z_2, z_4, z_5, z_6), rfl, trivial, ⟨by rw [ht]; exact hP9, hD9⟩⟩, hS.F ht⟩) hS.2.2 dX6_count_115
      refine lv_aload_n hx hb dX6_count_105 rfl (lv_at hl 0 rfl) ?_
      refine lv_dup hx hb dX6_count_106 rfl ?_
      refine va_get (D := D) (ci := 6) (v := .int (iv 14)) (C := RX6) (T := TX6) (N := 6) hx hb hts (fun _ h9 => List.mem_cons_of_mem _ (List.mem_append_left _ (List.mem_append_right _ h9))) hown hK hP 0 rfl rfl 1 (by decide) (hts (.fieldLink RX6 15 "BuoyTender$Survey" "inRadius" "I") (by decide +kernel)) (fun _ h9 => h9) rfl dX6_count_107 ?_
      refine lv_iconst (v := 1) hx hb dX6_count_110 (by decide) ?_
      refine lv_iadd hx hb dX6_count_111 ?_
      refine va_put (D := D) (ci := 6) (v := .int ((iv 14) + 1)) (ty := (tyX6 1)) (C := RX6) (T := TX6) (N := 6) hx hb hts (fun _ h9 => List.mem_cons_of_mem _ (List.mem_append_left _ (List.mem_append_right _ h9))) tyX6 tyX6_ok nmX6 hown hK hP hD hS 0 rfl rfl 1 (by decide) (hts (.fieldLink RX6 15 "BuoyTender$Survey" "inRadius" "I") (by decide +kernel)) (fun _ h9 => h9) rfl (by decide +kernel) rfl rfl (Nat.le_of_ble_eq_true rfl) dX6_count_112 (fun H locs hP hD hS => ?_)
      have hP : va_P D vwCl ([(a 7, .inr (6, [.int ((iv 13) + 1), .int ((iv 14) + 1), .int z_2, .int z_4, .int z_5, .int z_6]))] ++ MG cI cJ ma mv mso mrs n0) H := hP
      have hD : va_D A ([(a 7, .inr (6, [.int ((iv 13) + 1), .int ((iv 14) + 1), .int z_2, .int z_4, .int z_5, .int z_6]))] ++ MG cI cJ ma mv mso mrs n0) := hD
      have hP9 := hP.part (cx := [(a 7, .inr (6, [.int ((iv 13) + 1), .int ((iv 14) + 1), .int z_2, .int z_4, .int z_5, .int z_6]))]) [0] rfl
      have hD9 := hD.part (cx := [(a 7, .inr (6, [.int ((iv 13) + 1), .int ((iv 14) + 1), .int z_2, .int z_4, .int z_5, .int z_6]))]) [0] (by decide) rfl
      exact W.vret hx hb hr (fun t ht hW => ⟨⟨((iv 13) + 1, (iv 14) + 1, z_2, z_4, z_5, z_6), rfl, trivial, ⟨by rw [ht]; exact hP9, hD9⟩⟩, hS.F ht⟩) hS.2.2 dX6_count_115
    refine lv_iload_n hx hb dX6_count_31 rfl (lv_at hl 3 rfl) ?_
    refine lv_goto (tgt := 43) hx hb dX6_count_32 (by decide) ?_
    refine va_put (D := D) (ci := 6) (v := .int x2) (ty := (tyX6 3)) (C := RX6) (T := TX6) (N := 6) hx hb hts (fun _ h9 => List.mem_cons_of_mem _ (List.mem_append_left _ (List.mem_append_right _ h9))) tyX6 tyX6_ok nmX6 hown hK hP hD hS 0 rfl rfl 3 (by decide) (hts (.fieldLink RX6 21 "BuoyTender$Survey" "leastY" "I") (by decide +kernel)) (fun _ h9 => h9) rfl (by decide +kernel) rfl rfl (Nat.le_of_ble_eq_true rfl) dX6_count_43 (fun H locs hP hD hS => ?_)
    have hP : va_P D vwCl ([(a 7, .inr (6, [.int (iv 13), .int (iv 14), .int z_2, .int x2, .int (iv 17), .int (iv 18)]))] ++ MG cI cJ ma mv mso mrs n0) H := hP
    have hD : va_D A ([(a 7, .inr (6, [.int (iv 13), .int (iv 14), .int z_2, .int x2, .int (iv 17), .int (iv 18)]))] ++ MG cI cJ ma mv mso mrs n0) := hD
    refine lv_aload_n hx hb dX6_count_46 rfl (lv_at hl 0 rfl) ?_
    refine lv_aload_n hx hb dX6_count_47 rfl (lv_at hl 0 rfl) ?_
    refine va_get (D := D) (ci := 6) (v := .int (iv 17)) (C := RX6) (T := TX6) (N := 6) hx hb hts (fun _ h9 => List.mem_cons_of_mem _ (List.mem_append_left _ (List.mem_append_right _ h9))) hown hK hP 0 rfl rfl 4 (by decide) (hts (.fieldLink RX6 24 "BuoyTender$Survey" "mostX" "I") (by decide +kernel)) (fun _ h9 => h9) rfl dX6_count_48 ?_
    refine lv_iload_n hx hb dX6_count_51 rfl (lv_at hl 2 rfl) ?_
    refine va_mmax hx hb (hml.trans hl.1.symm) hown (hts (.methodLink RX6 58 Lib.Math.max.name) (by decide +kernel)) (hts (.static Lib.Math.max.name) (by decide +kernel)) (hts (.initialized "java/lang/Math") (by decide +kernel)) (hts (.code Lib.Math.max.name Lib.Math.max.code 2 (some .int)) (by decide +kernel)) (Nat.le_of_ble_eq_true rfl) (Nat.le_of_ble_eq_true rfl) (Nat.le_of_ble_eq_true rfl) (Nat.le_of_ble_eq_true rfl) dX6_count_52 ?_
    refine lv_topi (fun z_9 ez_9 => ?_)
    refine va_put (D := D) (ci := 6) (v := .int z_9) (ty := (tyX6 4)) (C := RX6) (T := TX6) (N := 6) hx hb hts (fun _ h9 => List.mem_cons_of_mem _ (List.mem_append_left _ (List.mem_append_right _ h9))) tyX6 tyX6_ok nmX6 hown hK hP hD hS 0 rfl rfl 4 (by decide) (hts (.fieldLink RX6 24 "BuoyTender$Survey" "mostX" "I") (by decide +kernel)) (fun _ h9 => h9) rfl (by decide +kernel) rfl rfl (Nat.le_of_ble_eq_true rfl) dX6_count_55 (fun H locs hP hD hS => ?_)
    have hP : va_P D vwCl ([(a 7, .inr (6, [.int (iv 13), .int (iv 14), .int z_2, .int x2, .int z_9, .int (iv 18)]))] ++ MG cI cJ ma mv mso mrs n0) H := hP
    have hD : va_D A ([(a 7, .inr (6, [.int (iv 13), .int (iv 14), .int z_2, .int x2, .int z_9, .int (iv 18)]))] ++ MG cI cJ ma mv mso mrs n0) := hD
    refine lv_aload_n hx hb dX6_count_58 rfl (lv_at hl 0 rfl) ?_
    refine lv_aload_n hx hb dX6_count_59 rfl (lv_at hl 0 rfl) ?_
    refine va_get (D := D) (ci := 6) (v := .int (iv 18)) (C := RX6) (T := TX6) (N := 6) hx hb hts (fun _ h9 => List.mem_cons_of_mem _ (List.mem_append_left _ (List.mem_append_right _ h9))) hown hK hP 0 rfl rfl 5 (by decide) (hts (.fieldLink RX6 27 "BuoyTender$Survey" "mostY" "I") (by decide +kernel)) (fun _ h9 => h9) rfl dX6_count_60 ?_
    refine lv_iload_n hx hb dX6_count_63 rfl (lv_at hl 3 rfl) ?_
    refine va_mmax hx hb (hml.trans hl.1.symm) hown (hts (.methodLink RX6 58 Lib.Math.max.name) (by decide +kernel)) (hts (.static Lib.Math.max.name) (by decide +kernel)) (hts (.initialized "java/lang/Math") (by decide +kernel)) (hts (.code Lib.Math.max.name Lib.Math.max.code 2 (some .int)) (by decide +kernel)) (Nat.le_of_ble_eq_true rfl) (Nat.le_of_ble_eq_true rfl) (Nat.le_of_ble_eq_true rfl) (Nat.le_of_ble_eq_true rfl) dX6_count_64 ?_
    refine lv_topi (fun z_10 ez_10 => ?_)
    refine va_put (D := D) (ci := 6) (v := .int z_10) (ty := (tyX6 5)) (C := RX6) (T := TX6) (N := 6) hx hb hts (fun _ h9 => List.mem_cons_of_mem _ (List.mem_append_left _ (List.mem_append_right _ h9))) tyX6 tyX6_ok nmX6 hown hK hP hD hS 0 rfl rfl 5 (by decide) (hts (.fieldLink RX6 27 "BuoyTender$Survey" "mostY" "I") (by decide +kernel)) (fun _ h9 => h9) rfl (by decide +kernel) rfl rfl (Nat.le_of_ble_eq_true rfl) dX6_count_67 (fun H locs hP hD hS => ?_)
    have hP : va_P D vwCl ([(a 7, .inr (6, [.int (iv 13), .int (iv 14), .int z_2, .int x2, .int z_9, .int z_10]))] ++ MG cI cJ ma mv mso mrs n0) H := hP
    have hD : va_D A ([(a 7, .inr (6, [.int (iv 13), .int (iv 14), .int z_2, .int x2, .int z_9, .int z_10]))] ++ MG cI cJ ma mv mso mrs n0) := hD
    refine lv_aload_n hx hb dX6_count_70 rfl (lv_at hl 0 rfl) ?_
    refine lv_dup hx hb dX6_count_71 rfl ?_
    refine va_get (D := D) (ci := 6) (v := .int (iv 13)) (C := RX6) (T := TX6) (N := 6) hx hb hts (fun _ h9 => List.mem_cons_of_mem _ (List.mem_append_left _ (List.mem_append_right _ h9))) hown hK hP 0 rfl rfl 0 (by decide) (hts (.fieldLink RX6 9 "BuoyTender$Survey" "left" "I") (by decide +kernel)) (fun _ h9 => h9) rfl dX6_count_72 ?_
    refine lv_iconst (v := 1) hx hb dX6_count_75 (by decide) ?_
    refine lv_iadd hx hb dX6_count_76 ?_
    refine va_put (D := D) (ci := 6) (v := .int ((iv 13) + 1)) (ty := (tyX6 0)) (C := RX6) (T := TX6) (N := 6) hx hb hts (fun _ h9 => List.mem_cons_of_mem _ (List.mem_append_left _ (List.mem_append_right _ h9))) tyX6 tyX6_ok nmX6 hown hK hP hD hS 0 rfl rfl 0 (by decide) (hts (.fieldLink RX6 9 "BuoyTender$Survey" "left" "I") (by decide +kernel)) (fun _ h9 => h9) rfl (by decide +kernel) rfl rfl (Nat.le_of_ble_eq_true rfl) dX6_count_77 (fun H locs hP hD hS => ?_)
    have hP : va_P D vwCl ([(a 7, .inr (6, [.int ((iv 13) + 1), .int (iv 14), .int z_2, .int x2, .int z_9, .int z_10]))] ++ MG cI cJ ma mv mso mrs n0) H := hP
    have hD : va_D A ([(a 7, .inr (6, [.int ((iv 13) + 1), .int (iv 14), .int z_2, .int x2, .int z_9, .int z_10]))] ++ MG cI cJ ma mv mso mrs n0) := hD
    refine lv_iload_n hx hb dX6_count_80 rfl (lv_at hl 2 rfl) ?_
    refine lv_iload_n hx hb dX6_count_81 rfl (lv_at hl 3 rfl) ?_
    refine lv_aload_n hx hb dX6_count_82 rfl (lv_at hl 1 rfl) ?_
    refine va_getN (D := D) (ci := 1) (v := .int (mv m_ 0)) (C := RX1) (T := TX1) (N := 9) hx hb hts (fun _ h9 => List.mem_cons_of_mem _ (List.mem_append_right _ h9)) hown hK hP (1 + (6 * m_ + 0)) (mg_x0 rfl hm_) rfl 0 (by decide) (va_Nw.use rfl (hN.1 (RX6, 61, "BuoyTender$Mark", "x", "I", "BuoyTender") (by decide +kernel))) (fun _ h9 => h9) rfl dX6_count_83 ?_
    refine lv_aload_n hx hb dX6_count_86 rfl (lv_at hl 1 rfl) ?_
    refine va_getN (D := D) (ci := 1) (v := .int (mv m_ 1)) (C := RX1) (T := TX1) (N := 9) hx hb hts (fun _ h9 => List.mem_cons_of_mem _ (List.mem_append_right _ h9)) hown hK hP (1 + (6 * m_ + 0)) (mg_x0 rfl hm_) rfl 1 (by decide) (va_Nw.use rfl (hN.1 (RX6, 64, "BuoyTender$Mark", "y", "I", "BuoyTender") (by decide +kernel))) (fun _ h9 => h9) rfl dX6_count_87 ?_
    refine vp_callSi (va_Run.run (va_runSN (As := [.int x1, .int x2, .int (mv m_ 0), .int (mv m_ 1)]) (rest := []) ⟨hx, hb, hml, hown, hts⟩ (k_X8_squareBetween l x1 x2 (mv m_ 0) (mv m_ 1)) ⟨(va_cnB 4 hts gX6_count_X8_squareBetween_n67 rfl rfl rfl (hN.2.1 (RX6, 67, yX8_squareBetween, "BuoyTender") (by decide +kernel)) (hts (.initialized RX8) (by decide +kernel)) (by decide +kernel) ⟨Nat.le_of_ble_eq_true rfl, Nat.le_of_ble_eq_true rfl⟩), hts (.static yX8_squareBetween) (by decide +kernel), trivial⟩ preEq rfl rfl hl.1 rfl (lv_room (Nat.le_of_ble_eq_true rfl)) dX6_count_90 ⟨Nat.le_of_ble_eq_true rfl, Nat.le_of_ble_eq_true rfl⟩)) (fun r_11 h_11 => ?_)
    obtain rfl : r_11 = (x1 - (mv m_ 0)) * (x1 - (mv m_ 0)) + (x2 - (mv m_ 1)) * (x2 - (mv m_ 1)) := h_11
    refine lv_aload_n hx hb dX6_count_93 rfl (lv_at hl 1 rfl) ?_
    refine va_getN (D := D) (ci := 1) (v := .int (mv m_ 2)) (C := RX1) (T := TX1) (N := 9) hx hb hts (fun _ h9 => List.mem_cons_of_mem _ (List.mem_append_right _ h9)) hown hK hP (1 + (6 * m_ + 0)) (mg_x0 rfl hm_) rfl 2 (by decide) (va_Nw.use rfl (hN.1 (RX6, 71, "BuoyTender$Mark", "radius", "I", "BuoyTender") (by decide +kernel))) (fun _ h9 => h9) rfl dX6_count_94 ?_
    refine lv_aload_n hx hb dX6_count_97 rfl (lv_at hl 1 rfl) ?_
    refine va_getN (D := D) (ci := 1) (v := .int (mv m_ 2)) (C := RX1) (T := TX1) (N := 9) hx hb hts (fun _ h9 => List.mem_cons_of_mem _ (List.mem_append_right _ h9)) hown hK hP (1 + (6 * m_ + 0)) (mg_x0 rfl hm_) rfl 2 (by decide) (va_Nw.use rfl (hN.1 (RX6, 71, "BuoyTender$Mark", "radius", "I", "BuoyTender") (by decide +kernel))) (fun _ h9 => h9) rfl dX6_count_98 ?_
    refine lv_imul hx hb dX6_count_101 ?_
    refine lv_icmp_gt (tgt := 115) hx hb dX6_count_102 (by decide) (fun c_12 => ?_) (fun c_12 => ?_)
    · have hP9 := hP.part (cx := [(a 7, .inr (6, [.int ((iv 13) + 1), .int (iv 14), .int z_2, .int x2, .int z_9, .int z_10]))]) [0] rfl
      have hD9 := hD.part (cx := [(a 7, .inr (6, [.int ((iv 13) + 1), .int (iv 14), .int z_2, .int x2, .int z_9, .int z_10]))]) [0] (by decide) rfl
      exact W.vret hx hb hr (fun t ht hW => ⟨⟨((iv 13) + 1, iv 14, z_2, x2, z_9, z_10), rfl, trivial, ⟨by rw [ht]; exact hP9, hD9⟩⟩, hS.F ht⟩) hS.2.2 dX6_count_115
    refine lv_aload_n hx hb dX6_count_105 rfl (lv_at hl 0 rfl) ?_
    refine lv_dup hx hb dX6_count_106 rfl ?_
    refine va_get (D := D) (ci := 6) (v := .int (iv 14)) (C := RX6) (T := TX6) (N := 6) hx hb hts (fun _ h9 => List.mem_cons_of_mem _ (List.mem_append_left _ (List.mem_append_right _ h9))) hown hK hP 0 rfl rfl 1 (by decide) (hts (.fieldLink RX6 15 "BuoyTender$Survey" "inRadius" "I") (by decide +kernel)) (fun _ h9 => h9) rfl dX6_count_107 ?_
    refine lv_iconst (v := 1) hx hb dX6_count_110 (by decide) ?_
    refine lv_iadd hx hb dX6_count_111 ?_
    refine va_put (D := D) (ci := 6) (v := .int ((iv 14) + 1)) (ty := (tyX6 1)) (C := RX6) (T := TX6) (N := 6) hx hb hts (fun _ h9 => List.mem_cons_of_mem _ (List.mem_append_left _ (List.mem_append_right _ h9))) tyX6 tyX6_ok nmX6 hown hK hP hD hS 0 rfl rfl 1 (by decide) (hts (.fieldLink RX6 15 "BuoyTender$Survey" "inRadius" "I") (by decide +kernel)) (fun _ h9 => h9) rfl (by decide +kernel) rfl rfl (Nat.le_of_ble_eq_true rfl) dX6_count_112 (fun H locs hP hD hS => ?_)
    have hP : va_P D vwCl ([(a 7, .inr (6, [.int ((iv 13) + 1), .int ((iv 14) + 1), .int z_2, .int x2, .int z_9, .int z_10]))] ++ MG cI cJ ma mv mso mrs n0) H := hP
    have hD : va_D A ([(a 7, .inr (6, [.int ((iv 13) + 1), .int ((iv 14) + 1), .int z_2, .int x2, .int z_9, .int z_10]))] ++ MG cI cJ ma mv mso mrs n0) := hD
    have hP9 := hP.part (cx := [(a 7, .inr (6, [.int ((iv 13) + 1), .int ((iv 14) + 1), .int z_2, .int x2, .int z_9, .int z_10]))]) [0] rfl
    have hD9 := hD.part (cx := [(a 7, .inr (6, [.int ((iv 13) + 1), .int ((iv 14) + 1), .int z_2, .int x2, .int z_9, .int z_10]))]) [0] (by decide) rfl
    exact W.vret hx hb hr (fun t ht hW => ⟨⟨((iv 13) + 1, (iv 14) + 1, z_2, x2, z_9, z_10), rfl, trivial, ⟨by rw [ht]; exact hP9, hD9⟩⟩, hS.F ht⟩) hS.2.2 dX6_count_115
  refine lv_iload_n hx hb dX6_count_8 rfl (lv_at hl 2 rfl) ?_
  refine lv_goto (tgt := 20) hx hb dX6_count_9 (by decide) ?_
  refine va_put (D := D) (ci := 6) (v := .int x1) (ty := (tyX6 2)) (C := RX6) (T := TX6) (N := 6) hx hb hts (fun _ h9 => List.mem_cons_of_mem _ (List.mem_append_left _ (List.mem_append_right _ h9))) tyX6 tyX6_ok nmX6 hown hK hP hD hS 0 rfl rfl 2 (by decide) (hts (.fieldLink RX6 18 "BuoyTender$Survey" "leastX" "I") (by decide +kernel)) (fun _ h9 => h9) rfl (by decide +kernel) rfl rfl (Nat.le_of_ble_eq_true rfl) dX6_count_20 (fun H locs hP hD hS => ?_)
  have hP : va_P D vwCl ([(a 7, .inr (6, [.int (iv 13), .int (iv 14), .int x1, .int (iv 16), .int (iv 17), .int (iv 18)]))] ++ MG cI cJ ma mv mso mrs n0) H := hP
  have hD : va_D A ([(a 7, .inr (6, [.int (iv 13), .int (iv 14), .int x1, .int (iv 16), .int (iv 17), .int (iv 18)]))] ++ MG cI cJ ma mv mso mrs n0) := hD
  refine lv_aload_n hx hb dX6_count_23 rfl (lv_at hl 0 rfl) ?_
  refine lv_aload_n hx hb dX6_count_24 rfl (lv_at hl 0 rfl) ?_
  refine va_get (D := D) (ci := 6) (v := .int (iv 13)) (C := RX6) (T := TX6) (N := 6) hx hb hts (fun _ h9 => List.mem_cons_of_mem _ (List.mem_append_left _ (List.mem_append_right _ h9))) hown hK hP 0 rfl rfl 0 (by decide) (hts (.fieldLink RX6 9 "BuoyTender$Survey" "left" "I") (by decide +kernel)) (fun _ h9 => h9) rfl dX6_count_25 ?_
  refine lv_if_ne (tgt := 35) hx hb dX6_count_28 (by decide) (fun c_13 => ?_) (fun c_13 => ?_)
  · refine lv_aload_n hx hb dX6_count_35 rfl (lv_at hl 0 rfl) ?_
    refine va_get (D := D) (ci := 6) (v := .int (iv 16)) (C := RX6) (T := TX6) (N := 6) hx hb hts (fun _ h9 => List.mem_cons_of_mem _ (List.mem_append_left _ (List.mem_append_right _ h9))) hown hK hP 0 rfl rfl 3 (by decide) (hts (.fieldLink RX6 21 "BuoyTender$Survey" "leastY" "I") (by decide +kernel)) (fun _ h9 => h9) rfl dX6_count_36 ?_
    refine lv_iload_n hx hb dX6_count_39 rfl (lv_at hl 3 rfl) ?_
    refine va_mmin hx hb (hml.trans hl.1.symm) hown (hts (.methodLink RX6 52 Lib.Math.min.name) (by decide +kernel)) (hts (.static Lib.Math.min.name) (by decide +kernel)) (hts (.initialized "java/lang/Math") (by decide +kernel)) (hts (.code Lib.Math.min.name Lib.Math.min.code 2 (some .int)) (by decide +kernel)) (Nat.le_of_ble_eq_true rfl) (Nat.le_of_ble_eq_true rfl) (Nat.le_of_ble_eq_true rfl) (Nat.le_of_ble_eq_true rfl) dX6_count_40 ?_
    refine lv_topi (fun z_14 ez_14 => ?_)
    refine va_put (D := D) (ci := 6) (v := .int z_14) (ty := (tyX6 3)) (C := RX6) (T := TX6) (N := 6) hx hb hts (fun _ h9 => List.mem_cons_of_mem _ (List.mem_append_left _ (List.mem_append_right _ h9))) tyX6 tyX6_ok nmX6 hown hK hP hD hS 0 rfl rfl 3 (by decide) (hts (.fieldLink RX6 21 "BuoyTender$Survey" "leastY" "I") (by decide +kernel)) (fun _ h9 => h9) rfl (by decide +kernel) rfl rfl (Nat.le_of_ble_eq_true rfl) dX6_count_43 (fun H locs hP hD hS => ?_)
    have hP : va_P D vwCl ([(a 7, .inr (6, [.int (iv 13), .int (iv 14), .int x1, .int z_14, .int (iv 17), .int (iv 18)]))] ++ MG cI cJ ma mv mso mrs n0) H := hP
    have hD : va_D A ([(a 7, .inr (6, [.int (iv 13), .int (iv 14), .int x1, .int z_14, .int (iv 17), .int (iv 18)]))] ++ MG cI cJ ma mv mso mrs n0) := hD
    refine lv_aload_n hx hb dX6_count_46 rfl (lv_at hl 0 rfl) ?_
    refine lv_aload_n hx hb dX6_count_47 rfl (lv_at hl 0 rfl) ?_
    refine va_get (D := D) (ci := 6) (v := .int (iv 17)) (C := RX6) (T := TX6) (N := 6) hx hb hts (fun _ h9 => List.mem_cons_of_mem _ (List.mem_append_left _ (List.mem_append_right _ h9))) hown hK hP 0 rfl rfl 4 (by decide) (hts (.fieldLink RX6 24 "BuoyTender$Survey" "mostX" "I") (by decide +kernel)) (fun _ h9 => h9) rfl dX6_count_48 ?_
    refine lv_iload_n hx hb dX6_count_51 rfl (lv_at hl 2 rfl) ?_
    refine va_mmax hx hb (hml.trans hl.1.symm) hown (hts (.methodLink RX6 58 Lib.Math.max.name) (by decide +kernel)) (hts (.static Lib.Math.max.name) (by decide +kernel)) (hts (.initialized "java/lang/Math") (by decide +kernel)) (hts (.code Lib.Math.max.name Lib.Math.max.code 2 (some .int)) (by decide +kernel)) (Nat.le_of_ble_eq_true rfl) (Nat.le_of_ble_eq_true rfl) (Nat.le_of_ble_eq_true rfl) (Nat.le_of_ble_eq_true rfl) dX6_count_52 ?_
    refine lv_topi (fun z_15 ez_15 => ?_)
    refine va_put (D := D) (ci := 6) (v := .int z_15) (ty := (tyX6 4)) (C := RX6) (T := TX6) (N := 6) hx hb hts (fun _ h9 => List.mem_cons_of_mem _ (List.mem_append_left _ (List.mem_append_right _ h9))) tyX6 tyX6_ok nmX6 hown hK hP hD hS 0 rfl rfl 4 (by decide) (hts (.fieldLink RX6 24 "BuoyTender$Survey" "mostX" "I") (by decide +kernel)) (fun _ h9 => h9) rfl (by decide +kernel) rfl rfl (Nat.le_of_ble_eq_true rfl) dX6_count_55 (fun H locs hP hD hS => ?_)
    have hP : va_P D vwCl ([(a 7, .inr (6, [.int (iv 13), .int (iv 14), .int x1, .int z_14, .int z_15, .int (iv 18)]))] ++ MG cI cJ ma mv mso mrs n0) H := hP
    have hD : va_D A ([(a 7, .inr (6, [.int (iv 13), .int (iv 14), .int x1, .int z_14, .int z_15, .int (iv 18)]))] ++ MG cI cJ ma mv mso mrs n0) := hD
    refine lv_aload_n hx hb dX6_count_58 rfl (lv_at hl 0 rfl) ?_
    refine lv_aload_n hx hb dX6_count_59 rfl (lv_at hl 0 rfl) ?_
    refine va_get (D := D) (ci := 6) (v := .int (iv 18)) (C := RX6) (T := TX6) (N := 6) hx hb hts (fun _ h9 => List.mem_cons_of_mem _ (List.mem_append_left _ (List.mem_append_right _ h9))) hown hK hP 0 rfl rfl 5 (by decide) (hts (.fieldLink RX6 27 "BuoyTender$Survey" "mostY" "I") (by decide +kernel)) (fun _ h9 => h9) rfl dX6_count_60 ?_
    refine lv_iload_n hx hb dX6_count_63 rfl (lv_at hl 3 rfl) ?_
    refine va_mmax hx hb (hml.trans hl.1.symm) hown (hts (.methodLink RX6 58 Lib.Math.max.name) (by decide +kernel)) (hts (.static Lib.Math.max.name) (by decide +kernel)) (hts (.initialized "java/lang/Math") (by decide +kernel)) (hts (.code Lib.Math.max.name Lib.Math.max.code 2 (some .int)) (by decide +kernel)) (Nat.le_of_ble_eq_true rfl) (Nat.le_of_ble_eq_true rfl) (Nat.le_of_ble_eq_true rfl) (Nat.le_of_ble_eq_true rfl) dX6_count_64 ?_
    refine lv_topi (fun z_16 ez_16 => ?_)
    refine va_put (D := D) (ci := 6) (v := .int z_16) (ty := (tyX6 5)) (C := RX6) (T := TX6) (N := 6) hx hb hts (fun _ h9 => List.mem_cons_of_mem _ (List.mem_append_left _ (List.mem_append_right _ h9))) tyX6 tyX6_ok nmX6 hown hK hP hD hS 0 rfl rfl 5 (by decide) (hts (.fieldLink RX6 27 "BuoyTender$Survey" "mostY" "I") (by decide +kernel)) (fun _ h9 => h9) rfl (by decide +kernel) rfl rfl (Nat.le_of_ble_eq_true rfl) dX6_count_67 (fun H locs hP hD hS => ?_)
    have hP : va_P D vwCl ([(a 7, .inr (6, [.int (iv 13), .int (iv 14), .int x1, .int z_14, .int z_15, .int z_16]))] ++ MG cI cJ ma mv mso mrs n0) H := hP
    have hD : va_D A ([(a 7, .inr (6, [.int (iv 13), .int (iv 14), .int x1, .int z_14, .int z_15, .int z_16]))] ++ MG cI cJ ma mv mso mrs n0) := hD
    refine lv_aload_n hx hb dX6_count_70 rfl (lv_at hl 0 rfl) ?_
    refine lv_dup hx hb dX6_count_71 rfl ?_
    refine va_get (D := D) (ci := 6) (v := .int (iv 13)) (C := RX6) (T := TX6) (N := 6) hx hb hts (fun _ h9 => List.mem_cons_of_mem _ (List.mem_append_left _ (List.mem_append_right _ h9))) hown hK hP 0 rfl rfl 0 (by decide) (hts (.fieldLink RX6 9 "BuoyTender$Survey" "left" "I") (by decide +kernel)) (fun _ h9 => h9) rfl dX6_count_72 ?_
    refine lv_iconst (v := 1) hx hb dX6_count_75 (by decide) ?_
    refine lv_iadd hx hb dX6_count_76 ?_
    refine va_put (D := D) (ci := 6) (v := .int ((iv 13) + 1)) (ty := (tyX6 0)) (C := RX6) (T := TX6) (N := 6) hx hb hts (fun _ h9 => List.mem_cons_of_mem _ (List.mem_append_left _ (List.mem_append_right _ h9))) tyX6 tyX6_ok nmX6 hown hK hP hD hS 0 rfl rfl 0 (by decide) (hts (.fieldLink RX6 9 "BuoyTender$Survey" "left" "I") (by decide +kernel)) (fun _ h9 => h9) rfl (by decide +kernel) rfl rfl (Nat.le_of_ble_eq_true rfl) dX6_count_77 (fun H locs hP hD hS => ?_)
    have hP : va_P D vwCl ([(a 7, .inr (6, [.int ((iv 13) + 1), .int (iv 14), .int x1, .int z_14, .int z_15, .int z_16]))] ++ MG cI cJ ma mv mso mrs n0) H := hP
    have hD : va_D A ([(a 7, .inr (6, [.int ((iv 13) + 1), .int (iv 14), .int x1, .int z_14, .int z_15, .int z_16]))] ++ MG cI cJ ma mv mso mrs n0) := hD
    refine lv_iload_n hx hb dX6_count_80 rfl (lv_at hl 2 rfl) ?_
    refine lv_iload_n hx hb dX6_count_81 rfl (lv_at hl 3 rfl) ?_
    refine lv_aload_n hx hb dX6_count_82 rfl (lv_at hl 1 rfl) ?_
    refine va_getN (D := D) (ci := 1) (v := .int (mv m_ 0)) (C := RX1) (T := TX1) (N := 9) hx hb hts (fun _ h9 => List.mem_cons_of_mem _ (List.mem_append_right _ h9)) hown hK hP (1 + (6 * m_ + 0)) (mg_x0 rfl hm_) rfl 0 (by decide) (va_Nw.use rfl (hN.1 (RX6, 61, "BuoyTender$Mark", "x", "I", "BuoyTender") (by decide +kernel))) (fun _ h9 => h9) rfl dX6_count_83 ?_
    refine lv_aload_n hx hb dX6_count_86 rfl (lv_at hl 1 rfl) ?_
    refine va_getN (D := D) (ci := 1) (v := .int (mv m_ 1)) (C := RX1) (T := TX1) (N := 9) hx hb hts (fun _ h9 => List.mem_cons_of_mem _ (List.mem_append_right _ h9)) hown hK hP (1 + (6 * m_ + 0)) (mg_x0 rfl hm_) rfl 1 (by decide) (va_Nw.use rfl (hN.1 (RX6, 64, "BuoyTender$Mark", "y", "I", "BuoyTender") (by decide +kernel))) (fun _ h9 => h9) rfl dX6_count_87 ?_
    refine vp_callSi (va_Run.run (va_runSN (As := [.int x1, .int x2, .int (mv m_ 0), .int (mv m_ 1)]) (rest := []) ⟨hx, hb, hml, hown, hts⟩ (k_X8_squareBetween l x1 x2 (mv m_ 0) (mv m_ 1)) ⟨(va_cnB 4 hts gX6_count_X8_squareBetween_n67 rfl rfl rfl (hN.2.1 (RX6, 67, yX8_squareBetween, "BuoyTender") (by decide +kernel)) (hts (.initialized RX8) (by decide +kernel)) (by decide +kernel) ⟨Nat.le_of_ble_eq_true rfl, Nat.le_of_ble_eq_true rfl⟩), hts (.static yX8_squareBetween) (by decide +kernel), trivial⟩ preEq rfl rfl hl.1 rfl (lv_room (Nat.le_of_ble_eq_true rfl)) dX6_count_90 ⟨Nat.le_of_ble_eq_true rfl, Nat.le_of_ble_eq_true rfl⟩)) (fun r_17 h_17 => ?_)
    obtain rfl : r_17 = (x1 - (mv m_ 0)) * (x1 - (mv m_ 0)) + (x2 - (mv m_ 1)) * (x2 - (mv m_ 1)) := h_17
    refine lv_aload_n hx hb dX6_count_93 rfl (lv_at hl 1 rfl) ?_
    refine va_getN (D := D) (ci := 1) (v := .int (mv m_ 2)) (C := RX1) (T := TX1) (N := 9) hx hb hts (fun _ h9 => List.mem_cons_of_mem _ (List.mem_append_right _ h9)) hown hK hP (1 + (6 * m_ + 0)) (mg_x0 rfl hm_) rfl 2 (by decide) (va_Nw.use rfl (hN.1 (RX6, 71, "BuoyTender$Mark", "radius", "I", "BuoyTender") (by decide +kernel))) (fun _ h9 => h9) rfl dX6_count_94 ?_
    refine lv_aload_n hx hb dX6_count_97 rfl (lv_at hl 1 rfl) ?_
    refine va_getN (D := D) (ci := 1) (v := .int (mv m_ 2)) (C := RX1) (T := TX1) (N := 9) hx hb hts (fun _ h9 => List.mem_cons_of_mem _ (List.mem_append_right _ h9)) hown hK hP (1 + (6 * m_ + 0)) (mg_x0 rfl hm_) rfl 2 (by decide) (va_Nw.use rfl (hN.1 (RX6, 71, "BuoyTender$Mark", "radius", "I", "BuoyTender") (by decide +kernel))) (fun _ h9 => h9) rfl dX6_count_98 ?_
    refine lv_imul hx hb dX6_count_101 ?_
    refine lv_icmp_gt (tgt := 115) hx hb dX6_count_102 (by decide) (fun c_18 => ?_) (fun c_18 => ?_)
    · have hP9 := hP.part (cx := [(a 7, .inr (6, [.int ((iv 13) + 1), .int (iv 14), .int x1, .int z_14, .int z_15, .int z_16]))]) [0] rfl
      have hD9 := hD.part (cx := [(a 7, .inr (6, [.int ((iv 13) + 1), .int (iv 14), .int x1, .int z_14, .int z_15, .int z_16]))]) [0] (by decide) rfl
      exact W.vret hx hb hr (fun t ht hW => ⟨⟨((iv 13) + 1, iv 14, x1, z_14, z_15, z_16), rfl, trivial, ⟨by rw [ht]; exact hP9, hD9⟩⟩, hS.F ht⟩) hS.2.2 dX6_count_115
    refine lv_aload_n hx hb dX6_count_105 rfl (lv_at hl 0 rfl) ?_
    refine lv_dup hx hb dX6_count_106 rfl ?_
    refine va_get (D := D) (ci := 6) (v := .int (iv 14)) (C := RX6) (T := TX6) (N := 6) hx hb hts (fun _ h9 => List.mem_cons_of_mem _ (List.mem_append_left _ (List.mem_append_right _ h9))) hown hK hP 0 rfl rfl 1 (by decide) (hts (.fieldLink RX6 15 "BuoyTender$Survey" "inRadius" "I") (by decide +kernel)) (fun _ h9 => h9) rfl dX6_count_107 ?_
    refine lv_iconst (v := 1) hx hb dX6_count_110 (by decide) ?_
    refine lv_iadd hx hb dX6_count_111 ?_
    refine va_put (D := D) (ci := 6) (v := .int ((iv 14) + 1)) (ty := (tyX6 1)) (C := RX6) (T := TX6) (N := 6) hx hb hts (fun _ h9 => List.mem_cons_of_mem _ (List.mem_append_left _ (List.mem_append_right _ h9))) tyX6 tyX6_ok nmX6 hown hK hP hD hS 0 rfl rfl 1 (by decide) (hts (.fieldLink RX6 15 "BuoyTender$Survey" "inRadius" "I") (by decide +kernel)) (fun _ h9 => h9) rfl (by decide +kernel) rfl rfl (Nat.le_of_ble_eq_true rfl) dX6_count_112 (fun H locs hP hD hS => ?_)
    have hP : va_P D vwCl ([(a 7, .inr (6, [.int ((iv 13) + 1), .int ((iv 14) + 1), .int x1, .int z_14, .int z_15, .int z_16]))] ++ MG cI cJ ma mv mso mrs n0) H := hP
    have hD : va_D A ([(a 7, .inr (6, [.int ((iv 13) + 1), .int ((iv 14) + 1), .int x1, .int z_14, .int z_15, .int z_16]))] ++ MG cI cJ ma mv mso mrs n0) := hD
    have hP9 := hP.part (cx := [(a 7, .inr (6, [.int ((iv 13) + 1), .int ((iv 14) + 1), .int x1, .int z_14, .int z_15, .int z_16]))]) [0] rfl
    have hD9 := hD.part (cx := [(a 7, .inr (6, [.int ((iv 13) + 1), .int ((iv 14) + 1), .int x1, .int z_14, .int z_15, .int z_16]))]) [0] (by decide) rfl
    exact W.vret hx hb hr (fun t ht hW => ⟨⟨((iv 13) + 1, (iv 14) + 1, x1, z_14, z_15, z_16), rfl, trivial, ⟨by rw [ht]; exact hP9, hD9⟩⟩, hS.F ht⟩) hS.2.2 dX6_count_115
  refine lv_iload_n hx hb dX6_count_31 rfl (lv_at hl 3 rfl) ?_
  refine lv_goto (tgt := 43) hx hb dX6_count_32 (by decide) ?_
  refine va_put (D := D) (ci := 6) (v := .int x2) (ty := (tyX6 3)) (C := RX6) (T := TX6) (N := 6) hx hb hts (fun _ h9 => List.mem_cons_of_mem _ (List.mem_append_left _ (List.mem_append_right _ h9))) tyX6 tyX6_ok nmX6 hown hK hP hD hS 0 rfl rfl 3 (by decide) (hts (.fieldLink RX6 21 "BuoyTender$Survey" "leastY" "I") (by decide +kernel)) (fun _ h9 => h9) rfl (by decide +kernel) rfl rfl (Nat.le_of_ble_eq_true rfl) dX6_count_43 (fun H locs hP hD hS => ?_)
  have hP : va_P D vwCl ([(a 7, .inr (6, [.int (iv 13), .int (iv 14), .int x1, .int x2, .int (iv 17), .int (iv 18)]))] ++ MG cI cJ ma mv mso mrs n0) H := hP
  have hD : va_D A ([(a 7, .inr (6, [.int (iv 13), .int (iv 14), .int x1, .int x2, .int (iv 17), .int (iv 18)]))] ++ MG cI cJ ma mv mso mrs n0) := hD
  refine lv_aload_n hx hb dX6_count_46 rfl (lv_at hl 0 rfl) ?_
  refine lv_aload_n hx hb dX6_count_47 rfl (lv_at hl 0 rfl) ?_
  refine va_get (D := D) (ci := 6) (v := .int (iv 17)) (C := RX6) (T := TX6) (N := 6) hx hb hts (fun _ h9 => List.mem_cons_of_mem _ (List.mem_append_left _ (List.mem_append_right _ h9))) hown hK hP 0 rfl rfl 4 (by decide) (hts (.fieldLink RX6 24 "BuoyTender$Survey" "mostX" "I") (by decide +kernel)) (fun _ h9 => h9) rfl dX6_count_48 ?_
  refine lv_iload_n hx hb dX6_count_51 rfl (lv_at hl 2 rfl) ?_
  refine va_mmax hx hb (hml.trans hl.1.symm) hown (hts (.methodLink RX6 58 Lib.Math.max.name) (by decide +kernel)) (hts (.static Lib.Math.max.name) (by decide +kernel)) (hts (.initialized "java/lang/Math") (by decide +kernel)) (hts (.code Lib.Math.max.name Lib.Math.max.code 2 (some .int)) (by decide +kernel)) (Nat.le_of_ble_eq_true rfl) (Nat.le_of_ble_eq_true rfl) (Nat.le_of_ble_eq_true rfl) (Nat.le_of_ble_eq_true rfl) dX6_count_52 ?_
  refine lv_topi (fun z_19 ez_19 => ?_)
  refine va_put (D := D) (ci := 6) (v := .int z_19) (ty := (tyX6 4)) (C := RX6) (T := TX6) (N := 6) hx hb hts (fun _ h9 => List.mem_cons_of_mem _ (List.mem_append_left _ (List.mem_append_right _ h9))) tyX6 tyX6_ok nmX6 hown hK hP hD hS 0 rfl rfl 4 (by decide) (hts (.fieldLink RX6 24 "BuoyTender$Survey" "mostX" "I") (by decide +kernel)) (fun _ h9 => h9) rfl (by decide +kernel) rfl rfl (Nat.le_of_ble_eq_true rfl) dX6_count_55 (fun H locs hP hD hS => ?_)
  have hP : va_P D vwCl ([(a 7, .inr (6, [.int (iv 13), .int (iv 14), .int x1, .int x2, .int z_19, .int (iv 18)]))] ++ MG cI cJ ma mv mso mrs n0) H := hP
  have hD : va_D A ([(a 7, .inr (6, [.int (iv 13), .int (iv 14), .int x1, .int x2, .int z_19, .int (iv 18)]))] ++ MG cI cJ ma mv mso mrs n0) := hD
  refine lv_aload_n hx hb dX6_count_58 rfl (lv_at hl 0 rfl) ?_
  refine lv_aload_n hx hb dX6_count_59 rfl (lv_at hl 0 rfl) ?_
  refine va_get (D := D) (ci := 6) (v := .int (iv 18)) (C := RX6) (T := TX6) (N := 6) hx hb hts (fun _ h9 => List.mem_cons_of_mem _ (List.mem_append_left _ (List.mem_append_right _ h9))) hown hK hP 0 rfl rfl 5 (by decide) (hts (.fieldLink RX6 27 "BuoyTender$Survey" "mostY" "I") (by decide +kernel)) (fun _ h9 => h9) rfl dX6_count_60 ?_
  refine lv_iload_n hx hb dX6_count_63 rfl (lv_at hl 3 rfl) ?_
  refine va_mmax hx hb (hml.trans hl.1.symm) hown (hts (.methodLink RX6 58 Lib.Math.max.name) (by decide +kernel)) (hts (.static Lib.Math.max.name) (by decide +kernel)) (hts (.initialized "java/lang/Math") (by decide +kernel)) (hts (.code Lib.Math.max.name Lib.Math.max.code 2 (some .int)) (by decide +kernel)) (Nat.le_of_ble_eq_true rfl) (Nat.le_of_ble_eq_true rfl) (Nat.le_of_ble_eq_true rfl) (Nat.le_of_ble_eq_true rfl) dX6_count_64 ?_
  refine lv_topi (fun z_20 ez_20 => ?_)
  refine va_put (D := D) (ci := 6) (v := .int z_20) (ty := (tyX6 5)) (C := RX6) (T := TX6) (N := 6) hx hb hts (fun _ h9 => List.mem_cons_of_mem _ (List.mem_append_left _ (List.mem_append_right _ h9))) tyX6 tyX6_ok nmX6 hown hK hP hD hS 0 rfl rfl 5 (by decide) (hts (.fieldLink RX6 27 "BuoyTender$Survey" "mostY" "I") (by decide +kernel)) (fun _ h9 => h9) rfl (by decide +kernel) rfl rfl (Nat.le_of_ble_eq_true rfl) dX6_count_67 (fun H locs hP hD hS => ?_)
  have hP : va_P D vwCl ([(a 7, .inr (6, [.int (iv 13), .int (iv 14), .int x1, .int x2, .int z_19, .int z_20]))] ++ MG cI cJ ma mv mso mrs n0) H := hP
  have hD : va_D A ([(a 7, .inr (6, [.int (iv 13), .int (iv 14), .int x1, .int x2, .int z_19, .int z_20]))] ++ MG cI cJ ma mv mso mrs n0) := hD
  refine lv_aload_n hx hb dX6_count_70 rfl (lv_at hl 0 rfl) ?_
  refine lv_dup hx hb dX6_count_71 rfl ?_
  refine va_get (D := D) (ci := 6) (v := .int (iv 13)) (C := RX6) (T := TX6) (N := 6) hx hb hts (fun _ h9 => List.mem_cons_of_mem _ (List.mem_append_left _ (List.mem_append_right _ h9))) hown hK hP 0 rfl rfl 0 (by decide) (hts (.fieldLink RX6 9 "BuoyTender$Survey" "left" "I") (by decide +kernel)) (fun _ h9 => h9) rfl dX6_count_72 ?_
  refine lv_iconst (v := 1) hx hb dX6_count_75 (by decide) ?_
  refine lv_iadd hx hb dX6_count_76 ?_
  refine va_put (D := D) (ci := 6) (v := .int ((iv 13) + 1)) (ty := (tyX6 0)) (C := RX6) (T := TX6) (N := 6) hx hb hts (fun _ h9 => List.mem_cons_of_mem _ (List.mem_append_left _ (List.mem_append_right _ h9))) tyX6 tyX6_ok nmX6 hown hK hP hD hS 0 rfl rfl 0 (by decide) (hts (.fieldLink RX6 9 "BuoyTender$Survey" "left" "I") (by decide +kernel)) (fun _ h9 => h9) rfl (by decide +kernel) rfl rfl (Nat.le_of_ble_eq_true rfl) dX6_count_77 (fun H locs hP hD hS => ?_)
  have hP : va_P D vwCl ([(a 7, .inr (6, [.int ((iv 13) + 1), .int (iv 14), .int x1, .int x2, .int z_19, .int z_20]))] ++ MG cI cJ ma mv mso mrs n0) H := hP
  have hD : va_D A ([(a 7, .inr (6, [.int ((iv 13) + 1), .int (iv 14), .int x1, .int x2, .int z_19, .int z_20]))] ++ MG cI cJ ma mv mso mrs n0) := hD
  refine lv_iload_n hx hb dX6_count_80 rfl (lv_at hl 2 rfl) ?_
  refine lv_iload_n hx hb dX6_count_81 rfl (lv_at hl 3 rfl) ?_
  refine lv_aload_n hx hb dX6_count_82 rfl (lv_at hl 1 rfl) ?_
  refine va_getN (D := D) (ci := 1) (v := .int (mv m_ 0)) (C := RX1) (T := TX1) (N := 9) hx hb hts (fun _ h9 => List.mem_cons_of_mem _ (List.mem_append_right _ h9)) hown hK hP (1 + (6 * m_ + 0)) (mg_x0 rfl hm_) rfl 0 (by decide) (va_Nw.use rfl (hN.1 (RX6, 61, "BuoyTender$Mark", "x", "I", "BuoyTender") (by decide +kernel))) (fun _ h9 => h9) rfl dX6_count_83 ?_
  refine lv_aload_n hx hb dX6_count_86 rfl (lv_at hl 1 rfl) ?_
  refine va_getN (D := D) (ci := 1) (v := .int (mv m_ 1)) (C := RX1) (T := TX1) (N := 9) hx hb hts (fun _ h9 => List.mem_cons_of_mem _ (List.mem_append_right _ h9)) hown hK hP (1 + (6 * m_ + 0)) (mg_x0 rfl hm_) rfl 1 (by decide) (va_Nw.use rfl (hN.1 (RX6, 64, "BuoyTender$Mark", "y", "I", "BuoyTender") (by decide +kernel))) (fun _ h9 => h9) rfl dX6_count_87 ?_
  refine vp_callSi (va_Run.run (va_runSN (As := [.int x1, .int x2, .int (mv m_ 0), .int (mv m_ 1)]) (rest := []) ⟨hx, hb, hml, hown, hts⟩ (k_X8_squareBetween l x1 x2 (mv m_ 0) (mv m_ 1)) ⟨(va_cnB 4 hts gX6_count_X8_squareBetween_n67 rfl rfl rfl (hN.2.1 (RX6, 67, yX8_squareBetween, "BuoyTender") (by decide +kernel)) (hts (.initialized RX8) (by decide +kernel)) (by decide +kernel) ⟨Nat.le_of_ble_eq_true rfl, Nat.le_of_ble_eq_true rfl⟩), hts (.static yX8_squareBetween) (by decide +kernel), trivial⟩ preEq rfl rfl hl.1 rfl (lv_room (Nat.le_of_ble_eq_true rfl)) dX6_count_90 ⟨Nat.le_of_ble_eq_true rfl, Nat.le_of_ble_eq_true rfl⟩)) (fun r_21 h_21 => ?_)
  obtain rfl : r_21 = (x1 - (mv m_ 0)) * (x1 - (mv m_ 0)) + (x2 - (mv m_ 1)) * (x2 - (mv m_ 1)) := h_21
  refine lv_aload_n hx hb dX6_count_93 rfl (lv_at hl 1 rfl) ?_
  refine va_getN (D := D) (ci := 1) (v := .int (mv m_ 2)) (C := RX1) (T := TX1) (N := 9) hx hb hts (fun _ h9 => List.mem_cons_of_mem _ (List.mem_append_right _ h9)) hown hK hP (1 + (6 * m_ + 0)) (mg_x0 rfl hm_) rfl 2 (by decide) (va_Nw.use rfl (hN.1 (RX6, 71, "BuoyTender$Mark", "radius", "I", "BuoyTender") (by decide +kernel))) (fun _ h9 => h9) rfl dX6_count_94 ?_
  refine lv_aload_n hx hb dX6_count_97 rfl (lv_at hl 1 rfl) ?_
  refine va_getN (D := D) (ci := 1) (v := .int (mv m_ 2)) (C := RX1) (T := TX1) (N := 9) hx hb hts (fun _ h9 => List.mem_cons_of_mem _ (List.mem_append_right _ h9)) hown hK hP (1 + (6 * m_ + 0)) (mg_x0 rfl hm_) rfl 2 (by decide) (va_Nw.use rfl (hN.1 (RX6, 71, "BuoyTender$Mark", "radius", "I", "BuoyTender") (by decide +kernel))) (fun _ h9 => h9) rfl dX6_count_98 ?_
  refine lv_imul hx hb dX6_count_101 ?_
  refine lv_icmp_gt (tgt := 115) hx hb dX6_count_102 (by decide) (fun c_22 => ?_) (fun c_22 => ?_)
  · have hP9 := hP.part (cx := [(a 7, .inr (6, [.int ((iv 13) + 1), .int (iv 14), .int x1, .int x2, .int z_19, .int z_20]))]) [0] rfl
    have hD9 := hD.part (cx := [(a 7, .inr (6, [.int ((iv 13) + 1), .int (iv 14), .int x1, .int x2, .int z_19, .int z_20]))]) [0] (by decide) rfl
    exact W.vret hx hb hr (fun t ht hW => ⟨⟨((iv 13) + 1, iv 14, x1, x2, z_19, z_20), rfl, trivial, ⟨by rw [ht]; exact hP9, hD9⟩⟩, hS.F ht⟩) hS.2.2 dX6_count_115
  refine lv_aload_n hx hb dX6_count_105 rfl (lv_at hl 0 rfl) ?_
  refine lv_dup hx hb dX6_count_106 rfl ?_
  refine va_get (D := D) (ci := 6) (v := .int (iv 14)) (C := RX6) (T := TX6) (N := 6) hx hb hts (fun _ h9 => List.mem_cons_of_mem _ (List.mem_append_left _ (List.mem_append_right _ h9))) hown hK hP 0 rfl rfl 1 (by decide) (hts (.fieldLink RX6 15 "BuoyTender$Survey" "inRadius" "I") (by decide +kernel)) (fun _ h9 => h9) rfl dX6_count_107 ?_
  refine lv_iconst (v := 1) hx hb dX6_count_110 (by decide) ?_
  refine lv_iadd hx hb dX6_count_111 ?_
  refine va_put (D := D) (ci := 6) (v := .int ((iv 14) + 1)) (ty := (tyX6 1)) (C := RX6) (T := TX6) (N := 6) hx hb hts (fun _ h9 => List.mem_cons_of_mem _ (List.mem_append_left _ (List.mem_append_right _ h9))) tyX6 tyX6_ok nmX6 hown hK hP hD hS 0 rfl rfl 1 (by decide) (hts (.fieldLink RX6 15 "BuoyTender$Survey" "inRadius" "I") (by decide +kernel)) (fun _ h9 => h9) rfl (by decide +kernel) rfl rfl (Nat.le_of_ble_eq_true rfl) dX6_count_112 (fun H locs hP hD hS => ?_)
  have hP : va_P D vwCl ([(a 7, .inr (6, [.int ((iv 13) + 1), .int ((iv 14) + 1), .int x1, .int x2, .int z_19, .int z_20]))] ++ MG cI cJ ma mv mso mrs n0) H := hP
  have hD : va_D A ([(a 7, .inr (6, [.int ((iv 13) + 1), .int ((iv 14) + 1), .int x1, .int x2, .int z_19, .int z_20]))] ++ MG cI cJ ma mv mso mrs n0) := hD
  have hP9 := hP.part (cx := [(a 7, .inr (6, [.int ((iv 13) + 1), .int ((iv 14) + 1), .int x1, .int x2, .int z_19, .int z_20]))]) [0] rfl
  have hD9 := hD.part (cx := [(a 7, .inr (6, [.int ((iv 13) + 1), .int ((iv 14) + 1), .int x1, .int x2, .int z_19, .int z_20]))]) [0] (by decide) rfl
  exact W.vret hx hb hr (fun t ht hW => ⟨⟨((iv 13) + 1, (iv 14) + 1, x1, x2, z_19, z_20), rfl, trivial, ⟨by rw [ht]; exact hP9, hD9⟩⟩, hS.F ht⟩) hS.2.2 dX6_count_115
set_option maxHeartbeats 4000000 in
set_option maxRecDepth 100000 in
/-- X6_take: the loop at 38 -/
theorem lp_X6_take {p : Program} {l : Launch} {e : Env} {s : State} {m : MethodId} {args : Array Value} {below : List Frame} {meth : Method} {c : Code} {Q : State → Prop} {D : va_G} {cI cJ cZ cM : Nat} {a : Nat → Nat} {iv : Nat → Int32} {av : Nat → Nat → Int32} {ma : Nat → Nat → Nat} {mv : Nat → Nat → Int32} {mso : Nat → Nat → Int64} {mrs : Nat → Nat → Int32} {n0 : Nat} {fM : Nat → Option Nat} {m_ : Nat} {A : Nat → Prop} (hx : p.tables.exec = Jvm.exec) (hb : c.code = cX6_take) (hml : c.maxLocals = 8) (hts : ∀ w ∈ wsX6_take, w.before args s = true) (hown : s.vm.findClass RX6 = some m.cls) (hG : GK D cI cJ cZ cM s) (hA : ∀ q : Nat, s.heap.size ≤ q → A q) (hm_ : m_ < n0) :
    ∀ (k9 : Nat) (k_ : Nat) (s13 : Int32) (s14 : Int32) (s15 : Int32) (s16 : Int32) (s17 : Int32) (s18 : Int32), (k_ ≤ 1600) → 1600 - k_ < k9 → ∀ (H : Heap) (locs : List Loc) (ls : Array Slot), va_P D vwCl ([(a 7, .inr (6, [.int s13, .int s14, .int s15, .int s16, .int s17, .int s18])), (a 1, .inl (cI, 1600, .inl (av 1)))] ++ MG cI cJ ma mv mso mrs n0) H → va_D A ([(a 7, .inr (6, [.int s13, .int s14, .int s15, .int s16, .int s17, .int s18])), (a 1, .inl (cI, 1600, .inl (av 1)))] ++ MG cI cJ ma mv mso mrs n0) → va_S A s.heap H locs → lv_has ls 8 [(4, .int (nI k_)), (3, .ref (ma m_ 1)), (0, .ref (a 7)), (1, .ref (ma m_ 0)), (2, .ref (a 1))] → (∀ (s13 : Int32) (s14 : Int32) (s15 : Int32) (s16 : Int32) (s17 : Int32) (s18 : Int32) (H : Heap) (locs : List Loc) (ls : Array Slot), va_P D vwCl ([(a 7, .inr (6, [.int s13, .int s14, .int s15, .int s16, .int s17, .int s18])), (a 1, .inl (cI, 1600, .inl (av 1)))] ++ MG cI cJ ma mv mso mrs n0) H → va_D A ([(a 7, .inr (6, [.int s13, .int s14, .int s15, .int s16, .int s17, .int s18])), (a 1, .inl (cI, 1600, .inl (av 1)))] ++ MG cI cJ ma mv mso mrs n0) → va_S A s.heap H locs → lv_has ls 8 [(3, .ref (ma m_ 1)), (0, .ref (a 7)), (1, .ref (ma m_ 0)), (2, .ref (a 1))] → W p l e (headSpec wsX6_take ({ frames := 2, cells := 0, slots := 0, locals := 63 } : Room)).room s m args below meth c H locs 0 0 Q (F0 m 123 ls [])) → W p l e (headSpec wsX6_take ({ frames := 2, cells := 0, slots := 0, locals := 63 } : Room)).room s m args below meth c H locs 0 0 Q (F0 m 38 ls []) := by
  have hK := hG.1
  have hN := hG.2
  intro k9
  induction k9 with
  | zero => intro k_ s13 s14 s15 s16 s17 s18 hk hfu; exact absurd hfu (Nat.not_lt_zero _)
  | succ k9 ih =>
    intro k_ s13 s14 s15 s16 s17 s18 hk hfu H locs ls hP hD hS hl kk0
    rcases Nat.lt_or_ge k_ 1600 with hlt | hge
    · refine lv_iload hx hb dX6_take_38 (lv_at hl 0 rfl) ?_
      refine lv_sipush (v := 1600) hx hb dX6_take_40 (by decide) ?_
      refine lv_icmp_ge (tgt := 123) hx hb dX6_take_43 (by decide) (fun c_1 => absurd c_1 (nI_ge hlt (by decide))) (fun c_1 => ?_)
      refine lv_iload hx hb dX6_take_46 (lv_at hl 0 rfl) ?_
      refine lv_aload_n hx hb dX6_take_48 rfl (lv_at hl 4 rfl) ?_
      refine va_alen (v := 1600) hx hb hK hP 1 0 rfl rfl rfl dX6_take_49 ?_
      refine lv_icmp_ge (tgt := 123) hx hb dX6_take_50 (by decide) (fun c_2 => absurd c_2 (nI_ge hlt (by decide))) (fun c_2 => ?_)
      refine lv_iload hx hb dX6_take_53 (lv_at hl 0 rfl) ?_
      refine lv_bipush (v := 40) hx hb dX6_take_55 (by decide) ?_
      refine lv_irem hx hb dX6_take_57 (by decide) ?_
      refine lv_topi (fun z_3 ez_3 => ?_)
      obtain rfl : z_3 = nI (k_ % 40) := ez_3.trans (pk_rem (by omega) (by decide) (by decide))
      refine lv_istore (lv' := [(5, .int (nI (k_ % 40))), (4, .int (nI k_)), (3, .ref (ma m_ 1)), (0, .ref (a 7)), (1, .ref (ma m_ 0)), (2, .ref (a 1))]) hx hb dX6_take_58 hl (by decide) rfl (fun ls hl => ?_)
      refine lv_iload hx hb dX6_take_60 (lv_at hl 1 rfl) ?_
      refine lv_bipush (v := 40) hx hb dX6_take_62 (by decide) ?_
      refine lv_idiv hx hb dX6_take_64 (by decide) ?_
      refine lv_topi (fun z_4 ez_4 => ?_)
      obtain rfl : z_4 = nI (k_ / 40) := ez_4.trans (pk_div (by omega) (by decide) (by decide))
      refine lv_istore (lv' := [(6, .int (nI (k_ / 40))), (5, .int (nI (k_ % 40))), (4, .int (nI k_)), (3, .ref (ma m_ 1)), (0, .ref (a 7)), (1, .ref (ma m_ 0)), (2, .ref (a 1))]) hx hb dX6_take_65 hl (by decide) rfl (fun ls hl => ?_)
      refine lv_aload_n hx hb dX6_take_67 rfl (lv_at hl 6 rfl) ?_
      refine lv_iload hx hb dX6_take_68 (lv_at hl 2 rfl) ?_
      refine va_iald hx hb hK hP 1 0 rfl rfl (vp_in_nI (by omega) (by decide)) dX6_take_70 ?_
      refine lv_topi (fun z_5 ez_5 => ?_)
      obtain rfl : z_5 = (av 1) k_ := ez_5.trans (congrArg (av 1) (nI_clamp (by omega)))
      refine lv_istore (lv' := [(7, .int ((av 1) k_)), (6, .int (nI (k_ / 40))), (5, .int (nI (k_ % 40))), (4, .int (nI k_)), (3, .ref (ma m_ 1)), (0, .ref (a 7)), (1, .ref (ma m_ 0)), (2, .ref (a 1))]) hx hb dX6_take_71 hl (by decide) rfl (fun ls hl => ?_)
      refine lv_aload_n hx hb dX6_take_73 rfl (lv_at hl 4 rfl) ?_
      refine va_getN (D := D) (ci := 5) (v := .ref (ma m_ 2)) (C := RX5) (T := TX5) (N := 4) hx hb hts (fun _ h9 => List.mem_cons_of_mem _ (List.mem_append_right _ h9)) hown hK hP (2 + (6 * m_ + 1)) (mg_x1 rfl hm_) rfl 0 (by decide) (va_Nw.use rfl (hN.1 (RX6, 36, "BuoyTender$Sighting", "ruledOut", "[J", "BuoyTender") (by decide +kernel))) (fun _ h9 => h9) rfl dX6_take_74 ?_
      refine lv_iload hx hb dX6_take_77 (lv_at hl 1 rfl) ?_
      refine va_lald hx hb hK hP (2 + (6 * m_ + 2)) 1 (mg_x2 rfl hm_) rfl (vp_in_nI (by omega) (by decide)) dX6_take_79 ?_
      refine lv_topl (fun z_6 ez_6 => ?_)
      refine lv_iload hx hb dX6_take_80 (lv_at hl 2 rfl) ?_
      refine lv_lshr hx hb dX6_take_82 rfl ?_
      refine lv_topl (fun z_7 ez_7 => ?_)
      refine lv_lconst (v := 1) hx hb dX6_take_83 (by decide) ?_
      refine lv_land hx hb dX6_take_84 ?_
      refine lv_topl (fun z_8 ez_8 => ?_)
      refine lv_lconst (v := 0) hx hb dX6_take_85 (by decide) ?_
      refine W.lcmp hx hb dX6_take_86 ?_
      refine lv_topi (fun z_9 ez_9 => ?_)
      refine lv_if_ne (tgt := 117) hx hb dX6_take_87 (by decide) (fun c_10 => ?_) (fun c_10 => ?_)
      · refine lv_iinc (v := nI (k_ + 1)) (lv' := [(4, .int (nI (k_ + 1))), (7, .int ((av 1) k_)), (6, .int (nI (k_ / 40))), (5, .int (nI (k_ % 40))), (3, .ref (ma m_ 1)), (0, .ref (a 7)), (1, .ref (ma m_ 0)), (2, .ref (a 1))]) hx hb dX6_take_117 hl (k := 3) rfl (nI_add k_ 1) (by decide) rfl (fun ls hl => ?_)
        refine lv_goto (tgt := 38) hx hb dX6_take_120 (by decide) ?_
        exact ih (k_ + 1) s13 s14 s15 s16 s17 s18 (by omega) (by omega) _ _ _ hP hD hS (lv_sub hl [0, 4, 5, 6, 7] rfl) kk0
      refine lv_iload hx hb dX6_take_90 (lv_at hl 0 rfl) ?_
      refine lv_aload_n hx hb dX6_take_92 rfl (lv_at hl 4 rfl) ?_
      refine va_getN (D := D) (ci := 5) (v := .int (mv m_ 6)) (C := RX5) (T := TX5) (N := 4) hx hb hts (fun _ h9 => List.mem_cons_of_mem _ (List.mem_append_right _ h9)) hown hK hP (2 + (6 * m_ + 1)) (mg_x1 rfl hm_) rfl 1 (by decide) (va_Nw.use rfl (hN.1 (RX6, 42, "BuoyTender$Sighting", "shallowest", "I", "BuoyTender") (by decide +kernel))) (fun _ h9 => h9) rfl dX6_take_93 ?_
      refine lv_icmp_lt (tgt := 117) hx hb dX6_take_96 (by decide) (fun c_11 => ?_) (fun c_11 => ?_)
      · refine lv_iinc (v := nI (k_ + 1)) (lv' := [(4, .int (nI (k_ + 1))), (7, .int ((av 1) k_)), (6, .int (nI (k_ / 40))), (5, .int (nI (k_ % 40))), (3, .ref (ma m_ 1)), (0, .ref (a 7)), (1, .ref (ma m_ 0)), (2, .ref (a 1))]) hx hb dX6_take_117 hl (k := 3) rfl (nI_add k_ 1) (by decide) rfl (fun ls hl => ?_)
        refine lv_goto (tgt := 38) hx hb dX6_take_120 (by decide) ?_
        exact ih (k_ + 1) s13 s14 s15 s16 s17 s18 (by omega) (by omega) _ _ _ hP hD hS (lv_sub hl [0, 4, 5, 6, 7] rfl) kk0
      refine lv_iload hx hb dX6_take_99 (lv_at hl 0 rfl) ?_
      refine lv_aload_n hx hb dX6_take_101 rfl (lv_at hl 4 rfl) ?_
      refine va_getN (D := D) (ci := 5) (v := .int (mv m_ 7)) (C := RX5) (T := TX5) (N := 4) hx hb hts (fun _ h9 => List.mem_cons_of_mem _ (List.mem_append_right _ h9)) hown hK hP (2 + (6 * m_ + 1)) (mg_x1 rfl hm_) rfl 2 (by decide) (va_Nw.use rfl (hN.1 (RX6, 45, "BuoyTender$Sighting", "deepest", "I", "BuoyTender") (by decide +kernel))) (fun _ h9 => h9) rfl dX6_take_102 ?_
      refine lv_icmp_gt (tgt := 117) hx hb dX6_take_105 (by decide) (fun c_12 => ?_) (fun c_12 => ?_)
      · refine lv_iinc (v := nI (k_ + 1)) (lv' := [(4, .int (nI (k_ + 1))), (7, .int ((av 1) k_)), (6, .int (nI (k_ / 40))), (5, .int (nI (k_ % 40))), (3, .ref (ma m_ 1)), (0, .ref (a 7)), (1, .ref (ma m_ 0)), (2, .ref (a 1))]) hx hb dX6_take_117 hl (k := 3) rfl (nI_add k_ 1) (by decide) rfl (fun ls hl => ?_)
        refine lv_goto (tgt := 38) hx hb dX6_take_120 (by decide) ?_
        exact ih (k_ + 1) s13 s14 s15 s16 s17 s18 (by omega) (by omega) _ _ _ hP hD hS (lv_sub hl [0, 4, 5, 6, 7] rfl) kk0
      refine lv_aload_n hx hb dX6_take_108 rfl (lv_at hl 5 rfl) ?_
      refine lv_aload_n hx hb dX6_take_109 rfl (lv_at hl 6 rfl) ?_
      refine lv_iload hx hb dX6_take_110 (lv_at hl 2 rfl) ?_
      refine lv_iload hx hb dX6_take_112 (lv_at hl 1 rfl) ?_
      have hPc := hP.part (cx := [(a 7, .inr (6, [.int s13, .int s14, .int s15, .int s16, .int s17, .int s18]))]) [0] rfl
      have hDc := hD.part (cx := [(a 7, .inr (6, [.int s13, .int s14, .int s15, .int s16, .int s17, .int s18]))]) [0] (by decide) rfl
      have hFc := va_freeP (cx := [(a 7, .inr (6, [.int s13, .int s14, .int s15, .int s16, .int s17, .int s18]))]) hD hS hA [0] rfl
      refine va_callv (va_runV (As := [.ref (ma m_ 0), .int (nI (k_ % 40)), .int (nI (k_ / 40))]) (rest := []) ⟨hx, hb, hml, hown, hts⟩ (k_X6_count l D cI cJ cZ cM a (upd (upd (upd (upd (upd (upd iv 13 s13) 14 s14) 15 s15) 16 s16) 17 s17) 18 s18) av ma mv mso mrs n0 fM m_ hm_ (nI (k_ % 40)) (nI (k_ / 40)) _) (cwV 3 hts gX6_take_X6_count rfl rfl rfl (by decide +kernel) ⟨Nat.le_of_ble_eq_true rfl, Nat.le_of_ble_eq_true rfl⟩) (rw_V hG hPc hDc (va_recv hK hPc (ci := 6) (q0 := 0) rfl rfl)) rfl rfl hl.1 rfl (lv_room (Nat.le_of_ble_eq_true rfl)) dX6_take_114 ⟨Nat.le_of_ble_eq_true rfl, Nat.le_of_ble_eq_true rfl⟩) hS (fun q _ h => hFc q h) hFc (fun u_13 t_13 H1 locs ht hvm hw hB hz1 hk1 hS => ?_)
      obtain ⟨i13_13, i14_13, i15_13, i16_13, i17_13, i18_13⟩ := u_13
      obtain ⟨hP1, hD1⟩ := hB
      rw [ht] at hP1
      obtain ⟨hP, hD⟩ := va_joinP (wr := [(a 1, .inl (cI, 1600, .inl (av 1)))]) (rx := [(a 7, .inr (6, [.int i13_13, .int i14_13, .int i15_13, .int i16_13, .int i17_13, .int i18_13]))]) (pl1 := MG cI cJ ma mv mso mrs n0) hP hD [0] [1] rfl rfl (by decide) (by decide) hk1 hFc hP1 hD1
      generalize H1 = H at hP hS ⊢
      have hP : va_P D vwCl ([(a 1, .inl (cI, 1600, .inl (av 1))), (a 7, .inr (6, [.int i13_13, .int i14_13, .int i15_13, .int i16_13, .int i17_13, .int i18_13]))] ++ MG cI cJ ma mv mso mrs n0) H := hP
      have hD : va_D A ([(a 1, .inl (cI, 1600, .inl (av 1))), (a 7, .inr (6, [.int i13_13, .int i14_13, .int i15_13, .int i16_13, .int i17_13, .int i18_13]))] ++ MG cI cJ ma mv mso mrs n0) := hD
      refine lv_iinc (v := nI (k_ + 1)) (lv' := [(4, .int (nI (k_ + 1))), (7, .int ((av 1) k_)), (6, .int (nI (k_ / 40))), (5, .int (nI (k_ % 40))), (3, .ref (ma m_ 1)), (0, .ref (a 7)), (1, .ref (ma m_ 0)), (2, .ref (a 1))]) hx hb dX6_take_117 hl (k := 3) rfl (nI_add k_ 1) (by decide) rfl (fun ls hl => ?_)
      refine lv_goto (tgt := 38) hx hb dX6_take_120 (by decide) ?_
      exact ih (k_ + 1) i13_13 i14_13 i15_13 i16_13 i17_13 i18_13 (by omega) (by omega) _ _ _ (hP.part [1, 0] rfl) (hD.part [1, 0] (by decide) rfl) hS (lv_sub hl [0, 4, 5, 6, 7] rfl) kk0
    · refine lv_iload hx hb dX6_take_38 (lv_at hl 0 rfl) ?_
      refine lv_sipush (v := 1600) hx hb dX6_take_40 (by decide) ?_
      refine lv_icmp_ge (tgt := 123) hx hb dX6_take_43 (by decide) (fun c_14 => ?_) (fun c_14 => absurd (nI_le hge (by omega)) c_14)
      exact kk0 s13 s14 s15 s16 s17 s18 _ _ _  hP hD hS (lv_sub hl [1, 2, 3, 4] rfl)
set_option maxHeartbeats 4000000 in
set_option maxRecDepth 100000 in
/-- X6_take -/
theorem k_X6_take (l : Launch) (D : va_G) (cI cJ cZ cM : Nat) (a : Nat → Nat) (iv : Nat → Int32) (av : Nat → Nat → Int32) (ma : Nat → Nat → Nat) (mv : Nat → Nat → Int32) (mso : Nat → Nat → Int64) (mrs : Nat → Nat → Int32) (n0 : Nat) (fM : Nat → Option Nat) (m_ : Nat) (hm_ : m_ < n0) (sz : Nat) : Met l yX6_take wsX6_take ({ frames := 2, cells := 0, slots := 0, locals := 63 } : Room) (RW D cI cJ cZ cM [.ref (a 7), .ref (ma m_ 0), .ref (a 1)] ([(a 7, .inr (6, [.int (iv 13), .int (iv 14), .int (iv 15), .int (iv 16), .int (iv 17), .int (iv 18)])), (a 1, .inl (cI, 1600, .inl (av 1)))] ++ MG cI cJ ma mv mso mrs n0) sz) (va_Qv (S := Int32 × Int32 × Int32 × Int32 × Int32 × Int32) (fun u => True) (BB D (fun u => [(a 7, .inr (6, [.int u.1, .int u.2.1, .int u.2.2.1, .int u.2.2.2.1, .int u.2.2.2.2.1, .int u.2.2.2.2.2])), (a 1, .inl (cI, 1600, .inl (av 1)))] ++ MG cI cJ ma mv mso mrs n0) (va_A ([(a 7, .inr (6, [.int (iv 13), .int (iv 14), .int (iv 15), .int (iv 16), .int (iv 17), .int (iv 18)])), (a 1, .inl (cI, 1600, .inl (av 1)))] ++ MG cI cJ ma mv mso mrs n0) sz)) (va_A ([(a 7, .inr (6, [.int (iv 13), .int (iv 14), .int (iv 15), .int (iv 16), .int (iv 17), .int (iv 18)])), (a 1, .inl (cI, 1600, .inl (av 1)))] ++ MG cI cJ ma mv mso mrs n0) sz)) 0 0 (va_A ([(a 7, .inr (6, [.int (iv 13), .int (iv 14), .int (iv 15), .int (iv 16), .int (iv 17), .int (iv 18)])), (a 1, .inl (cI, 1600, .inl (av 1)))] ++ MG cI cJ ma mv mso mrs n0) sz) := by
  refine Met.ofW (cc := cX6_take) (maxL := 8) (ret := none) (by decide) rfl ?_
  intro p e s m args below meth c s₁ B hml hv
  obtain ⟨rfl, hsz, hG, hP, hD0⟩ := hv
  have hx := B.exec
  have hb := B.bytes
  have hr := B.returns
  have hts := atoms_spec (ws := wsX6_take) B.pre
  have hown : s.vm.findClass RX6 = some m.cls := findClass_of_methodNamed B.named
  have hlocks := B.notSynchronized
  have hK := hG.1
  have hN := hG.2
  subst hsz
  have hD := hD0.self (sz := s.heap.size)
  generalize hAe : va_A ([(a 7, .inr (6, [.int (iv 13), .int (iv 14), .int (iv 15), .int (iv 16), .int (iv 17), .int (iv 18)])), (a 1, .inl (cI, 1600, .inl (av 1)))] ++ MG cI cJ ma mv mso mrs n0) s.heap.size = A at hD ⊢
  have hA : ∀ q : Nat, s.heap.size ≤ q → A q := fun q h => by rw [← hAe]; exact Or.inr h
  have hS : va_S A s.heap s.heap [] := va_S.rf
  have hP : va_P D vwCl ([(a 7, .inr (6, [.int (iv 13), .int (iv 14), .int (iv 15), .int (iv 16), .int (iv 17), .int (iv 18)])), (a 1, .inl (cI, 1600, .inl (av 1)))] ++ MG cI cJ ma mv mso mrs n0) s.heap := hP
  have hl := lv_entry ([.ref (a 7), .ref (ma m_ 0), .ref (a 1)]) (n := 8) (Nat.le_of_ble_eq_true rfl)
  rw [lg_entry_eq]
  generalize (lg_sl ([.ref (a 7), .ref (ma m_ 0), .ref (a 1)]) ++ List.replicate (8 - (lg_sl ([.ref (a 7), .ref (ma m_ 0), .ref (a 1)])).length) Slot.unset).toArray = ls at hl ⊢
  have hl : lv_has ls 8 [(0, .ref (a 7)), (1, .ref (ma m_ 0)), (2, .ref (a 1))] := hl
  refine lv_aload_n hx hb dX6_take_0 rfl (lv_at hl 0 rfl) ?_
  refine lv_iconst (v := 0) hx hb dX6_take_1 (by decide) ?_
  refine va_put (D := D) (ci := 6) (v := .int 0) (ty := (tyX6 0)) (C := RX6) (T := TX6) (N := 6) hx hb hts (fun _ h9 => List.mem_cons_of_mem _ (List.mem_append_left _ (List.mem_append_left _ (List.mem_append_right _ h9)))) tyX6 tyX6_ok nmX6 hown hK hP hD hS 0 rfl rfl 0 (by decide) (hts (.fieldLink RX6 9 "BuoyTender$Survey" "left" "I") (by decide +kernel)) (fun _ h9 => h9) rfl (by decide +kernel) rfl rfl (Nat.le_of_ble_eq_true rfl) dX6_take_2 (fun H locs hP hD hS => ?_)
  have hP : va_P D vwCl ([(a 7, .inr (6, [.int 0, .int (iv 14), .int (iv 15), .int (iv 16), .int (iv 17), .int (iv 18)])), (a 1, .inl (cI, 1600, .inl (av 1)))] ++ MG cI cJ ma mv mso mrs n0) H := hP
  have hD : va_D A ([(a 7, .inr (6, [.int 0, .int (iv 14), .int (iv 15), .int (iv 16), .int (iv 17), .int (iv 18)])), (a 1, .inl (cI, 1600, .inl (av 1)))] ++ MG cI cJ ma mv mso mrs n0) := hD
  refine lv_aload_n hx hb dX6_take_5 rfl (lv_at hl 0 rfl) ?_
  refine lv_iconst (v := 0) hx hb dX6_take_6 (by decide) ?_
  refine va_put (D := D) (ci := 6) (v := .int 0) (ty := (tyX6 1)) (C := RX6) (T := TX6) (N := 6) hx hb hts (fun _ h9 => List.mem_cons_of_mem _ (List.mem_append_left _ (List.mem_append_left _ (List.mem_append_right _ h9)))) tyX6 tyX6_ok nmX6 hown hK hP hD hS 0 rfl rfl 1 (by decide) (hts (.fieldLink RX6 15 "BuoyTender$Survey" "inRadius" "I") (by decide +kernel)) (fun _ h9 => h9) rfl (by decide +kernel) rfl rfl (Nat.le_of_ble_eq_true rfl) dX6_take_7 (fun H locs hP hD hS => ?_)
  have hP : va_P D vwCl ([(a 7, .inr (6, [.int 0, .int 0, .int (iv 15), .int (iv 16), .int (iv 17), .int (iv 18)])), (a 1, .inl (cI, 1600, .inl (av 1)))] ++ MG cI cJ ma mv mso mrs n0) H := hP
  have hD : va_D A ([(a 7, .inr (6, [.int 0, .int 0, .int (iv 15), .int (iv 16), .int (iv 17), .int (iv 18)])), (a 1, .inl (cI, 1600, .inl (av 1)))] ++ MG cI cJ ma mv mso mrs n0) := hD
  refine lv_aload_n hx hb dX6_take_10 rfl (lv_at hl 0 rfl) ?_
  refine lv_iconst (v := (-1)) hx hb dX6_take_11 (by decide) ?_
  refine va_put (D := D) (ci := 6) (v := .int (-1)) (ty := (tyX6 2)) (C := RX6) (T := TX6) (N := 6) hx hb hts (fun _ h9 => List.mem_cons_of_mem _ (List.mem_append_left _ (List.mem_append_left _ (List.mem_append_right _ h9)))) tyX6 tyX6_ok nmX6 hown hK hP hD hS 0 rfl rfl 2 (by decide) (hts (.fieldLink RX6 18 "BuoyTender$Survey" "leastX" "I") (by decide +kernel)) (fun _ h9 => h9) rfl (by decide +kernel) rfl rfl (Nat.le_of_ble_eq_true rfl) dX6_take_12 (fun H locs hP hD hS => ?_)
  have hP : va_P D vwCl ([(a 7, .inr (6, [.int 0, .int 0, .int (-1), .int (iv 16), .int (iv 17), .int (iv 18)])), (a 1, .inl (cI, 1600, .inl (av 1)))] ++ MG cI cJ ma mv mso mrs n0) H := hP
  have hD : va_D A ([(a 7, .inr (6, [.int 0, .int 0, .int (-1), .int (iv 16), .int (iv 17), .int (iv 18)])), (a 1, .inl (cI, 1600, .inl (av 1)))] ++ MG cI cJ ma mv mso mrs n0) := hD
  refine lv_aload_n hx hb dX6_take_15 rfl (lv_at hl 0 rfl) ?_
  refine lv_iconst (v := (-1)) hx hb dX6_take_16 (by decide) ?_
  refine va_put (D := D) (ci := 6) (v := .int (-1)) (ty := (tyX6 3)) (C := RX6) (T := TX6) (N := 6) hx hb hts (fun _ h9 => List.mem_cons_of_mem _ (List.mem_append_left _ (List.mem_append_left _ (List.mem_append_right _ h9)))) tyX6 tyX6_ok nmX6 hown hK hP hD hS 0 rfl rfl 3 (by decide) (hts (.fieldLink RX6 21 "BuoyTender$Survey" "leastY" "I") (by decide +kernel)) (fun _ h9 => h9) rfl (by decide +kernel) rfl rfl (Nat.le_of_ble_eq_true rfl) dX6_take_17 (fun H locs hP hD hS => ?_)
  have hP : va_P D vwCl ([(a 7, .inr (6, [.int 0, .int 0, .int (-1), .int (-1), .int (iv 17), .int (iv 18)])), (a 1, .inl (cI, 1600, .inl (av 1)))] ++ MG cI cJ ma mv mso mrs n0) H := hP
  have hD : va_D A ([(a 7, .inr (6, [.int 0, .int 0, .int (-1), .int (-1), .int (iv 17), .int (iv 18)])), (a 1, .inl (cI, 1600, .inl (av 1)))] ++ MG cI cJ ma mv mso mrs n0) := hD
  refine lv_aload_n hx hb dX6_take_20 rfl (lv_at hl 0 rfl) ?_
  refine lv_iconst (v := (-1)) hx hb dX6_take_21 (by decide) ?_
  refine va_put (D := D) (ci := 6) (v := .int (-1)) (ty := (tyX6 4)) (C := RX6) (T := TX6) (N := 6) hx hb hts (fun _ h9 => List.mem_cons_of_mem _ (List.mem_append_left _ (List.mem_append_left _ (List.mem_append_right _ h9)))) tyX6 tyX6_ok nmX6 hown hK hP hD hS 0 rfl rfl 4 (by decide) (hts (.fieldLink RX6 24 "BuoyTender$Survey" "mostX" "I") (by decide +kernel)) (fun _ h9 => h9) rfl (by decide +kernel) rfl rfl (Nat.le_of_ble_eq_true rfl) dX6_take_22 (fun H locs hP hD hS => ?_)
  have hP : va_P D vwCl ([(a 7, .inr (6, [.int 0, .int 0, .int (-1), .int (-1), .int (-1), .int (iv 18)])), (a 1, .inl (cI, 1600, .inl (av 1)))] ++ MG cI cJ ma mv mso mrs n0) H := hP
  have hD : va_D A ([(a 7, .inr (6, [.int 0, .int 0, .int (-1), .int (-1), .int (-1), .int (iv 18)])), (a 1, .inl (cI, 1600, .inl (av 1)))] ++ MG cI cJ ma mv mso mrs n0) := hD
  refine lv_aload_n hx hb dX6_take_25 rfl (lv_at hl 0 rfl) ?_
  refine lv_iconst (v := (-1)) hx hb dX6_take_26 (by decide) ?_
  refine va_put (D := D) (ci := 6) (v := .int (-1)) (ty := (tyX6 5)) (C := RX6) (T := TX6) (N := 6) hx hb hts (fun _ h9 => List.mem_cons_of_mem _ (List.mem_append_left _ (List.mem_append_left _ (List.mem_append_right _ h9)))) tyX6 tyX6_ok nmX6 hown hK hP hD hS 0 rfl rfl 5 (by decide) (hts (.fieldLink RX6 27 "BuoyTender$Survey" "mostY" "I") (by decide +kernel)) (fun _ h9 => h9) rfl (by decide +kernel) rfl rfl (Nat.le_of_ble_eq_true rfl) dX6_take_27 (fun H locs hP hD hS => ?_)
  have hP : va_P D vwCl ([(a 7, .inr (6, [.int 0, .int 0, .int (-1), .int (-1), .int (-1), .int (-1)])), (a 1, .inl (cI, 1600, .inl (av 1)))] ++ MG cI cJ ma mv mso mrs n0) H := hP
  have hD : va_D A ([(a 7, .inr (6, [.int 0, .int 0, .int (-1), .int (-1), .int (-1), .int (-1)])), (a 1, .inl (cI, 1600, .inl (av 1)))] ++ MG cI cJ ma mv mso mrs n0) := hD
  refine lv_aload_n hx hb dX6_take_30 rfl (lv_at hl 1 rfl) ?_
  refine va_getN (D := D) (ci := 1) (v := .ref (ma m_ 1)) (C := RX1) (T := TX1) (N := 9) hx hb hts (fun _ h9 => List.mem_cons_of_mem _ (List.mem_append_left _ (List.mem_append_right _ h9))) hown hK hP (2 + (6 * m_ + 0)) (mg_x0 rfl hm_) rfl 3 (by decide) (va_Nw.use rfl (hN.1 (RX6, 30, "BuoyTender$Mark", "sighting", "LBuoyTender$Sighting;", "BuoyTender") (by decide +kernel))) (fun _ h9 => h9) rfl dX6_take_31 ?_
  refine lv_astore_n (lv' := [(3, .ref (ma m_ 1)), (0, .ref (a 7)), (1, .ref (ma m_ 0)), (2, .ref (a 1))]) hx hb dX6_take_34 rfl hl (by decide) rfl (fun ls hl => ?_)
  refine lv_iconst (v := 0) hx hb dX6_take_35 (by decide) ?_
  refine lv_istore (lv' := [(4, .int 0), (3, .ref (ma m_ 1)), (0, .ref (a 7)), (1, .ref (ma m_ 0)), (2, .ref (a 1))]) hx hb dX6_take_36 hl (by decide) rfl (fun ls hl => ?_)
  refine lp_X6_take (fM := fM) (iv := iv) hx hb hml hts hown hG hA hm_ (1600 + 1) 0 0 0 (-1) (-1) (-1) (-1) (Nat.zero_le _) (by omega) _ _ _ hP hD hS (lv_sub hl [0, 1, 2, 3, 4] rfl) (fun s13_1 s14_1 s15_1 s16_1 s17_1 s18_1 H locs ls  hP hD hS hl => ?_)
  have hP9 := hP.part (cx := [(a 7, .inr (6, [.int s13_1, .int s14_1, .int s15_1, .int s16_1, .int s17_1, .int s18_1])), (a 1, .inl (cI, 1600, .inl (av 1)))]) [0, 1] rfl
  have hD9 := hD.part (cx := [(a 7, .inr (6, [.int s13_1, .int s14_1, .int s15_1, .int s16_1, .int s17_1, .int s18_1])), (a 1, .inl (cI, 1600, .inl (av 1)))]) [0, 1] (by decide) rfl
  exact W.vret hx hb hr (fun t ht hW => ⟨⟨(s13_1, s14_1, s15_1, s16_1, s17_1, s18_1), rfl, trivial, ⟨by rw [ht]; exact hP9, hD9⟩⟩, hS.F ht⟩) hS.2.2 dX6_take_123
set_option maxHeartbeats 4000000 in
set_option maxRecDepth 100000 in
/-- X6_how -/
theorem k_X6_how (l : Launch) (D : va_G) (cI cJ cZ cM : Nat) (a : Nat → Nat) (iv : Nat → Int32) (av : Nat → Nat → Int32) : Met l yX6_how wsX6_how ({ frames := 0, cells := 0, slots := 0, locals := 0 } : Room) (RO D cI cJ cZ cM [.ref (a 7)] [(a 7, .inr (6, [.int (iv 13), .int (iv 14), .int (iv 15), .int (iv 16), .int (iv 17), .int (iv 18)]))]) (vp_Si (fun r => True)) 0 0 (fun _ => False) := by
  refine Met.ofW (cc := cX6_how) (maxL := 1) (ret := (some .int)) (by decide) rfl ?_
  intro p e s m args below meth c s₁ B hml hv
  obtain ⟨rfl, hG, hP⟩ := hv
  have hx := B.exec
  have hb := B.bytes
  have hr := B.returns
  have hts := atoms_spec (ws := wsX6_how) B.pre
  have hown : s.vm.findClass RX6 = some m.cls := findClass_of_methodNamed B.named
  have hlocks := B.notSynchronized
  have hK := hG.1
  have hN := hG.2
  have hl := lv_entry ([.ref (a 7)]) (n := 1) (Nat.le_of_ble_eq_true rfl)
  rw [lg_entry_eq]
  generalize (lg_sl ([.ref (a 7)]) ++ List.replicate (1 - (lg_sl ([.ref (a 7)])).length) Slot.unset).toArray = ls at hl ⊢
  have hl : lv_has ls 1 [(0, .ref (a 7))] := hl
  refine lv_aload_n hx hb dX6_how_0 rfl (lv_at hl 0 rfl) ?_
  refine va_get (D := D) (ci := 6) (v := .int (iv 13)) (C := RX6) (T := TX6) (N := 6) hx hb hts (fun _ h9 => List.mem_cons_of_mem _ (List.mem_append_right _ h9)) hown hK hP 0 rfl rfl 0 (by decide) (hts (.fieldLink RX6 9 "BuoyTender$Survey" "left" "I") (by decide +kernel)) (fun _ h9 => h9) rfl dX6_how_1 ?_
  refine lv_if_ne (tgt := 9) hx hb dX6_how_4 (by decide) (fun c_1 => ?_) (fun c_1 => ?_)
  · refine lv_aload_n hx hb dX6_how_9 rfl (lv_at hl 0 rfl) ?_
    refine va_get (D := D) (ci := 6) (v := .int (iv 14)) (C := RX6) (T := TX6) (N := 6) hx hb hts (fun _ h9 => List.mem_cons_of_mem _ (List.mem_append_right _ h9)) hown hK hP 0 rfl rfl 1 (by decide) (hts (.fieldLink RX6 15 "BuoyTender$Survey" "inRadius" "I") (by decide +kernel)) (fun _ h9 => h9) rfl dX6_how_10 ?_
    refine lv_aload_n hx hb dX6_how_13 rfl (lv_at hl 0 rfl) ?_
    refine va_get (D := D) (ci := 6) (v := .int (iv 13)) (C := RX6) (T := TX6) (N := 6) hx hb hts (fun _ h9 => List.mem_cons_of_mem _ (List.mem_append_right _ h9)) hown hK hP 0 rfl rfl 0 (by decide) (hts (.fieldLink RX6 9 "BuoyTender$Survey" "left" "I") (by decide +kernel)) (fun _ h9 => h9) rfl dX6_how_14 ?_
    refine lv_icmp_ne (tgt := 22) hx hb dX6_how_17 (by decide) (fun c_2 => ?_) (fun c_2 => ?_)
    · refine lv_aload_n hx hb dX6_how_22 rfl (lv_at hl 0 rfl) ?_
      refine va_get (D := D) (ci := 6) (v := .int (iv 14)) (C := RX6) (T := TX6) (N := 6) hx hb hts (fun _ h9 => List.mem_cons_of_mem _ (List.mem_append_right _ h9)) hown hK hP 0 rfl rfl 1 (by decide) (hts (.fieldLink RX6 15 "BuoyTender$Survey" "inRadius" "I") (by decide +kernel)) (fun _ h9 => h9) rfl dX6_how_23 ?_
      refine lv_if_ne (tgt := 33) hx hb dX6_how_26 (by decide) (fun c_3 => ?_) (fun c_3 => ?_)
      · refine lv_iconst (v := 0) hx hb dX6_how_33 (by decide) ?_
        exact W.iret (v := 0) hx hb hr (fun t ht hW => ⟨0, rfl, trivial, ht⟩) (fun _ h => by cases h) dX6_how_34
      refine lv_iconst (v := 2) hx hb dX6_how_29 (by decide) ?_
      refine lv_goto (tgt := 34) hx hb dX6_how_30 (by decide) ?_
      exact W.iret (v := 2) hx hb hr (fun t ht hW => ⟨2, rfl, trivial, ht⟩) (fun _ h => by cases h) dX6_how_34
    refine lv_iconst (v := 1) hx hb dX6_how_20 (by decide) ?_
    exact W.iret (v := 1) hx hb hr (fun t ht hW => ⟨1, rfl, trivial, ht⟩) (fun _ h => by cases h) dX6_how_21
  refine lv_iconst (v := 3) hx hb dX6_how_7 (by decide) ?_
  exact W.iret (v := 3) hx hb hr (fun t ht hW => ⟨3, rfl, trivial, ht⟩) (fun _ h => by cases h) dX6_how_8
set_option maxHeartbeats 4000000 in
set_option maxRecDepth 100000 in
/-- X8_surveyed -/
theorem k_X8_surveyed (l : Launch) (D : va_G) (cI cJ cZ cM : Nat) (h0 : Nat) (a : Nat → Nat) (iv : Nat → Int32) (av : Nat → Nat → Int32) (x1 : Int32) (x2 : Int32) : Met l yX8_surveyed wsX8_surveyed ({ frames := 1, cells := 0, slots := 0, locals := 20 } : Room) (RO D cI cJ cZ cM [.ref h0, .int x1, .int x2] [(h0, .inr (8, [.ref (a 1), .ref (a 2), .ref (a 3), .ref (a 4), .ref (a 5), .ref (a 6), .ref (a 7), .ref (a 8), .int (iv 0), .int (iv 1), .int (iv 2), .int (iv 3)])), (a 7, .inr (6, [.int (iv 13), .int (iv 14), .int (iv 15), .int (iv 16), .int (iv 17), .int (iv 18)]))]) (vp_Si (fun r => True)) 0 0 (fun _ => False) := by
  refine Met.ofW (cc := cX8_surveyed) (maxL := 3) (ret := (some .int)) (by decide) rfl ?_
  intro p e s m args below meth c s₁ B hml hv
  obtain ⟨rfl, hG, hP⟩ := hv
  have hx := B.exec
  have hb := B.bytes
  have hr := B.returns
  have hts := atoms_spec (ws := wsX8_surveyed) B.pre
  have hown : s.vm.findClass RX8 = some m.cls := findClass_of_methodNamed B.named
  have hlocks := B.notSynchronized
  have hK := hG.1
  have hN := hG.2
  have hl := lv_entry ([.ref h0, .int x1, .int x2]) (n := 3) (Nat.le_of_ble_eq_true rfl)
  rw [lg_entry_eq]
  generalize (lg_sl ([.ref h0, .int x1, .int x2]) ++ List.replicate (3 - (lg_sl ([.ref h0, .int x1, .int x2])).length) Slot.unset).toArray = ls at hl ⊢
  have hl : lv_has ls 3 [(0, .ref h0), (1, .int x1), (2, .int x2)] := hl
  refine lv_iload_n hx hb dX8_surveyed_0 rfl (lv_at hl 1 rfl) ?_
  by_cases s_1 : x1 = 0
  · refine lv_tableIn (off := 39) (tgt := 40) hx hb dX8_surveyed_1 (by rw [s_1]; decide) (by rw [s_1]; decide) (by rw [s_1]; decide) (by decide) ?_
    refine lv_iload_n hx hb dX8_surveyed_40 rfl (lv_at hl 2 rfl) ?_
    refine lv_if_eq (tgt := 54) hx hb dX8_surveyed_41 (by decide) (fun c_2 => ?_) (fun c_2 => ?_)
    · refine lv_iconst (v := 0) hx hb dX8_surveyed_54 (by decide) ?_
      exact W.iret (v := 0) hx hb hr (fun t ht hW => ⟨0, rfl, trivial, ht⟩) (fun _ h => by cases h) dX8_surveyed_55
    refine lv_aload_n hx hb dX8_surveyed_44 rfl (lv_at hl 0 rfl) ?_
    refine va_get (D := D) (ci := 8) (v := .ref (a 7)) (C := RX8) (T := TX8) (N := 12) hx hb hts (fun _ h9 => List.mem_cons_of_mem _ (List.mem_append_left _ (List.mem_append_right _ h9))) hown hK hP 0 rfl rfl 6 (by decide) (hts (.fieldLink RX8 46 "BuoyTender" "survey" "LBuoyTender$Survey;") (by decide +kernel)) (fun _ h9 => h9) rfl dX8_surveyed_45 ?_
    have hPc := hP.sub (ws' := [(a 7, .inr (6, [.int (iv 13), .int (iv 14), .int (iv 15), .int (iv 16), .int (iv 17), .int (iv 18)]))]) [1] rfl
    refine vp_callSi (va_Run.run (va_runVN (As := []) (rest := []) ⟨hx, hb, hml, hown, hts⟩ (k_X6_how l D cI cJ cZ cM a iv av ) ⟨(va_cnB 0 hts gX8_surveyed_X6_how_n277 rfl rfl rfl (hN.2.1 (RX8, 277, yX6_how, "BuoyTender") (by decide +kernel)) (hts (.initialized RX6) (by decide +kernel)) (by decide +kernel) ⟨Nat.le_of_ble_eq_true rfl, Nat.le_of_ble_eq_true rfl⟩), hts (.instanceMethod yX6_how) (by decide +kernel), hts (.selects RX6 yX6_how yX6_how) (by decide +kernel)⟩ (ro_V hG hPc (va_recv hK hPc (ci := 6) (q0 := 0) rfl rfl)) rfl rfl hl.1 rfl (lv_room (Nat.le_of_ble_eq_true rfl)) dX8_surveyed_48 ⟨Nat.le_of_ble_eq_true rfl, Nat.le_of_ble_eq_true rfl⟩)) (fun r_3 h_3 => ?_)
    refine lv_goto (tgt := 55) hx hb dX8_surveyed_51 (by decide) ?_
    exact W.iret (v := r_3) hx hb hr (fun t ht hW => ⟨r_3, rfl, trivial, ht⟩) (fun _ h => by cases h) dX8_surveyed_55
  by_cases s_4 : x1 = 1
  · refine lv_tableIn (off := 55) (tgt := 56) hx hb dX8_surveyed_1 (by rw [s_4]; decide) (by rw [s_4]; decide) (by rw [s_4]; decide) (by decide) ?_
    refine lv_aload_n hx hb dX8_surveyed_56 rfl (lv_at hl 0 rfl) ?_
    refine va_get (D := D) (ci := 8) (v := .ref (a 7)) (C := RX8) (T := TX8) (N := 12) hx hb hts (fun _ h9 => List.mem_cons_of_mem _ (List.mem_append_left _ (List.mem_append_right _ h9))) hown hK hP 0 rfl rfl 6 (by decide) (hts (.fieldLink RX8 46 "BuoyTender" "survey" "LBuoyTender$Survey;") (by decide +kernel)) (fun _ h9 => h9) rfl dX8_surveyed_57 ?_
    refine va_getN (D := D) (ci := 6) (v := .int (iv 13)) (C := RX6) (T := TX6) (N := 6) hx hb hts (fun _ h9 => List.mem_cons_of_mem _ (List.mem_append_right _ h9)) hown hK hP 1 rfl rfl 0 (by decide) (va_Nw.use rfl (hN.1 (RX8, 280, "BuoyTender$Survey", "left", "I", "BuoyTender") (by decide +kernel))) (fun _ h9 => h9) rfl dX8_surveyed_60 ?_
    exact W.iret (v := (iv 13)) hx hb hr (fun t ht hW => ⟨(iv 13), rfl, trivial, ht⟩) (fun _ h => by cases h) dX8_surveyed_63
  by_cases s_5 : x1 = 2
  · refine lv_tableIn (off := 63) (tgt := 64) hx hb dX8_surveyed_1 (by rw [s_5]; decide) (by rw [s_5]; decide) (by rw [s_5]; decide) (by decide) ?_
    refine lv_aload_n hx hb dX8_surveyed_64 rfl (lv_at hl 0 rfl) ?_
    refine va_get (D := D) (ci := 8) (v := .ref (a 7)) (C := RX8) (T := TX8) (N := 12) hx hb hts (fun _ h9 => List.mem_cons_of_mem _ (List.mem_append_left _ (List.mem_append_right _ h9))) hown hK hP 0 rfl rfl 6 (by decide) (hts (.fieldLink RX8 46 "BuoyTender" "survey" "LBuoyTender$Survey;") (by decide +kernel)) (fun _ h9 => h9) rfl dX8_surveyed_65 ?_
    refine va_getN (D := D) (ci := 6) (v := .int (iv 15)) (C := RX6) (T := TX6) (N := 6) hx hb hts (fun _ h9 => List.mem_cons_of_mem _ (List.mem_append_right _ h9)) hown hK hP 1 rfl rfl 2 (by decide) (va_Nw.use rfl (hN.1 (RX8, 283, "BuoyTender$Survey", "leastX", "I", "BuoyTender") (by decide +kernel))) (fun _ h9 => h9) rfl dX8_surveyed_68 ?_
    exact W.iret (v := (iv 15)) hx hb hr (fun t ht hW => ⟨(iv 15), rfl, trivial, ht⟩) (fun _ h => by cases h) dX8_surveyed_71
  by_cases s_6 : x1 = 3
  · refine lv_tableIn (off := 71) (tgt := 72) hx hb dX8_surveyed_1 (by rw [s_6]; decide) (by rw [s_6]; decide) (by rw [s_6]; decide) (by decide) ?_
    refine lv_aload_n hx hb dX8_surveyed_72 rfl (lv_at hl 0 rfl) ?_
    refine va_get (D := D) (ci := 8) (v := .ref (a 7)) (C := RX8) (T := TX8) (N := 12) hx hb hts (fun _ h9 => List.mem_cons_of_mem _ (List.mem_append_left _ (List.mem_append_right _ h9))) hown hK hP 0 rfl rfl 6 (by decide) (hts (.fieldLink RX8 46 "BuoyTender" "survey" "LBuoyTender$Survey;") (by decide +kernel)) (fun _ h9 => h9) rfl dX8_surveyed_73 ?_
    refine va_getN (D := D) (ci := 6) (v := .int (iv 16)) (C := RX6) (T := TX6) (N := 6) hx hb hts (fun _ h9 => List.mem_cons_of_mem _ (List.mem_append_right _ h9)) hown hK hP 1 rfl rfl 3 (by decide) (va_Nw.use rfl (hN.1 (RX8, 286, "BuoyTender$Survey", "leastY", "I", "BuoyTender") (by decide +kernel))) (fun _ h9 => h9) rfl dX8_surveyed_76 ?_
    exact W.iret (v := (iv 16)) hx hb hr (fun t ht hW => ⟨(iv 16), rfl, trivial, ht⟩) (fun _ h => by cases h) dX8_surveyed_79
  by_cases s_7 : x1 = 4
  · refine lv_tableIn (off := 79) (tgt := 80) hx hb dX8_surveyed_1 (by rw [s_7]; decide) (by rw [s_7]; decide) (by rw [s_7]; decide) (by decide) ?_
    refine lv_aload_n hx hb dX8_surveyed_80 rfl (lv_at hl 0 rfl) ?_
    refine va_get (D := D) (ci := 8) (v := .ref (a 7)) (C := RX8) (T := TX8) (N := 12) hx hb hts (fun _ h9 => List.mem_cons_of_mem _ (List.mem_append_left _ (List.mem_append_right _ h9))) hown hK hP 0 rfl rfl 6 (by decide) (hts (.fieldLink RX8 46 "BuoyTender" "survey" "LBuoyTender$Survey;") (by decide +kernel)) (fun _ h9 => h9) rfl dX8_surveyed_81 ?_
    refine va_getN (D := D) (ci := 6) (v := .int (iv 17)) (C := RX6) (T := TX6) (N := 6) hx hb hts (fun _ h9 => List.mem_cons_of_mem _ (List.mem_append_right _ h9)) hown hK hP 1 rfl rfl 4 (by decide) (va_Nw.use rfl (hN.1 (RX8, 289, "BuoyTender$Survey", "mostX", "I", "BuoyTender") (by decide +kernel))) (fun _ h9 => h9) rfl dX8_surveyed_84 ?_
    exact W.iret (v := (iv 17)) hx hb hr (fun t ht hW => ⟨(iv 17), rfl, trivial, ht⟩) (fun _ h => by cases h) dX8_surveyed_87
  by_cases s_8 : x1 = 5
  · refine lv_tableIn (off := 87) (tgt := 88) hx hb dX8_surveyed_1 (by rw [s_8]; decide) (by rw [s_8]; decide) (by rw [s_8]; decide) (by decide) ?_
    refine lv_aload_n hx hb dX8_surveyed_88 rfl (lv_at hl 0 rfl) ?_
    refine va_get (D := D) (ci := 8) (v := .ref (a 7)) (C := RX8) (T := TX8) (N := 12) hx hb hts (fun _ h9 => List.mem_cons_of_mem _ (List.mem_append_left _ (List.mem_append_right _ h9))) hown hK hP 0 rfl rfl 6 (by decide) (hts (.fieldLink RX8 46 "BuoyTender" "survey" "LBuoyTender$Survey;") (by decide +kernel)) (fun _ h9 => h9) rfl dX8_surveyed_89 ?_
    refine va_getN (D := D) (ci := 6) (v := .int (iv 18)) (C := RX6) (T := TX6) (N := 6) hx hb hts (fun _ h9 => List.mem_cons_of_mem _ (List.mem_append_right _ h9)) hown hK hP 1 rfl rfl 5 (by decide) (va_Nw.use rfl (hN.1 (RX8, 292, "BuoyTender$Survey", "mostY", "I", "BuoyTender") (by decide +kernel))) (fun _ h9 => h9) rfl dX8_surveyed_92 ?_
    exact W.iret (v := (iv 18)) hx hb hr (fun t ht hW => ⟨(iv 18), rfl, trivial, ht⟩) (fun _ h => by cases h) dX8_surveyed_95
  refine lv_tableOut (tgt := 96) hx hb dX8_surveyed_1 (my_out (hi := 5) (fun z hz => by rcases (show z = 0 ∨ z = 1 ∨ z = 2 ∨ z = 3 ∨ z = 4 ∨ z = 5 by omega) with rfl | rfl | rfl | rfl | rfl | rfl <;> assumption) (by decide)) (by decide) ?_
  refine lv_iconst (v := (-1)) hx hb dX8_surveyed_96 (by decide) ?_
  exact W.iret (v := (-1)) hx hb hr (fun t ht hW => ⟨(-1), rfl, trivial, ht⟩) (fun _ h => by cases h) dX8_surveyed_97
set_option maxHeartbeats 4000000 in
set_option maxRecDepth 100000 in
/-- X8_lies -/
theorem k_X8_lies (l : Launch) (D : va_G) (cI cJ cZ cM : Nat) (h0 : Nat) (a : Nat → Nat) (iv : Nat → Int32) (av : Nat → Nat → Int32) (ma : Nat → Nat → Nat) (mv : Nat → Nat → Int32) (mso : Nat → Nat → Int64) (mrs : Nat → Nat → Int32) (n0 : Nat) (fM : Nat → Option Nat) (hn0 : n0 ≤ 10) (hfM : ∀ i, i < 10 → (i < n0 → fM i = some (ma i 0)) ∧ (n0 ≤ i → fM i = none)) (h_n : iv 0 = nI n0) (x1 : Int32) (x2 : Int32) (sz : Nat) : Met l yX8_lies wsX8_lies ({ frames := 3, cells := 0, slots := 0, locals := 90 } : Room) (RW D cI cJ cZ cM [.ref h0, .int x1, .int x2] ([(h0, .inr (8, [.ref (a 1), .ref (a 2), .ref (a 3), .ref (a 4), .ref (a 5), .ref (a 6), .ref (a 7), .ref (a 8), .int (iv 0), .int (iv 1), .int (iv 2), .int (iv 3)])), (a 2, .inl (cM, 10, .inr (.inr (.inr (.inr fM))))), (a 1, .inl (cI, 1600, .inl (av 1))), (a 7, .inr (6, [.int (iv 13), .int (iv 14), .int (iv 15), .int (iv 16), .int (iv 17), .int (iv 18)]))] ++ MG cI cJ ma mv mso mrs n0) sz) (va_Qi (S := Int32 × Int32 × Int32 × Int32 × Int32 × Int32) (fun r u => True) (BB D (fun u => [(h0, .inr (8, [.ref (a 1), .ref (a 2), .ref (a 3), .ref (a 4), .ref (a 5), .ref (a 6), .ref (a 7), .ref (a 8), .int (iv 0), .int (iv 1), .int (iv 2), .int (iv 3)])), (a 2, .inl (cM, 10, .inr (.inr (.inr (.inr fM))))), (a 1, .inl (cI, 1600, .inl (av 1))), (a 7, .inr (6, [.int u.1, .int u.2.1, .int u.2.2.1, .int u.2.2.2.1, .int u.2.2.2.2.1, .int u.2.2.2.2.2]))] ++ MG cI cJ ma mv mso mrs n0) (va_A ([(h0, .inr (8, [.ref (a 1), .ref (a 2), .ref (a 3), .ref (a 4), .ref (a 5), .ref (a 6), .ref (a 7), .ref (a 8), .int (iv 0), .int (iv 1), .int (iv 2), .int (iv 3)])), (a 2, .inl (cM, 10, .inr (.inr (.inr (.inr fM))))), (a 1, .inl (cI, 1600, .inl (av 1))), (a 7, .inr (6, [.int (iv 13), .int (iv 14), .int (iv 15), .int (iv 16), .int (iv 17), .int (iv 18)]))] ++ MG cI cJ ma mv mso mrs n0) sz)) (va_A ([(h0, .inr (8, [.ref (a 1), .ref (a 2), .ref (a 3), .ref (a 4), .ref (a 5), .ref (a 6), .ref (a 7), .ref (a 8), .int (iv 0), .int (iv 1), .int (iv 2), .int (iv 3)])), (a 2, .inl (cM, 10, .inr (.inr (.inr (.inr fM))))), (a 1, .inl (cI, 1600, .inl (av 1))), (a 7, .inr (6, [.int (iv 13), .int (iv 14), .int (iv 15), .int (iv 16), .int (iv 17), .int (iv 18)]))] ++ MG cI cJ ma mv mso mrs n0) sz)) 0 0 (va_A ([(h0, .inr (8, [.ref (a 1), .ref (a 2), .ref (a 3), .ref (a 4), .ref (a 5), .ref (a 6), .ref (a 7), .ref (a 8), .int (iv 0), .int (iv 1), .int (iv 2), .int (iv 3)])), (a 2, .inl (cM, 10, .inr (.inr (.inr (.inr fM))))), (a 1, .inl (cI, 1600, .inl (av 1))), (a 7, .inr (6, [.int (iv 13), .int (iv 14), .int (iv 15), .int (iv 16), .int (iv 17), .int (iv 18)]))] ++ MG cI cJ ma mv mso mrs n0) sz) := by
  refine Met.ofW (cc := cX8_lies) (maxL := 4) (ret := (some .int)) (by decide) rfl ?_
  intro p e s m args below meth c s₁ B hml hv
  obtain ⟨rfl, hsz, hG, hP, hD0⟩ := hv
  have hx := B.exec
  have hb := B.bytes
  have hr := B.returns
  have hts := atoms_spec (ws := wsX8_lies) B.pre
  have hown : s.vm.findClass RX8 = some m.cls := findClass_of_methodNamed B.named
  have hlocks := B.notSynchronized
  have hK := hG.1
  have hN := hG.2
  subst hsz
  have hD := hD0.self (sz := s.heap.size)
  generalize hAe : va_A ([(h0, .inr (8, [.ref (a 1), .ref (a 2), .ref (a 3), .ref (a 4), .ref (a 5), .ref (a 6), .ref (a 7), .ref (a 8), .int (iv 0), .int (iv 1), .int (iv 2), .int (iv 3)])), (a 2, .inl (cM, 10, .inr (.inr (.inr (.inr fM))))), (a 1, .inl (cI, 1600, .inl (av 1))), (a 7, .inr (6, [.int (iv 13), .int (iv 14), .int (iv 15), .int (iv 16), .int (iv 17), .int (iv 18)]))] ++ MG cI cJ ma mv mso mrs n0) s.heap.size = A at hD ⊢
  have hA : ∀ q : Nat, s.heap.size ≤ q → A q := fun q h => by rw [← hAe]; exact Or.inr h
  have hS : va_S A s.heap s.heap [] := va_S.rf
  have hP : va_P D vwCl ([(h0, .inr (8, [.ref (a 1), .ref (a 2), .ref (a 3), .ref (a 4), .ref (a 5), .ref (a 6), .ref (a 7), .ref (a 8), .int (iv 0), .int (iv 1), .int (iv 2), .int (iv 3)])), (a 2, .inl (cM, 10, .inr (.inr (.inr (.inr fM))))), (a 1, .inl (cI, 1600, .inl (av 1))), (a 7, .inr (6, [.int (iv 13), .int (iv 14), .int (iv 15), .int (iv 16), .int (iv 17), .int (iv 18)]))] ++ MG cI cJ ma mv mso mrs n0) s.heap := hP
  have hl := lv_entry ([.ref h0, .int x1, .int x2]) (n := 4) (Nat.le_of_ble_eq_true rfl)
  rw [lg_entry_eq]
  generalize (lg_sl ([.ref h0, .int x1, .int x2]) ++ List.replicate (4 - (lg_sl ([.ref h0, .int x1, .int x2])).length) Slot.unset).toArray = ls at hl ⊢
  have hl : lv_has ls 4 [(0, .ref h0), (1, .int x1), (2, .int x2)] := hl
  refine lv_aload_n hx hb dX8_lies_0 rfl (lv_at hl 0 rfl) ?_
  refine lv_iload_n hx hb dX8_lies_1 rfl (lv_at hl 1 rfl) ?_
  rcases Classical.em (isM n0 x1) with ⟨m1_, hm1_, rfl⟩ | hno_1
  · have hl : lv_has ls 4 [(0, .ref h0), (1, .int (nI m1_)), (2, .int x2)] := hl
    have hPc := hP.sub (ws' := [(h0, .inr (8, [.ref (a 1), .ref (a 2), .ref (a 3), .ref (a 4), .ref (a 5), .ref (a 6), .ref (a 7), .ref (a 8), .int (iv 0), .int (iv 1), .int (iv 2), .int (iv 3)])), (a 2, .inl (cM, 10, .inr (.inr (.inr (.inr fM)))))]) [0, 1] rfl
    refine va_csq (va_Run.run (va_runV (As := [.int (nI m1_)]) (rest := []) ⟨hx, hb, hml, hown, hts⟩ (k_X8_known_y l D cI cJ cZ cM h0 a iv ma n0 fM hn0 hfM h_n m1_ hm1_) (cwV 1 hts gX8_lies_X8_known rfl rfl rfl (by decide +kernel) ⟨Nat.le_of_ble_eq_true rfl, Nat.le_of_ble_eq_true rfl⟩) (ro_V hG hPc (va_recv hK hPc (ci := 8) (q0 := 0) rfl rfl)) rfl rfl hl.1 rfl (lv_room (Nat.le_of_ble_eq_true rfl)) dX8_lies_2 ⟨Nat.le_of_ble_eq_true rfl, Nat.le_of_ble_eq_true rfl⟩)) (fun r_1 h_1 => ?_)
    obtain rfl : r_1 = some (ma m1_ 0) := h_1
    refine W.eq (g2 := F0 m 5 ls [.ref (ma m1_ 0)]) rfl ?_
    refine lv_astore_n (lv' := [(3, .ref (ma m1_ 0)), (0, .ref h0), (1, .int (nI m1_)), (2, .int x2)]) hx hb dX8_lies_5 rfl hl (by decide) rfl (fun ls hl => ?_)
    refine lv_aload_n hx hb dX8_lies_6 rfl (lv_at hl 0 rfl) ?_
    refine lv_ifnonnull (tgt := 12) hx hb dX8_lies_7 (by decide) ?_
    refine lv_iload_n hx hb dX8_lies_12 rfl (lv_at hl 3 rfl) ?_
    refine lv_bipush (v := 6) hx hb dX8_lies_13 (by decide) ?_
    refine lv_icmp_ne (tgt := 23) hx hb dX8_lies_15 (by decide) (fun c_2 => ?_) (fun c_2 => ?_)
    · refine lv_iload_n hx hb dX8_lies_23 rfl (lv_at hl 3 rfl) ?_
      refine lv_bipush (v := 7) hx hb dX8_lies_24 (by decide) ?_
      refine lv_icmp_ne (tgt := 34) hx hb dX8_lies_26 (by decide) (fun c_3 => ?_) (fun c_3 => ?_)
      · refine lv_iload_n hx hb dX8_lies_34 rfl (lv_at hl 3 rfl) ?_
        refine lv_bipush (v := 8) hx hb dX8_lies_35 (by decide) ?_
        refine lv_icmp_ne (tgt := 45) hx hb dX8_lies_37 (by decide) (fun c_4 => ?_) (fun c_4 => ?_)
        · refine lv_iload_n hx hb dX8_lies_45 rfl (lv_at hl 3 rfl) ?_
          refine lv_iconst (v := 0) hx hb dX8_lies_46 (by decide) ?_
          refine lv_iconst (v := 5) hx hb dX8_lies_47 (by decide) ?_
          refine vp_callSi (va_Run.run (va_runS (As := [.int x2, .int 0, .int 5]) (rest := []) ⟨hx, hb, hml, hown, hts⟩ (k_X8_within l x2 0 5) (va_cwS 3 hts gX8_lies_X8_within rfl rfl rfl (by decide +kernel) ⟨Nat.le_of_ble_eq_true rfl, Nat.le_of_ble_eq_true rfl⟩) preEq rfl rfl hl.1 rfl (lv_room (Nat.le_of_ble_eq_true rfl)) dX8_lies_48 ⟨Nat.le_of_ble_eq_true rfl, Nat.le_of_ble_eq_true rfl⟩)) (fun r_5 h_5 => ?_)
          rcases h_5 with ⟨rfl, h_5⟩ | ⟨rfl, h_5⟩
          · refine lv_if_ne (tgt := 56) hx hb dX8_lies_51 (by decide) (fun _ => ?_) (fun c_6 => False.elim (by revert c_6; decide))
            refine lv_aload_n hx hb dX8_lies_56 rfl (lv_at hl 1 rfl) ?_
            refine va_get (D := D) (ci := 8) (v := .ref (a 7)) (C := RX8) (T := TX8) (N := 12) hx hb hts (fun _ h9 => List.mem_cons_of_mem _ (List.mem_append_left _ (List.mem_append_left _ (List.mem_append_right _ h9)))) hown hK hP 0 rfl rfl 6 (by decide) (hts (.fieldLink RX8 46 "BuoyTender" "survey" "LBuoyTender$Survey;") (by decide +kernel)) (fun _ h9 => h9) rfl dX8_lies_57 ?_
            refine lv_aload_n hx hb dX8_lies_60 rfl (lv_at hl 0 rfl) ?_
            refine lv_aload_n hx hb dX8_lies_61 rfl (lv_at hl 1 rfl) ?_
            refine va_get (D := D) (ci := 8) (v := .ref (a 1)) (C := RX8) (T := TX8) (N := 12) hx hb hts (fun _ h9 => List.mem_cons_of_mem _ (List.mem_append_left _ (List.mem_append_left _ (List.mem_append_right _ h9)))) hown hK hP 0 rfl rfl 0 (by decide) (hts (.fieldLink RX8 9 "BuoyTender" "depths" "[I") (by decide +kernel)) (fun _ h9 => h9) rfl dX8_lies_62 ?_
            have hPc := hP.part (cx := [(a 7, .inr (6, [.int (iv 13), .int (iv 14), .int (iv 15), .int (iv 16), .int (iv 17), .int (iv 18)])), (a 1, .inl (cI, 1600, .inl (av 1)))]) [3, 2] rfl
            have hDc := hD.part (cx := [(a 7, .inr (6, [.int (iv 13), .int (iv 14), .int (iv 15), .int (iv 16), .int (iv 17), .int (iv 18)])), (a 1, .inl (cI, 1600, .inl (av 1)))]) [3, 2] (by decide) rfl
            have hFc := va_freeP (cx := [(a 7, .inr (6, [.int (iv 13), .int (iv 14), .int (iv 15), .int (iv 16), .int (iv 17), .int (iv 18)])), (a 1, .inl (cI, 1600, .inl (av 1)))]) hD hS hA [3, 2] rfl
            refine va_callv (va_runVN (As := [.ref (ma m1_ 0), .ref (a 1)]) (rest := []) ⟨hx, hb, hml, hown, hts⟩ (k_X6_take l D cI cJ cZ cM a iv av ma mv mso mrs n0 fM m1_ hm1_ _) ⟨(va_cnB 2 hts gX8_lies_X6_take_n109 rfl rfl rfl (hN.2.1 (RX8, 109, yX6_take, "BuoyTender") (by decide +kernel)) (hts (.initialized RX6) (by decide +kernel)) (by decide +kernel) ⟨Nat.le_of_ble_eq_true rfl, Nat.le_of_ble_eq_true rfl⟩), hts (.instanceMethod yX6_take) (by decide +kernel), hts (.selects RX6 yX6_take yX6_take) (by decide +kernel)⟩ (rw_V hG hPc hDc (va_recv hK hPc (ci := 6) (q0 := 0) rfl rfl)) rfl rfl hl.1 rfl (lv_room (Nat.le_of_ble_eq_true rfl)) dX8_lies_65 ⟨Nat.le_of_ble_eq_true rfl, Nat.le_of_ble_eq_true rfl⟩) hS (fun q _ h => hFc q h) hFc (fun u_7 t_7 H1 locs ht hvm hw hB hz1 hk1 hS => ?_)
            obtain ⟨i13_7, i14_7, i15_7, i16_7, i17_7, i18_7⟩ := u_7
            obtain ⟨hP1, hD1⟩ := hB
            rw [ht] at hP1
            obtain ⟨hP, hD⟩ := va_joinP (wr := [(h0, .inr (8, [.ref (a 1), .ref (a 2), .ref (a 3), .ref (a 4), .ref (a 5), .ref (a 6), .ref (a 7), .ref (a 8), .int (iv 0), .int (iv 1), .int (iv 2), .int (iv 3)])), (a 2, .inl (cM, 10, .inr (.inr (.inr (.inr fM)))))]) (rx := [(a 7, .inr (6, [.int i13_7, .int i14_7, .int i15_7, .int i16_7, .int i17_7, .int i18_7])), (a 1, .inl (cI, 1600, .inl (av 1)))]) (pl1 := MG cI cJ ma mv mso mrs n0) hP hD [3, 2] [0, 1] rfl rfl (by decide) (by decide) hk1 hFc hP1 hD1
            generalize H1 = H at hP hS ⊢
            have hP : va_P D vwCl ([(h0, .inr (8, [.ref (a 1), .ref (a 2), .ref (a 3), .ref (a 4), .ref (a 5), .ref (a 6), .ref (a 7), .ref (a 8), .int (iv 0), .int (iv 1), .int (iv 2), .int (iv 3)])), (a 2, .inl (cM, 10, .inr (.inr (.inr (.inr fM))))), (a 7, .inr (6, [.int i13_7, .int i14_7, .int i15_7, .int i16_7, .int i17_7, .int i18_7])), (a 1, .inl (cI, 1600, .inl (av 1)))] ++ MG cI cJ ma mv mso mrs n0) H := hP
            have hD : va_D A ([(h0, .inr (8, [.ref (a 1), .ref (a 2), .ref (a 3), .ref (a 4), .ref (a 5), .ref (a 6), .ref (a 7), .ref (a 8), .int (iv 0), .int (iv 1), .int (iv 2), .int (iv 3)])), (a 2, .inl (cM, 10, .inr (.inr (.inr (.inr fM))))), (a 7, .inr (6, [.int i13_7, .int i14_7, .int i15_7, .int i16_7, .int i17_7, .int i18_7])), (a 1, .inl (cI, 1600, .inl (av 1)))] ++ MG cI cJ ma mv mso mrs n0) := hD
            refine lv_aload_n hx hb dX8_lies_68 rfl (lv_at hl 1 rfl) ?_
            refine lv_iload_n hx hb dX8_lies_69 rfl (lv_at hl 3 rfl) ?_
            refine lv_aload_n hx hb dX8_lies_70 rfl (lv_at hl 0 rfl) ?_
            refine va_getN (D := D) (ci := 1) (v := .ref (ma m1_ 1)) (C := RX1) (T := TX1) (N := 9) hx hb hts (fun _ h9 => List.mem_cons_of_mem _ (List.mem_append_left _ (List.mem_append_left _ (List.mem_append_left _ (List.mem_append_right _ h9))))) hown hK hP (4 + (6 * m1_ + 0)) (mg_x0 rfl hm1_) rfl 3 (by decide) (va_Nw.use rfl (hN.1 (RX8, 80, "BuoyTender$Mark", "sighting", "LBuoyTender$Sighting;", "BuoyTender") (by decide +kernel))) (fun _ h9 => h9) rfl dX8_lies_71 ?_
            refine va_getN (D := D) (ci := 5) (v := .int (mv m1_ 8)) (C := RX5) (T := TX5) (N := 4) hx hb hts (fun _ h9 => List.mem_cons_of_mem _ (List.mem_append_left _ (List.mem_append_right _ h9))) hown hK hP (4 + (6 * m1_ + 1)) (mg_x1 rfl hm1_) rfl 3 (by decide) (va_Nw.use rfl (hN.1 (RX8, 113, "BuoyTender$Sighting", "told", "Z", "BuoyTender") (by decide +kernel))) (fun _ h9 => h9) rfl dX8_lies_74 ?_
            have hPc := hP.sub (ws' := [(h0, .inr (8, [.ref (a 1), .ref (a 2), .ref (a 3), .ref (a 4), .ref (a 5), .ref (a 6), .ref (a 7), .ref (a 8), .int (iv 0), .int (iv 1), .int (iv 2), .int (iv 3)])), (a 7, .inr (6, [.int i13_7, .int i14_7, .int i15_7, .int i16_7, .int i17_7, .int i18_7]))]) [0, 2] rfl
            refine vp_callSi (va_Run.run (va_runV (As := [.int x2, .int (mv m1_ 8)]) (rest := []) ⟨hx, hb, hml, hown, hts⟩ (k_X8_surveyed l D cI cJ cZ cM h0 a (upd (upd (upd (upd (upd (upd iv 13 i13_7) 14 i14_7) 15 i15_7) 16 i16_7) 17 i17_7) 18 i18_7) av x2 (mv m1_ 8)) (cwV 2 hts gX8_lies_X8_surveyed rfl rfl rfl (by decide +kernel) ⟨Nat.le_of_ble_eq_true rfl, Nat.le_of_ble_eq_true rfl⟩) (ro_V hG hPc (va_recv hK hPc (ci := 8) (q0 := 0) rfl rfl)) rfl rfl hl.1 rfl (lv_room (Nat.le_of_ble_eq_true rfl)) dX8_lies_77 ⟨Nat.le_of_ble_eq_true rfl, Nat.le_of_ble_eq_true rfl⟩)) (fun r_8 h_8 => ?_)
            have hP9 := hP.part (cx := [(h0, .inr (8, [.ref (a 1), .ref (a 2), .ref (a 3), .ref (a 4), .ref (a 5), .ref (a 6), .ref (a 7), .ref (a 8), .int (iv 0), .int (iv 1), .int (iv 2), .int (iv 3)])), (a 2, .inl (cM, 10, .inr (.inr (.inr (.inr fM))))), (a 1, .inl (cI, 1600, .inl (av 1))), (a 7, .inr (6, [.int i13_7, .int i14_7, .int i15_7, .int i16_7, .int i17_7, .int i18_7]))]) [0, 1, 3, 2] rfl
            have hD9 := hD.part (cx := [(h0, .inr (8, [.ref (a 1), .ref (a 2), .ref (a 3), .ref (a 4), .ref (a 5), .ref (a 6), .ref (a 7), .ref (a 8), .int (iv 0), .int (iv 1), .int (iv 2), .int (iv 3)])), (a 2, .inl (cM, 10, .inr (.inr (.inr (.inr fM))))), (a 1, .inl (cI, 1600, .inl (av 1))), (a 7, .inr (6, [.int i13_7, .int i14_7, .int i15_7, .int i16_7, .int i17_7, .int i18_7]))]) [0, 1, 3, 2] (by decide) rfl
            exact W.iret (v := r_8) hx hb hr (fun t ht hW => ⟨⟨r_8, (i13_7, i14_7, i15_7, i16_7, i17_7, i18_7), rfl, trivial, ⟨by rw [ht]; exact hP9, hD9⟩⟩, hS.F ht⟩) hS.2.2 dX8_lies_80
          refine lv_if_ne (tgt := 56) hx hb dX8_lies_51 (by decide) (fun c_9 => False.elim (by revert c_9; decide)) (fun _ => ?_)
          refine lv_iconst (v := (-1)) hx hb dX8_lies_54 (by decide) ?_
          have hP9 := hP.part (cx := [(h0, .inr (8, [.ref (a 1), .ref (a 2), .ref (a 3), .ref (a 4), .ref (a 5), .ref (a 6), .ref (a 7), .ref (a 8), .int (iv 0), .int (iv 1), .int (iv 2), .int (iv 3)])), (a 2, .inl (cM, 10, .inr (.inr (.inr (.inr fM))))), (a 1, .inl (cI, 1600, .inl (av 1))), (a 7, .inr (6, [.int (iv 13), .int (iv 14), .int (iv 15), .int (iv 16), .int (iv 17), .int (iv 18)]))]) [0, 1, 2, 3] rfl
          have hD9 := hD.part (cx := [(h0, .inr (8, [.ref (a 1), .ref (a 2), .ref (a 3), .ref (a 4), .ref (a 5), .ref (a 6), .ref (a 7), .ref (a 8), .int (iv 0), .int (iv 1), .int (iv 2), .int (iv 3)])), (a 2, .inl (cM, 10, .inr (.inr (.inr (.inr fM))))), (a 1, .inl (cI, 1600, .inl (av 1))), (a 7, .inr (6, [.int (iv 13), .int (iv 14), .int (iv 15), .int (iv 16), .int (iv 17), .int (iv 18)]))]) [0, 1, 2, 3] (by decide) rfl
          exact W.iret (v := (-1)) hx hb hr (fun t ht hW => ⟨⟨(-1), (iv 13, iv 14, iv 15, iv 16, iv 17, iv 18), rfl, trivial, ⟨by rw [ht]; exact hP9, hD9⟩⟩, hS.F ht⟩) hS.2.2 dX8_lies_55
        refine lv_aload_n hx hb dX8_lies_40 rfl (lv_at hl 0 rfl) ?_
        refine va_getN (D := D) (ci := 1) (v := .int (mv m1_ 2)) (C := RX1) (T := TX1) (N := 9) hx hb hts (fun _ h9 => List.mem_cons_of_mem _ (List.mem_append_left _ (List.mem_append_left _ (List.mem_append_left _ (List.mem_append_right _ h9))))) hown hK hP (4 + (6 * m1_ + 0)) (mg_x0 rfl hm1_) rfl 2 (by decide) (va_Nw.use rfl (hN.1 (RX8, 106, "BuoyTender$Mark", "radius", "I", "BuoyTender") (by decide +kernel))) (fun _ h9 => h9) rfl dX8_lies_41 ?_
        have hP9 := hP.part (cx := [(h0, .inr (8, [.ref (a 1), .ref (a 2), .ref (a 3), .ref (a 4), .ref (a 5), .ref (a 6), .ref (a 7), .ref (a 8), .int (iv 0), .int (iv 1), .int (iv 2), .int (iv 3)])), (a 2, .inl (cM, 10, .inr (.inr (.inr (.inr fM))))), (a 1, .inl (cI, 1600, .inl (av 1))), (a 7, .inr (6, [.int (iv 13), .int (iv 14), .int (iv 15), .int (iv 16), .int (iv 17), .int (iv 18)]))]) [0, 1, 2, 3] rfl
        have hD9 := hD.part (cx := [(h0, .inr (8, [.ref (a 1), .ref (a 2), .ref (a 3), .ref (a 4), .ref (a 5), .ref (a 6), .ref (a 7), .ref (a 8), .int (iv 0), .int (iv 1), .int (iv 2), .int (iv 3)])), (a 2, .inl (cM, 10, .inr (.inr (.inr (.inr fM))))), (a 1, .inl (cI, 1600, .inl (av 1))), (a 7, .inr (6, [.int (iv 13), .int (iv 14), .int (iv 15), .int (iv 16), .int (iv 17), .int (iv 18)]))]) [0, 1, 2, 3] (by decide) rfl
        exact W.iret (v := (mv m1_ 2)) hx hb hr (fun t ht hW => ⟨⟨(mv m1_ 2), (iv 13, iv 14, iv 15, iv 16, iv 17, iv 18), rfl, trivial, ⟨by rw [ht]; exact hP9, hD9⟩⟩, hS.F ht⟩) hS.2.2 dX8_lies_44
      refine lv_aload_n hx hb dX8_lies_29 rfl (lv_at hl 0 rfl) ?_
      refine va_getN (D := D) (ci := 1) (v := .int (mv m1_ 1)) (C := RX1) (T := TX1) (N := 9) hx hb hts (fun _ h9 => List.mem_cons_of_mem _ (List.mem_append_left _ (List.mem_append_left _ (List.mem_append_left _ (List.mem_append_right _ h9))))) hown hK hP (4 + (6 * m1_ + 0)) (mg_x0 rfl hm1_) rfl 1 (by decide) (va_Nw.use rfl (hN.1 (RX8, 95, "BuoyTender$Mark", "y", "I", "BuoyTender") (by decide +kernel))) (fun _ h9 => h9) rfl dX8_lies_30 ?_
      have hP9 := hP.part (cx := [(h0, .inr (8, [.ref (a 1), .ref (a 2), .ref (a 3), .ref (a 4), .ref (a 5), .ref (a 6), .ref (a 7), .ref (a 8), .int (iv 0), .int (iv 1), .int (iv 2), .int (iv 3)])), (a 2, .inl (cM, 10, .inr (.inr (.inr (.inr fM))))), (a 1, .inl (cI, 1600, .inl (av 1))), (a 7, .inr (6, [.int (iv 13), .int (iv 14), .int (iv 15), .int (iv 16), .int (iv 17), .int (iv 18)]))]) [0, 1, 2, 3] rfl
      have hD9 := hD.part (cx := [(h0, .inr (8, [.ref (a 1), .ref (a 2), .ref (a 3), .ref (a 4), .ref (a 5), .ref (a 6), .ref (a 7), .ref (a 8), .int (iv 0), .int (iv 1), .int (iv 2), .int (iv 3)])), (a 2, .inl (cM, 10, .inr (.inr (.inr (.inr fM))))), (a 1, .inl (cI, 1600, .inl (av 1))), (a 7, .inr (6, [.int (iv 13), .int (iv 14), .int (iv 15), .int (iv 16), .int (iv 17), .int (iv 18)]))]) [0, 1, 2, 3] (by decide) rfl
      exact W.iret (v := (mv m1_ 1)) hx hb hr (fun t ht hW => ⟨⟨(mv m1_ 1), (iv 13, iv 14, iv 15, iv 16, iv 17, iv 18), rfl, trivial, ⟨by rw [ht]; exact hP9, hD9⟩⟩, hS.F ht⟩) hS.2.2 dX8_lies_33
    refine lv_aload_n hx hb dX8_lies_18 rfl (lv_at hl 0 rfl) ?_
    refine va_getN (D := D) (ci := 1) (v := .int (mv m1_ 0)) (C := RX1) (T := TX1) (N := 9) hx hb hts (fun _ h9 => List.mem_cons_of_mem _ (List.mem_append_left _ (List.mem_append_left _ (List.mem_append_left _ (List.mem_append_right _ h9))))) hown hK hP (4 + (6 * m1_ + 0)) (mg_x0 rfl hm1_) rfl 0 (by decide) (va_Nw.use rfl (hN.1 (RX8, 92, "BuoyTender$Mark", "x", "I", "BuoyTender") (by decide +kernel))) (fun _ h9 => h9) rfl dX8_lies_19 ?_
    have hP9 := hP.part (cx := [(h0, .inr (8, [.ref (a 1), .ref (a 2), .ref (a 3), .ref (a 4), .ref (a 5), .ref (a 6), .ref (a 7), .ref (a 8), .int (iv 0), .int (iv 1), .int (iv 2), .int (iv 3)])), (a 2, .inl (cM, 10, .inr (.inr (.inr (.inr fM))))), (a 1, .inl (cI, 1600, .inl (av 1))), (a 7, .inr (6, [.int (iv 13), .int (iv 14), .int (iv 15), .int (iv 16), .int (iv 17), .int (iv 18)]))]) [0, 1, 2, 3] rfl
    have hD9 := hD.part (cx := [(h0, .inr (8, [.ref (a 1), .ref (a 2), .ref (a 3), .ref (a 4), .ref (a 5), .ref (a 6), .ref (a 7), .ref (a 8), .int (iv 0), .int (iv 1), .int (iv 2), .int (iv 3)])), (a 2, .inl (cM, 10, .inr (.inr (.inr (.inr fM))))), (a 1, .inl (cI, 1600, .inl (av 1))), (a 7, .inr (6, [.int (iv 13), .int (iv 14), .int (iv 15), .int (iv 16), .int (iv 17), .int (iv 18)]))]) [0, 1, 2, 3] (by decide) rfl
    exact W.iret (v := (mv m1_ 0)) hx hb hr (fun t ht hW => ⟨⟨(mv m1_ 0), (iv 13, iv 14, iv 15, iv 16, iv 17, iv 18), rfl, trivial, ⟨by rw [ht]; exact hP9, hD9⟩⟩, hS.F ht⟩) hS.2.2 dX8_lies_22
  · have hPc := hP.sub (ws' := [(h0, .inr (8, [.ref (a 1), .ref (a 2), .ref (a 3), .ref (a 4), .ref (a 5), .ref (a 6), .ref (a 7), .ref (a 8), .int (iv 0), .int (iv 1), .int (iv 2), .int (iv 3)])), (a 2, .inl (cM, 10, .inr (.inr (.inr (.inr fM)))))]) [0, 1] rfl
    refine va_csq (va_Run.run (va_runV (As := [.int x1]) (rest := []) ⟨hx, hb, hml, hown, hts⟩ (k_X8_known_n l D cI cJ cZ cM h0 a iv ma n0 fM hn0 hfM h_n x1 hno_1) (cwV 1 hts gX8_lies_X8_known rfl rfl rfl (by decide +kernel) ⟨Nat.le_of_ble_eq_true rfl, Nat.le_of_ble_eq_true rfl⟩) (ro_V hG hPc (va_recv hK hPc (ci := 8) (q0 := 0) rfl rfl)) rfl rfl hl.1 rfl (lv_room (Nat.le_of_ble_eq_true rfl)) dX8_lies_2 ⟨Nat.le_of_ble_eq_true rfl, Nat.le_of_ble_eq_true rfl⟩)) (fun r_1 h_1 => ?_)
    obtain rfl : r_1 = none := h_1
    refine W.eq (g2 := F0 m 5 ls [.null]) rfl ?_
    refine lv_astore_nN (lv' := [(3, .null), (0, .ref h0), (1, .int x1), (2, .int x2)]) hx hb dX8_lies_5 rfl hl (by decide) rfl (fun ls hl => ?_)
    refine lv_aload_nN hx hb dX8_lies_6 rfl (lv_at hl 0 rfl) ?_
    refine lv_ifnonnullN hx hb dX8_lies_7 ?_
    refine lv_iconst (v := (-1)) hx hb dX8_lies_10 (by decide) ?_
    have hP9 := hP.part (cx := [(h0, .inr (8, [.ref (a 1), .ref (a 2), .ref (a 3), .ref (a 4), .ref (a 5), .ref (a 6), .ref (a 7), .ref (a 8), .int (iv 0), .int (iv 1), .int (iv 2), .int (iv 3)])), (a 2, .inl (cM, 10, .inr (.inr (.inr (.inr fM))))), (a 1, .inl (cI, 1600, .inl (av 1))), (a 7, .inr (6, [.int (iv 13), .int (iv 14), .int (iv 15), .int (iv 16), .int (iv 17), .int (iv 18)]))]) [0, 1, 2, 3] rfl
    have hD9 := hD.part (cx := [(h0, .inr (8, [.ref (a 1), .ref (a 2), .ref (a 3), .ref (a 4), .ref (a 5), .ref (a 6), .ref (a 7), .ref (a 8), .int (iv 0), .int (iv 1), .int (iv 2), .int (iv 3)])), (a 2, .inl (cM, 10, .inr (.inr (.inr (.inr fM))))), (a 1, .inl (cI, 1600, .inl (av 1))), (a 7, .inr (6, [.int (iv 13), .int (iv 14), .int (iv 15), .int (iv 16), .int (iv 17), .int (iv 18)]))]) [0, 1, 2, 3] (by decide) rfl
    exact W.iret (v := (-1)) hx hb hr (fun t ht hW => ⟨⟨(-1), (iv 13, iv 14, iv 15, iv 16, iv 17, iv 18), rfl, trivial, ⟨by rw [ht]; exact hP9, hD9⟩⟩, hS.F ht⟩) hS.2.2 dX8_lies_11
