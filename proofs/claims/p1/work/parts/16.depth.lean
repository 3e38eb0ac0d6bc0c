set_option maxHeartbeats 4000000 in
set_option maxRecDepth 100000 in
/-- X8_depth: the inner loop writes its places and goes on; what the row holds then is left open -/
theorem lpi_X8_depth {p : Program} {l : Launch} {e : Env} {R : Room} {s : State} {m : MethodId} {args : Array Value} {below : List Frame} {meth : Method} {c : Code} {cells slots : Nat} {Q : State → Prop} {D : va_G} {cI cJ cZ cM : Nat} {A : Nat → Prop} {h0 : Nat} {a : Nat → Nat} (hx : p.tables.exec = Jvm.exec) (hb : c.code = cX8_depth) (hts : ∀ w ∈ wsX8_depth, w.before args s = true) (hown : s.vm.findClass RX8 = some m.cls) (hK : va_K D vwCl (TY cI cJ cZ cM) s) (hN : NL s) {O OM N NM : Nat} (hM : NM ≤ 39) {x5 : Int32} :
    ∀ (n col row : Nat), row ≤ 39 → col + n = NM + 1 → ∀ (f : Nat → Int32) (H : Heap) (locs : List Loc) (ls : Array Slot), va_P D vwCl [(h0, .inr (8, [.ref (a 1), .ref (a 2), .ref (a 3), .ref (a 4), .ref (a 5), .ref (a 6), .ref (a 7), .null, .int 0, .int 0, .int 0, .int 0])), (a 1, .inl (cI, 1600, .inl f))] H → va_D A [(h0, .inr (8, [.ref (a 1), .ref (a 2), .ref (a 3), .ref (a 4), .ref (a 5), .ref (a 6), .ref (a 7), .null, .int 0, .int 0, .int 0, .int 0])), (a 1, .inl (cI, 1600, .inl f))] → va_S A s.heap H locs → lv_has ls 8 [(7, .int (nI col)), (6, .int (nI row)), (0, .ref h0), (1, .int (nI N)), (2, .int (nI O)), (3, .int (nI NM)), (4, .int (nI OM)), (5, .int x5)] → (∀ (f : Nat → Int32) (H : Heap) (locs : List Loc) (ls : Array Slot), va_P D vwCl [(h0, .inr (8, [.ref (a 1), .ref (a 2), .ref (a 3), .ref (a 4), .ref (a 5), .ref (a 6), .ref (a 7), .null, .int 0, .int 0, .int 0, .int 0])), (a 1, .inl (cI, 1600, .inl f))] H → va_D A [(h0, .inr (8, [.ref (a 1), .ref (a 2), .ref (a 3), .ref (a 4), .ref (a 5), .ref (a 6), .ref (a 7), .null, .int 0, .int 0, .int 0, .int 0])), (a 1, .inl (cI, 1600, .inl f))] → va_S A s.heap H locs → lv_has ls 8 [(6, .int (nI row)), (0, .ref h0), (1, .int (nI N)), (2, .int (nI O)), (3, .int (nI NM)), (4, .int (nI OM)), (5, .int x5)] → W p l e R s m args below meth c H locs cells slots Q (F0 m 82 ls [])) → W p l e R s m args below meth c H locs cells slots Q (F0 m 55 ls []) := by
  intro n
  induction n with
  | zero =>
    intro col row hrow hcol f H locs ls hP hD hS hl kk
    refine lv_iload hx hb dX8_depth_55 (lv_at hl 0 rfl) ?_
    refine lv_iload_n hx hb dX8_depth_57 rfl (lv_at hl 5 rfl) ?_
    refine lv_icmp_gt (tgt := 82) hx hb dX8_depth_58 (by decide) (fun c_1 => ?_) (fun c_1 => absurd (nI_lt (by omega) (by omega)) c_1)
    exact kk _ _ _ _ hP hD hS (lv_sub hl [1, 2, 3, 4, 5, 6, 7] rfl)
  | succ n ih =>
    intro col row hrow hcol f H locs ls hP hD hS hl kk
    refine lv_iload hx hb dX8_depth_55 (lv_at hl 0 rfl) ?_
    refine lv_iload_n hx hb dX8_depth_57 rfl (lv_at hl 5 rfl) ?_
    refine lv_icmp_gt (tgt := 82) hx hb dX8_depth_58 (by decide) (fun c_1 => absurd c_1 (nI_nlt (by omega) (by omega))) (fun c_1 => ?_)
    refine lv_aload_n hx hb dX8_depth_61 rfl (lv_at hl 2 rfl) ?_
    refine va_get (D := D) (ci := 8) (v := .ref (a 1)) (C := RX8) (T := TX8) (N := 12) hx hb hts (fun _ h9 => List.mem_cons_of_mem _ (List.mem_append_right _ h9)) hown hK hP 0 rfl rfl 0 (by decide) (hts (.fieldLink RX8 9 "BuoyTender" "depths" "[I") (by decide +kernel)) (fun _ h9 => h9) rfl dX8_depth_62 ?_
    refine lv_iload hx hb dX8_depth_65 (lv_at hl 1 rfl) ?_
    refine lv_bipush (v := 40) hx hb dX8_depth_67 (by decide) ?_
    refine lv_imul hx hb dX8_depth_69 ?_
    refine lv_iload hx hb dX8_depth_70 (lv_at hl 0 rfl) ?_
    refine lv_iadd hx hb dX8_depth_72 ?_
    refine lv_iload hx hb dX8_depth_73 (lv_at hl 7 rfl) ?_
    refine va_iast hx hb hK hP hD hS 1 0 rfl rfl (ix_rc (by omega) (by omega)) dX8_depth_75 (fun H locs hP hD hS => ?_)
    have hP : va_P D vwCl [(h0, .inr (8, [.ref (a 1), .ref (a 2), .ref (a 3), .ref (a 4), .ref (a 5), .ref (a 6), .ref (a 7), .null, .int 0, .int 0, .int 0, .int 0])), (a 1, .inl (cI, 1600, .inl (upd f (((nI row) * 40) + (nI col)).toNatClampNeg x5)))] H := hP
    have hD : va_D A [(h0, .inr (8, [.ref (a 1), .ref (a 2), .ref (a 3), .ref (a 4), .ref (a 5), .ref (a 6), .ref (a 7), .null, .int 0, .int 0, .int 0, .int 0])), (a 1, .inl (cI, 1600, .inl (upd f (((nI row) * 40) + (nI col)).toNatClampNeg x5)))] := hD
    refine lv_iinc (v := (nI (col + 1))) (lv' := [(7, .int (nI (col + 1))), (6, .int (nI row)), (0, .ref h0), (1, .int (nI N)), (2, .int (nI O)), (3, .int (nI NM)), (4, .int (nI OM)), (5, .int x5)]) hx hb dX8_depth_76 hl (k := 0) rfl (nI_1 col) (by decide) rfl (fun ls hl => ?_)
    refine lv_goto (tgt := 55) hx hb dX8_depth_79 (by decide) ?_
    exact ih (col + 1) row hrow (by omega) _ _ _ _ hP hD hS (lv_sub hl [0, 1, 2, 3, 4, 5, 6, 7] rfl) kk
set_option maxHeartbeats 4000000 in
set_option maxRecDepth 100000 in
/-- X8_depth: the outer loop -/
theorem lpo_X8_depth {p : Program} {l : Launch} {e : Env} {R : Room} {s : State} {m : MethodId} {args : Array Value} {below : List Frame} {meth : Method} {c : Code} {cells slots : Nat} {Q : State → Prop} {D : va_G} {cI cJ cZ cM : Nat} {A : Nat → Prop} {h0 : Nat} {a : Nat → Nat} (hx : p.tables.exec = Jvm.exec) (hb : c.code = cX8_depth) (hts : ∀ w ∈ wsX8_depth, w.before args s = true) (hown : s.vm.findClass RX8 = some m.cls) (hK : va_K D vwCl (TY cI cJ cZ cM) s) (hN : NL s) {O OM N NM : Nat} (hM : NM ≤ 39) (hOM : OM ≤ 39) (hNN : N ≤ NM) {x5 : Int32} :
    ∀ (n row : Nat), row + n = OM + 1 → ∀ (f : Nat → Int32) (H : Heap) (locs : List Loc) (ls : Array Slot), va_P D vwCl [(h0, .inr (8, [.ref (a 1), .ref (a 2), .ref (a 3), .ref (a 4), .ref (a 5), .ref (a 6), .ref (a 7), .null, .int 0, .int 0, .int 0, .int 0])), (a 1, .inl (cI, 1600, .inl f))] H → va_D A [(h0, .inr (8, [.ref (a 1), .ref (a 2), .ref (a 3), .ref (a 4), .ref (a 5), .ref (a 6), .ref (a 7), .null, .int 0, .int 0, .int 0, .int 0])), (a 1, .inl (cI, 1600, .inl f))] → va_S A s.heap H locs → lv_has ls 8 [(6, .int (nI row)), (0, .ref h0), (1, .int (nI N)), (2, .int (nI O)), (3, .int (nI NM)), (4, .int (nI OM)), (5, .int x5)] → (∀ (f : Nat → Int32) (H : Heap) (locs : List Loc) (ls : Array Slot), va_P D vwCl [(h0, .inr (8, [.ref (a 1), .ref (a 2), .ref (a 3), .ref (a 4), .ref (a 5), .ref (a 6), .ref (a 7), .null, .int 0, .int 0, .int 0, .int 0])), (a 1, .inl (cI, 1600, .inl f))] H → va_D A [(h0, .inr (8, [.ref (a 1), .ref (a 2), .ref (a 3), .ref (a 4), .ref (a 5), .ref (a 6), .ref (a 7), .null, .int 0, .int 0, .int 0, .int 0])), (a 1, .inl (cI, 1600, .inl f))] → va_S A s.heap H locs → lv_has ls 8 [(0, .ref h0), (1, .int (nI N)), (2, .int (nI O)), (3, .int (nI NM)), (4, .int (nI OM)), (5, .int x5)] → W p l e R s m args below meth c H locs cells slots Q (F0 m 88 ls [])) → W p l e R s m args below meth c H locs cells slots Q (F0 m 45 ls []) := by
  intro n
  induction n with
  | zero =>
    intro row hrow f H locs ls hP hD hS hl kk
    refine lv_iload hx hb dX8_depth_45 (lv_at hl 0 rfl) ?_
    refine lv_iload hx hb dX8_depth_47 (lv_at hl 5 rfl) ?_
    refine lv_icmp_gt (tgt := 88) hx hb dX8_depth_49 (by decide) (fun c_1 => ?_) (fun c_1 => absurd (nI_lt (by omega) (by omega)) c_1)
    exact kk _ _ _ _ hP hD hS (lv_sub hl [1, 2, 3, 4, 5, 6] rfl)
  | succ n ih =>
    intro row hrow f H locs ls hP hD hS hl kk
    refine lv_iload hx hb dX8_depth_45 (lv_at hl 0 rfl) ?_
    refine lv_iload hx hb dX8_depth_47 (lv_at hl 5 rfl) ?_
    refine lv_icmp_gt (tgt := 88) hx hb dX8_depth_49 (by decide) (fun c_1 => absurd c_1 (nI_nlt (by omega) (by omega))) (fun c_1 => ?_)
    refine lv_iload_n hx hb dX8_depth_52 rfl (lv_at hl 2 rfl) ?_
    refine lv_istore (lv' := [(7, .int (nI N)), (6, .int (nI row)), (0, .ref h0), (1, .int (nI N)), (2, .int (nI O)), (3, .int (nI NM)), (4, .int (nI OM)), (5, .int x5)]) hx hb dX8_depth_53 hl (by decide) rfl (fun ls hl => ?_)
    refine lpi_X8_depth hx hb hts hown hK hN hM (NM + 1 - N) N row (by omega) (by omega) _ _ _ _ hP hD hS (lv_sub hl [0, 1, 2, 3, 4, 5, 6, 7] rfl) (fun f H locs ls hP hD hS hl => ?_)
    refine lv_iinc (v := (nI (row + 1))) (lv' := [(6, .int (nI (row + 1))), (0, .ref h0), (1, .int (nI N)), (2, .int (nI O)), (3, .int (nI NM)), (4, .int (nI OM)), (5, .int x5)]) hx hb dX8_depth_82 hl (k := 0) rfl (nI_1 row) (by decide) rfl (fun ls hl => ?_)
    refine lv_goto (tgt := 45) hx hb dX8_depth_85 (by decide) ?_
    exact ih (row + 1) (by omega) _ _ _ _ hP hD hS (lv_sub hl [0, 1, 2, 3, 4, 5, 6] rfl) kk
set_option maxHeartbeats 4000000 in
set_option maxRecDepth 100000 in
/-- depth on a fresh object -/
theorem k_X8_depth (l : Launch) (D : va_G) (cI cJ cZ cM : Nat) (h0 : Nat) (a : Nat → Nat) (x1 : Int32) (x2 : Int32) (x3 : Int32) (x4 : Int32) (x5 : Int32) (sz : Nat) : Met l yX8_depth wsX8_depth ({ frames := 2, cells := 0, slots := 0, locals := 43 } : Room) (RW D cI cJ cZ cM [.ref h0, .int x1, .int x2, .int x3, .int x4, .int x5] [(h0, .inr (8, [.ref (a 1), .ref (a 2), .ref (a 3), .ref (a 4), .ref (a 5), .ref (a 6), .ref (a 7), .null, .int 0, .int 0, .int 0, .int 0])), (a 1, .inl (cI, 1600, .inl (fun _ => 0)))] sz) (va_Qi (S := Unit) (fun r u => okI 1 0 (placeP x1 x2 ∧ placeP x3 x4 ∧ ¬ x3 < x1 ∧ ¬ x4 < x2 ∧ (0 ≤ x5 ∧ x5 ≤ 200)) r) (fun _ _ => True) (va_A [(h0, .inr (8, [.ref (a 1), .ref (a 2), .ref (a 3), .ref (a 4), .ref (a 5), .ref (a 6), .ref (a 7), .null, .int 0, .int 0, .int 0, .int 0])), (a 1, .inl (cI, 1600, .inl (fun _ => 0)))] sz)) 0 0 (va_A [(h0, .inr (8, [.ref (a 1), .ref (a 2), .ref (a 3), .ref (a 4), .ref (a 5), .ref (a 6), .ref (a 7), .null, .int 0, .int 0, .int 0, .int 0])), (a 1, .inl (cI, 1600, .inl (fun _ => 0)))] sz) := by
  refine Met.ofW (cc := cX8_depth) (maxL := 8) (ret := (some .boolean)) (by decide) rfl ?_
  intro p e s m args below meth c s₁ B hml hv
  obtain ⟨rfl, hsz, hG, hP, hD0⟩ := hv
  have hx := B.exec
  have hb := B.bytes
  have hr := B.returns
  have hts := atoms_spec (ws := wsX8_depth) B.pre
  have hown : s.vm.findClass RX8 = some m.cls := findClass_of_methodNamed B.named
  have hlocks := B.notSynchronized
  have hK := hG.1
  have hN := hG.2
  subst hsz
  have hD := hD0.self (sz := s.heap.size)
  generalize hAe : va_A [(h0, .inr (8, [.ref (a 1), .ref (a 2), .ref (a 3), .ref (a 4), .ref (a 5), .ref (a 6), .ref (a 7), .null, .int 0, .int 0, .int 0, .int 0])), (a 1, .inl (cI, 1600, .inl (fun _ => 0)))] s.heap.size = A at hD ⊢
  have hA : ∀ q : Nat, s.heap.size ≤ q → A q := fun q h => by rw [← hAe]; exact Or.inr h
  have hS : va_S A s.heap s.heap [] := va_S.rf
  have hP : va_P D vwCl [(h0, .inr (8, [.ref (a 1), .ref (a 2), .ref (a 3), .ref (a 4), .ref (a 5), .ref (a 6), .ref (a 7), .null, .int 0, .int 0, .int 0, .int 0])), (a 1, .inl (cI, 1600, .inl (fun _ => 0)))] s.heap := hP
  have hl := lv_entry ([.ref h0, .int x1, .int x2, .int x3, .int x4, .int x5]) (n := 8) (Nat.le_of_ble_eq_true rfl)
  rw [lg_entry_eq]
  generalize (lg_sl ([.ref h0, .int x1, .int x2, .int x3, .int x4, .int x5]) ++ List.replicate (8 - (lg_sl ([.ref h0, .int x1, .int x2, .int x3, .int x4, .int x5])).length) Slot.unset).toArray = ls at hl ⊢
  have hl : lv_has ls 8 [(0, .ref h0), (1, .int x1), (2, .int x2), (3, .int x3), (4, .int x4), (5, .int x5)] := hl
  refine lv_iload_n hx hb dX8_depth_0 rfl (lv_at hl 1 rfl) ?_
  refine lv_iload_n hx hb dX8_depth_1 rfl (lv_at hl 2 rfl) ?_
  refine vp_callSi (va_Run.run (va_runS (As := [.int x1, .int x2]) (rest := []) ⟨hx, hb, hml, hown, hts⟩ (k_X8_isPlace l x1 x2) (va_cwS 2 hts gX8_depth_X8_isPlace rfl rfl rfl (by decide +kernel) ⟨Nat.le_of_ble_eq_true rfl, Nat.le_of_ble_eq_true rfl⟩) preEq rfl rfl hl.1 rfl (lv_room (Nat.le_of_ble_eq_true rfl)) dX8_depth_2 ⟨Nat.le_of_ble_eq_true rfl, Nat.le_of_ble_eq_true rfl⟩)) (fun r_1 h_1 => ?_)
  rcases h_1 with ⟨rfl, h_1⟩ | ⟨rfl, h_1⟩
  · refine lv_if_eq (tgt := 40) hx hb dX8_depth_5 (by decide) (fun c_2 => False.elim (by revert c_2; decide)) (fun _ => ?_)
    refine lv_iload_n hx hb dX8_depth_8 rfl (lv_at hl 3 rfl) ?_
    refine lv_iload hx hb dX8_depth_9 (lv_at hl 4 rfl) ?_
    refine vp_callSi (va_Run.run (va_runS (As := [.int x3, .int x4]) (rest := []) ⟨hx, hb, hml, hown, hts⟩ (k_X8_isPlace l x3 x4) (va_cwS 2 hts gX8_depth_X8_isPlace rfl rfl rfl (by decide +kernel) ⟨Nat.le_of_ble_eq_true rfl, Nat.le_of_ble_eq_true rfl⟩) preEq rfl rfl hl.1 rfl (lv_room (Nat.le_of_ble_eq_true rfl)) dX8_depth_11 ⟨Nat.le_of_ble_eq_true rfl, Nat.le_of_ble_eq_true rfl⟩)) (fun r_3 h_3 => ?_)
    rcases h_3 with ⟨rfl, h_3⟩ | ⟨rfl, h_3⟩
    · refine lv_if_eq (tgt := 40) hx hb dX8_depth_14 (by decide) (fun c_4 => False.elim (by revert c_4; decide)) (fun _ => ?_)
      refine lv_iload_n hx hb dX8_depth_17 rfl (lv_at hl 1 rfl) ?_
      refine lv_iload_n hx hb dX8_depth_18 rfl (lv_at hl 3 rfl) ?_
      refine lv_icmp_gt (tgt := 40) hx hb dX8_depth_19 (by decide) (fun c_5 => ?_) (fun c_5 => ?_)
      · refine lv_iconst (v := 0) hx hb dX8_depth_40 (by decide) ?_
        exact W.zret (v := 0) hx hb hr rfl (fun t ht hW => ⟨⟨0, (), rfl, (Or.inr ⟨rfl, fun h9 => h9.2.2.1 c_5⟩), trivial⟩, hS.F ht⟩) hS.2.2 dX8_depth_41
      refine lv_iload_n hx hb dX8_depth_22 rfl (lv_at hl 2 rfl) ?_
      refine lv_iload hx hb dX8_depth_23 (lv_at hl 4 rfl) ?_
      refine lv_icmp_gt (tgt := 40) hx hb dX8_depth_25 (by decide) (fun c_6 => ?_) (fun c_6 => ?_)
      · refine lv_iconst (v := 0) hx hb dX8_depth_40 (by decide) ?_
        exact W.zret (v := 0) hx hb hr rfl (fun t ht hW => ⟨⟨0, (), rfl, (Or.inr ⟨rfl, fun h9 => h9.2.2.2.1 c_6⟩), trivial⟩, hS.F ht⟩) hS.2.2 dX8_depth_41
      refine lv_iload hx hb dX8_depth_28 (lv_at hl 5 rfl) ?_
      refine lv_iconst (v := 0) hx hb dX8_depth_30 (by decide) ?_
      refine lv_sipush (v := 200) hx hb dX8_depth_31 (by decide) ?_
      refine vp_callSi (va_Run.run (va_runS (As := [.int x5, .int 0, .int 200]) (rest := []) ⟨hx, hb, hml, hown, hts⟩ (k_X8_within l x5 0 200) (va_cwS 3 hts gX8_depth_X8_within rfl rfl rfl (by decide +kernel) ⟨Nat.le_of_ble_eq_true rfl, Nat.le_of_ble_eq_true rfl⟩) preEq rfl rfl hl.1 rfl (lv_room (Nat.le_of_ble_eq_true rfl)) dX8_depth_34 ⟨Nat.le_of_ble_eq_true rfl, Nat.le_of_ble_eq_true rfl⟩)) (fun r_7 h_7 => ?_)
      rcases h_7 with ⟨rfl, h_7⟩ | ⟨rfl, h_7⟩
      · refine lv_if_ne (tgt := 42) hx hb dX8_depth_37 (by decide) (fun _ => ?_) (fun c_8 => False.elim (by revert c_8; decide))
        refine lv_iload_n hx hb dX8_depth_42 rfl (lv_at hl 2 rfl) ?_
        refine lv_istore (lv' := [(6, .int x2), (0, .ref h0), (1, .int x1), (2, .int x2), (3, .int x3), (4, .int x4), (5, .int x5)]) hx hb dX8_depth_43 hl (by decide) rfl (fun ls hl => ?_)
        obtain ⟨N, hqN, rfl⟩ := nI_of2 (M := 39) (n := 39) (by decide) (Int32.not_lt.mpr h_1.1.1) h_1.1.2
        obtain ⟨O, hqO, rfl⟩ := nI_of2 (M := 39) (n := 39) (by decide) (Int32.not_lt.mpr h_1.2.1) h_1.2.2
        obtain ⟨NM, hqNM, rfl⟩ := nI_of2 (M := 39) (n := 39) (by decide) (Int32.not_lt.mpr h_3.1.1) h_3.1.2
        obtain ⟨OM, hqOM, rfl⟩ := nI_of2 (M := 39) (n := 39) (by decide) (Int32.not_lt.mpr h_3.2.1) h_3.2.2
        have hlo : O ≤ OM := Nat.le_of_not_lt (fun q => c_6 (nI_lt q (by omega)))
        have hln : N ≤ NM := Nat.le_of_not_lt (fun q => c_5 (nI_lt q (by omega)))
        refine lpo_X8_depth hx hb hts hown hK hN hqNM hqOM hln (OM + 1 - O) O (by omega) _ _ _ _ hP hD hS (lv_sub hl [0, 1, 2, 3, 4, 5, 6] rfl) (fun f H locs ls hP hD hS hl => ?_)
        refine lv_aload_n hx hb dX8_depth_88 rfl (lv_at hl 0 rfl) ?_
        refine lv_iconst (v := 0) hx hb dX8_depth_89 (by decide) ?_
        refine va_put (D := D) (ci := 8) (v := .int 0) (ty := (tyX8 11)) (C := RX8) (T := TX8) (N := 12) hx hb hts (fun _ h9 => List.mem_cons_of_mem _ (List.mem_append_right _ h9)) tyX8 tyX8_ok nmX8 hown hK hP hD hS 0 rfl rfl 11 (by decide) (hts (.fieldLink RX8 58 "BuoyTender" "planned" "Z") (by decide +kernel)) (fun _ h9 => h9) rfl (by decide +kernel) rfl rfl (Nat.le_of_ble_eq_true rfl) dX8_depth_90 (fun H locs hP hD hS => ?_)
        have hP : va_P D vwCl [(h0, .inr (8, [.ref (a 1), .ref (a 2), .ref (a 3), .ref (a 4), .ref (a 5), .ref (a 6), .ref (a 7), .null, .int 0, .int 0, .int 0, .int 0])), (a 1, .inl (cI, 1600, .inl f))] H := hP
        have hD : va_D A [(h0, .inr (8, [.ref (a 1), .ref (a 2), .ref (a 3), .ref (a 4), .ref (a 5), .ref (a 6), .ref (a 7), .null, .int 0, .int 0, .int 0, .int 0])), (a 1, .inl (cI, 1600, .inl f))] := hD
        refine lv_iconst (v := 1) hx hb dX8_depth_93 (by decide) ?_
        exact W.zret (v := 1) hx hb hr rfl (fun t ht hW => ⟨⟨1, (), rfl, (Or.inl ⟨rfl, h_1, h_3, c_5, c_6, h_7⟩), trivial⟩, hS.F ht⟩) hS.2.2 dX8_depth_94
      refine lv_if_ne (tgt := 42) hx hb dX8_depth_37 (by decide) (fun c_9 => False.elim (by revert c_9; decide)) (fun _ => ?_)
      refine lv_iconst (v := 0) hx hb dX8_depth_40 (by decide) ?_
      exact W.zret (v := 0) hx hb hr rfl (fun t ht hW => ⟨⟨0, (), rfl, (Or.inr ⟨rfl, fun h9 => h_7 (h9.2.2.2.2)⟩), trivial⟩, hS.F ht⟩) hS.2.2 dX8_depth_41
    refine lv_if_eq (tgt := 40) hx hb dX8_depth_14 (by decide) (fun _ => ?_) (fun c_10 => False.elim (by revert c_10; decide))
    refine lv_iconst (v := 0) hx hb dX8_depth_40 (by decide) ?_
    exact W.zret (v := 0) hx hb hr rfl (fun t ht hW => ⟨⟨0, (), rfl, (Or.inr ⟨rfl, fun h9 => h_3 (h9.2.1)⟩), trivial⟩, hS.F ht⟩) hS.2.2 dX8_depth_41
  refine lv_if_eq (tgt := 40) hx hb dX8_depth_5 (by decide) (fun _ => ?_) (fun c_11 => False.elim (by revert c_11; decide))
  refine lv_iconst (v := 0) hx hb dX8_depth_40 (by decide) ?_
  exact W.zret (v := 0) hx hb hr rfl (fun t ht hW => ⟨⟨0, (), rfl, (Or.inr ⟨rfl, fun h9 => h_1 (h9.1)⟩), trivial⟩, hS.F ht⟩) hS.2.2 dX8_depth_41
