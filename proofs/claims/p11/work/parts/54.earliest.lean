set_option maxHeartbeats 4000000 in
set_option maxRecDepth 100000 in
/-- X2_earliestEnd: the loop at 36 -/
theorem lp_X2_earliestEnd {p : Program} {l : Launch} {e : Env} {s : State} {m : MethodId} {args : Array Value} {below : List Frame} {meth : Method} {c : Code} {Q : State → Prop} {D : va_G} {cI cJ cZ cM : Nat} {a : Nat → Nat} {iv : Nat → Int32} {av : Nat → Nat → Int32} {cc : Nat} {S : Nat} {j : Nat} {s_ : Nat} {H : Heap} (hx : p.tables.exec = Jvm.exec) (hb : c.code = cX2_earliestEnd) (hml : c.maxLocals = 7) (hts : ∀ w ∈ wsX2_earliestEnd, w.before args s = true) (hown : s.vm.findClass RX2 = some m.cls) (hG : GK D cI cJ cZ cM s) (hP : va_P D vwCl [(a 6, .inr (2, [.ref (a 16), .ref (a 17), .ref (a 18), .ref (a 19), .ref (a 20), .ref (a 21), .ref (a 22), .ref (a 23), .ref (a 24), .ref (a 25), .ref (a 26), .ref (a 27), .int (iv 20), .int (iv 21), .int (iv 22), .int (iv 23)])), (a 17, .inl (cI, 10, .inl (av 17))), (a 20, .inl (cI, 121, .inl (av 20))), (a 21, .inl (cI, 240, .inl (av 21))), (a 23, .inl (cI, 10240, .inl (av 23))), (a 5, .inr (4, [.ref (a 13), .ref (a 14), .int (iv 5), .int (iv 6), .int (iv 7), .int (iv 8), .int (iv 9), .int (iv 10), .int (iv 11), .int (iv 12)]))] H) (h_c : iv 20 = nI cc) (hcc : cc ≤ 10) (hs_ : s_ < 1024) (hj : j < 10) :
    ∀ (k9 : Nat) (k_ : Nat) (z : Int32), (k_ ≤ cc) → cc - k_ < k9 → ∀ (ls : Array Slot), lv_has ls 7 [(6, .int (nI k_)), (5, .int z), (0, .ref (a 6)), (1, .int (nI S)), (2, .int (nI j)), (3, .ref (a 5)), (4, .int (nI s_))] → (∀ (z : Int32) (ls : Array Slot), lv_has ls 7 [(5, .int z), (0, .ref (a 6)), (1, .int (nI S)), (2, .int (nI j)), (3, .ref (a 5)), (4, .int (nI s_))] → W p l e (headSpec wsX2_earliestEnd ({ frames := 1, cells := 0, slots := 0, locals := 40 } : Room)).room s m args below meth c H [] 0 0 Q (F0 m 94 ls [])) → W p l e (headSpec wsX2_earliestEnd ({ frames := 1, cells := 0, slots := 0, locals := 40 } : Room)).room s m args below meth c H [] 0 0 Q (F0 m 36 ls []) := by
  have hK := hG.1
  have hN := hG.2
  intro k9
  induction k9 with
  | zero => intro k_ z hk hfu; exact absurd hfu (Nat.not_lt_zero _)
  | succ k9 ih =>
    intro k_ z hk hfu ls hl kk0
    rcases Nat.lt_or_ge k_ cc with hlt | hge
    · refine lv_iload hx hb dX2_earliestEnd_36 (lv_at hl 0 rfl) ?_
      refine lv_aload_n hx hb dX2_earliestEnd_38 rfl (lv_at hl 2 rfl) ?_
      refine va_get (D := D) (ci := 2) (v := .int (iv 20)) (C := RX2) (T := TX2) (N := 16) hx hb hts (fun _ h9 => List.mem_cons_of_mem _ (List.mem_append_right _ h9)) hown hK hP 0 rfl rfl 12 (by decide) (hts (.fieldLink RX2 76 "BuoyTender$Planner" "count" "I") (by decide +kernel)) (fun _ h9 => h9) rfl dX2_earliestEnd_39 ?_
      refine lv_topi (fun z_1 ez_1 => ?_)
      obtain rfl : z_1 = nI cc := ez_1.trans h_c
      refine lv_icmp_ge (tgt := 94) hx hb dX2_earliestEnd_42 (by decide) (fun c_2 => absurd c_2 (nI_ge hlt (by omega))) (fun c_2 => ?_)
      refine lv_iload hx hb dX2_earliestEnd_45 (lv_at hl 0 rfl) ?_
      refine lv_iload hx hb dX2_earliestEnd_47 (lv_at hl 6 rfl) ?_
      refine vp_callSi (va_Run.run (va_runS (As := [.int (nI k_), .int (nI s_)]) (rest := []) ⟨hx, hb, hml, hown, hts⟩ (k_X2_isIn l (nI k_) (nI s_)) (va_cwS 2 hts gX2_earliestEnd_X2_isIn rfl rfl rfl (by decide +kernel) ⟨Nat.le_of_ble_eq_true rfl, Nat.le_of_ble_eq_true rfl⟩) preEq rfl rfl hl.1 rfl (lv_room (Nat.le_of_ble_eq_true rfl)) dX2_earliestEnd_49 ⟨Nat.le_of_ble_eq_true rfl, Nat.le_of_ble_eq_true rfl⟩)) (fun r_3 h_3 => ?_)
      refine lv_if_eq (tgt := 88) hx hb dX2_earliestEnd_52 (by decide) (fun c_4 => ?_) (fun c_4 => ?_)
      · refine lv_iinc (v := nI (k_ + 1)) (lv' := [(6, .int (nI (k_ + 1))), (5, .int z), (0, .ref (a 6)), (1, .int (nI S)), (2, .int (nI j)), (3, .ref (a 5)), (4, .int (nI s_))]) hx hb dX2_earliestEnd_88 hl (k := 0) rfl (nI_add k_ 1) (by decide) rfl (fun ls hl => ?_)
        refine lv_goto (tgt := 36) hx hb dX2_earliestEnd_91 (by decide) ?_
        exact ih (k_ + 1) z (by omega) (by omega) _ (lv_sub hl [0, 1, 2, 3, 4, 5, 6] rfl) kk0
      refine lv_iload hx hb dX2_earliestEnd_55 (lv_at hl 1 rfl) ?_
      refine lv_aload_n hx hb dX2_earliestEnd_57 rfl (lv_at hl 2 rfl) ?_
      refine va_get (D := D) (ci := 2) (v := .ref (a 23)) (C := RX2) (T := TX2) (N := 16) hx hb hts (fun _ h9 => List.mem_cons_of_mem _ (List.mem_append_right _ h9)) hown hK hP 0 rfl rfl 7 (by decide) (hts (.fieldLink RX2 33 "BuoyTender$Planner" "ends" "[I") (by decide +kernel)) (fun _ h9 => h9) rfl dX2_earliestEnd_58 ?_
      refine lv_iload hx hb dX2_earliestEnd_61 (lv_at hl 6 rfl) ?_
      refine lv_bipush (v := 10) hx hb dX2_earliestEnd_63 (by decide) ?_
      refine lv_imul hx hb dX2_earliestEnd_65 ?_
      refine lv_topi (fun z_5 ez_5 => ?_)
      obtain rfl : z_5 = nI (s_ * 10) := ez_5.trans (pk_mul s_ 10)
      refine lv_iload hx hb dX2_earliestEnd_66 (lv_at hl 0 rfl) ?_
      refine lv_iadd hx hb dX2_earliestEnd_68 ?_
      refine lv_topi (fun z_6 ez_6 => ?_)
      obtain rfl : z_6 = nI ((s_ * 10) + k_) := ez_6.trans (nI_add (s_ * 10) k_)
      refine va_iald hx hb hK hP 4 0 rfl rfl (vp_in_nI (by omega) (by decide)) dX2_earliestEnd_69 ?_
      refine lv_topi (fun z_7 ez_7 => ?_)
      obtain rfl : z_7 = (av 23) ((s_ * 10) + k_) := ez_7.trans (congrArg (av 23) (nI_clamp (by omega)))
      refine lv_aload_n hx hb dX2_earliestEnd_70 rfl (lv_at hl 2 rfl) ?_
      refine va_get (D := D) (ci := 2) (v := .ref (a 20)) (C := RX2) (T := TX2) (N := 16) hx hb hts (fun _ h9 => List.mem_cons_of_mem _ (List.mem_append_right _ h9)) hown hK hP 0 rfl rfl 4 (by decide) (hts (.fieldLink RX2 24 "BuoyTender$Planner" "ways" "[I") (by decide +kernel)) (fun _ h9 => h9) rfl dX2_earliestEnd_71 ?_
      refine lv_iload hx hb dX2_earliestEnd_74 (lv_at hl 0 rfl) ?_
      refine lv_bipush (v := 11) hx hb dX2_earliestEnd_76 (by decide) ?_
      refine lv_imul hx hb dX2_earliestEnd_78 ?_
      refine lv_topi (fun z_8 ez_8 => ?_)
      obtain rfl : z_8 = nI (k_ * 11) := ez_8.trans (pk_mul k_ 11)
      refine lv_iload_n hx hb dX2_earliestEnd_79 rfl (lv_at hl 4 rfl) ?_
      refine lv_iadd hx hb dX2_earliestEnd_80 ?_
      refine lv_topi (fun z_9 ez_9 => ?_)
      obtain rfl : z_9 = nI ((k_ * 11) + j) := ez_9.trans (nI_add (k_ * 11) j)
      refine va_iald hx hb hK hP 2 0 rfl rfl (vp_in_nI (by omega) (by decide)) dX2_earliestEnd_81 ?_
      refine lv_topi (fun z_10 ez_10 => ?_)
      obtain rfl : z_10 = (av 20) ((k_ * 11) + j) := ez_10.trans (congrArg (av 20) (nI_clamp (by omega)))
      refine lv_iadd hx hb dX2_earliestEnd_82 ?_
      refine va_mmin hx hb (hml.trans hl.1.symm) hown (hts (.methodLink RX2 133 Lib.Math.min.name) (by decide +kernel)) (hts (.static Lib.Math.min.name) (by decide +kernel)) (hts (.initialized "java/lang/Math") (by decide +kernel)) (hts (.code Lib.Math.min.name Lib.Math.min.code 2 (some .int)) (by decide +kernel)) (Nat.le_of_ble_eq_true rfl) (Nat.le_of_ble_eq_true rfl) (Nat.le_of_ble_eq_true rfl) (Nat.le_of_ble_eq_true rfl) dX2_earliestEnd_83 ?_
      refine lv_topi (fun z_11 ez_11 => ?_)
      refine lv_istore (lv' := [(5, .int z_11), (6, .int (nI k_)), (0, .ref (a 6)), (1, .int (nI S)), (2, .int (nI j)), (3, .ref (a 5)), (4, .int (nI s_))]) hx hb dX2_earliestEnd_86 hl (by decide) rfl (fun ls hl => ?_)
      refine lv_iinc (v := nI (k_ + 1)) (lv' := [(6, .int (nI (k_ + 1))), (5, .int z_11), (0, .ref (a 6)), (1, .int (nI S)), (2, .int (nI j)), (3, .ref (a 5)), (4, .int (nI s_))]) hx hb dX2_earliestEnd_88 hl (k := 1) rfl (nI_add k_ 1) (by decide) rfl (fun ls hl => ?_)
      refine lv_goto (tgt := 36) hx hb dX2_earliestEnd_91 (by decide) ?_
      exact ih (k_ + 1) z_11 (by omega) (by omega) _ (lv_sub hl [0, 1, 2, 3, 4, 5, 6] rfl) kk0
    · refine lv_iload hx hb dX2_earliestEnd_36 (lv_at hl 0 rfl) ?_
      refine lv_aload_n hx hb dX2_earliestEnd_38 rfl (lv_at hl 2 rfl) ?_
      refine va_get (D := D) (ci := 2) (v := .int (iv 20)) (C := RX2) (T := TX2) (N := 16) hx hb hts (fun _ h9 => List.mem_cons_of_mem _ (List.mem_append_right _ h9)) hown hK hP 0 rfl rfl 12 (by decide) (hts (.fieldLink RX2 76 "BuoyTender$Planner" "count" "I") (by decide +kernel)) (fun _ h9 => h9) rfl dX2_earliestEnd_39 ?_
      refine lv_topi (fun z_12 ez_12 => ?_)
      obtain rfl : z_12 = nI cc := ez_12.trans h_c
      refine lv_icmp_ge (tgt := 94) hx hb dX2_earliestEnd_42 (by decide) (fun c_13 => ?_) (fun c_13 => absurd (nI_le hge (by omega)) c_13)
      exact kk0 z _  (lv_sub hl [1, 2, 3, 4, 5, 6] rfl)
set_option maxHeartbeats 4000000 in
set_option maxRecDepth 100000 in
/-- X2_earliestEnd -/
theorem k_X2_earliestEnd (l : Launch) (D : va_G) (cI cJ cZ cM : Nat) (a : Nat → Nat) (iv : Nat → Int32) (av : Nat → Nat → Int32) (cc : Nat) (h_c : iv 20 = nI cc) (hcc : cc ≤ 10) (S : Nat) (hSS : S < 1024) (j : Nat) (hj : j < 10) : Met l yX2_earliestEnd wsX2_earliestEnd ({ frames := 1, cells := 0, slots := 0, locals := 40 } : Room) (RO D cI cJ cZ cM [.ref (a 6), .int (nI S), .int (nI j), .ref (a 5)] [(a 6, .inr (2, [.ref (a 16), .ref (a 17), .ref (a 18), .ref (a 19), .ref (a 20), .ref (a 21), .ref (a 22), .ref (a 23), .ref (a 24), .ref (a 25), .ref (a 26), .ref (a 27), .int (iv 20), .int (iv 21), .int (iv 22), .int (iv 23)])), (a 17, .inl (cI, 10, .inl (av 17))), (a 20, .inl (cI, 121, .inl (av 20))), (a 21, .inl (cI, 240, .inl (av 21))), (a 23, .inl (cI, 10240, .inl (av 23))), (a 5, .inr (4, [.ref (a 13), .ref (a 14), .int (iv 5), .int (iv 6), .int (iv 7), .int (iv 8), .int (iv 9), .int (iv 10), .int (iv 11), .int (iv 12)]))]) (vp_Si (fun r => True)) 0 0 (fun _ => False) := by
  refine Met.ofW (cc := cX2_earliestEnd) (maxL := 7) (ret := (some .int)) (by decide) rfl ?_
  intro p e s m args below meth c s₁ B hml hv
  obtain ⟨rfl, hG, hP⟩ := hv
  have hx := B.exec
  have hb := B.bytes
  have hr := B.returns
  have hts := atoms_spec (ws := wsX2_earliestEnd) B.pre
  have hown : s.vm.findClass RX2 = some m.cls := findClass_of_methodNamed B.named
  have hlocks := B.notSynchronized
  have hK := hG.1
  have hN := hG.2
  have hl := lv_entry ([.ref (a 6), .int (nI S), .int (nI j), .ref (a 5)]) (n := 7) (Nat.le_of_ble_eq_true rfl)
  rw [lg_entry_eq]
  generalize (lg_sl ([.ref (a 6), .int (nI S), .int (nI j), .ref (a 5)]) ++ List.replicate (7 - (lg_sl ([.ref (a 6), .int (nI S), .int (nI j), .ref (a 5)])).length) Slot.unset).toArray = ls at hl ⊢
  have hl : lv_has ls 7 [(0, .ref (a 6)), (1, .int (nI S)), (2, .int (nI j)), (3, .ref (a 5))] := hl
  refine lv_iload_n hx hb dX2_earliestEnd_0 rfl (lv_at hl 2 rfl) ?_
  refine lv_iload_n hx hb dX2_earliestEnd_1 rfl (lv_at hl 1 rfl) ?_
  refine vp_callSi (va_Run.run (va_runS (As := [.int (nI j), .int (nI S)]) (rest := []) ⟨hx, hb, hml, hown, hts⟩ (k_X2_without l (nI j) S (by omega)) (va_cwS 2 hts gX2_earliestEnd_X2_without rfl rfl rfl (by decide +kernel) ⟨Nat.le_of_ble_eq_true rfl, Nat.le_of_ble_eq_true rfl⟩) preEq rfl rfl hl.1 rfl (lv_room (Nat.le_of_ble_eq_true rfl)) dX2_earliestEnd_2 ⟨Nat.le_of_ble_eq_true rfl, Nat.le_of_ble_eq_true rfl⟩)) (fun r_1 h_1 => ?_)
  obtain ⟨s_1, hs_1, rfl⟩ := h_1
  refine lv_istore (lv' := [(4, .int (nI s_1)), (0, .ref (a 6)), (1, .int (nI S)), (2, .int (nI j)), (3, .ref (a 5))]) hx hb dX2_earliestEnd_5 hl (by decide) rfl (fun ls hl => ?_)
  refine lv_iload hx hb dX2_earliestEnd_7 (lv_at hl 0 rfl) ?_
  refine lv_if_ne (tgt := 29) hx hb dX2_earliestEnd_9 (by decide) (fun c_2 => ?_) (fun c_2 => ?_)
  · refine lv_ldc (v := 1000000) hx hb hown (hts (.constant RX2 131 1000000) (by decide +kernel)) dX2_earliestEnd_29 ?_
    refine lv_istore (lv' := [(5, .int 1000000), (4, .int (nI s_1)), (0, .ref (a 6)), (1, .int (nI S)), (2, .int (nI j)), (3, .ref (a 5))]) hx hb dX2_earliestEnd_31 hl (by decide) rfl (fun ls hl => ?_)
    refine lv_iconst (v := 0) hx hb dX2_earliestEnd_33 (by decide) ?_
    refine lv_istore (lv' := [(6, .int 0), (5, .int 1000000), (4, .int (nI s_1)), (0, .ref (a 6)), (1, .int (nI S)), (2, .int (nI j)), (3, .ref (a 5))]) hx hb dX2_earliestEnd_34 hl (by decide) rfl (fun ls hl => ?_)
    have hPl := hP.sub (ws' := [(a 6, .inr (2, [.ref (a 16), .ref (a 17), .ref (a 18), .ref (a 19), .ref (a 20), .ref (a 21), .ref (a 22), .ref (a 23), .ref (a 24), .ref (a 25), .ref (a 26), .ref (a 27), .int (iv 20), .int (iv 21), .int (iv 22), .int (iv 23)])), (a 17, .inl (cI, 10, .inl (av 17))), (a 20, .inl (cI, 121, .inl (av 20))), (a 21, .inl (cI, 240, .inl (av 21))), (a 23, .inl (cI, 10240, .inl (av 23))), (a 5, .inr (4, [.ref (a 13), .ref (a 14), .int (iv 5), .int (iv 6), .int (iv 7), .int (iv 8), .int (iv 9), .int (iv 10), .int (iv 11), .int (iv 12)]))]) [0, 1, 2, 3, 4, 5] rfl
    refine lp_X2_earliestEnd hx hb hml hts hown hG hPl h_c hcc (by omega) hj (cc + 1) 0 1000000 (Nat.zero_le _) (by omega) _ (lv_sub hl [0, 1, 3, 4, 5, 6, 2] rfl) (fun z_3 ls  hl => ?_)
    refine lv_aload_n hx hb dX2_earliestEnd_94 rfl (lv_at hl 1 rfl) ?_
    refine lv_iload_n hx hb dX2_earliestEnd_95 rfl (lv_at hl 3 rfl) ?_
    refine lv_iload hx hb dX2_earliestEnd_96 (lv_at hl 0 rfl) ?_
    have hPc := hP.sub (ws' := [(a 6, .inr (2, [.ref (a 16), .ref (a 17), .ref (a 18), .ref (a 19), .ref (a 20), .ref (a 21), .ref (a 22), .ref (a 23), .ref (a 24), .ref (a 25), .ref (a 26), .ref (a 27), .int (iv 20), .int (iv 21), .int (iv 22), .int (iv 23)])), (a 21, .inl (cI, 240, .inl (av 21)))]) [0, 3] rfl
    refine vp_callSi (va_Run.run (va_runV (As := [.int (nI j), .int z_3]) (rest := []) ⟨hx, hb, hml, hown, hts⟩ (k_X2_beginFrom l D cI cJ cZ cM a iv av j (by omega) z_3) (cwV 2 hts gX2_earliestEnd_X2_beginFrom rfl rfl rfl (by decide +kernel) ⟨Nat.le_of_ble_eq_true rfl, Nat.le_of_ble_eq_true rfl⟩) (ro_V hG hPc (va_recv hK hPc (ci := 2) (q0 := 0) rfl rfl)) rfl rfl hl.1 rfl (lv_room (Nat.le_of_ble_eq_true rfl)) dX2_earliestEnd_98 ⟨Nat.le_of_ble_eq_true rfl, Nat.le_of_ble_eq_true rfl⟩)) (fun r_4 h_4 => ?_)
    refine lv_aload_n hx hb dX2_earliestEnd_101 rfl (lv_at hl 1 rfl) ?_
    refine va_get (D := D) (ci := 2) (v := .ref (a 17)) (C := RX2) (T := TX2) (N := 16) hx hb hts (fun _ h9 => List.mem_cons_of_mem _ (List.mem_append_right _ h9)) hown hK hP 0 rfl rfl 1 (by decide) (hts (.fieldLink RX2 15 "BuoyTender$Planner" "minutes" "[I") (by decide +kernel)) (fun _ h9 => h9) rfl dX2_earliestEnd_102 ?_
    refine lv_iload_n hx hb dX2_earliestEnd_105 rfl (lv_at hl 3 rfl) ?_
    refine va_iald hx hb hK hP 1 0 rfl rfl (vp_in_nI (by omega) (by decide)) dX2_earliestEnd_106 ?_
    refine lv_topi (fun z_5 ez_5 => ?_)
    obtain rfl : z_5 = (av 17) j := ez_5.trans (congrArg (av 17) (nI_clamp (by omega)))
    refine lv_iadd hx hb dX2_earliestEnd_107 ?_
    refine lv_istore (lv' := [(6, .int (r_4 + ((av 17) j))), (5, .int z_3), (0, .ref (a 6)), (1, .int (nI S)), (2, .int (nI j)), (3, .ref (a 5)), (4, .int (nI s_1))]) hx hb dX2_earliestEnd_108 hl (by decide) rfl (fun ls hl => ?_)
    refine lv_iload hx hb dX2_earliestEnd_110 (lv_at hl 0 rfl) ?_
    refine lv_aload_n hx hb dX2_earliestEnd_112 rfl (lv_at hl 5 rfl) ?_
    refine va_getN (D := D) (ci := 4) (v := .int (iv 8)) (C := RX4) (T := TX4) (N := 10) hx hb hts (fun _ h9 => List.mem_cons_of_mem _ (List.mem_append_left _ (List.mem_append_right _ h9))) hown hK hP 5 rfl rfl 5 (by decide) (va_Nw.use rfl (hN.1 (RX2, 150, "BuoyTender$Ship", "end", "I", "BuoyTender") (by decide +kernel))) (fun _ h9 => h9) rfl dX2_earliestEnd_113 ?_
    refine lv_icmp_gt (tgt := 124) hx hb dX2_earliestEnd_116 (by decide) (fun c_6 => ?_) (fun c_6 => ?_)
    · refine lv_ldc (v := 1000000) hx hb hown (hts (.constant RX2 131 1000000) (by decide +kernel)) dX2_earliestEnd_124 ?_
      exact W.iret (v := 1000000) hx hb hr (fun t ht hW => ⟨1000000, rfl, trivial, ht⟩) (fun _ h => by cases h) dX2_earliestEnd_126
    refine lv_iload hx hb dX2_earliestEnd_119 (lv_at hl 0 rfl) ?_
    refine lv_goto (tgt := 126) hx hb dX2_earliestEnd_121 (by decide) ?_
    exact W.iret (v := (r_4 + ((av 17) j))) hx hb hr (fun t ht hW => ⟨(r_4 + ((av 17) j)), rfl, trivial, ht⟩) (fun _ h => by cases h) dX2_earliestEnd_126
  refine lv_aload_n hx hb dX2_earliestEnd_12 rfl (lv_at hl 4 rfl) ?_
  refine va_getN (D := D) (ci := 4) (v := .int (iv 7)) (C := RX4) (T := TX4) (N := 10) hx hb hts (fun _ h9 => List.mem_cons_of_mem _ (List.mem_append_left _ (List.mem_append_right _ h9))) hown hK hP 5 rfl rfl 4 (by decide) (va_Nw.use rfl (hN.1 (RX2, 136, "BuoyTender$Ship", "minute", "I", "BuoyTender") (by decide +kernel))) (fun _ h9 => h9) rfl dX2_earliestEnd_13 ?_
  refine lv_aload_n hx hb dX2_earliestEnd_16 rfl (lv_at hl 1 rfl) ?_
  refine va_get (D := D) (ci := 2) (v := .ref (a 20)) (C := RX2) (T := TX2) (N := 16) hx hb hts (fun _ h9 => List.mem_cons_of_mem _ (List.mem_append_right _ h9)) hown hK hP 0 rfl rfl 4 (by decide) (hts (.fieldLink RX2 24 "BuoyTender$Planner" "ways" "[I") (by decide +kernel)) (fun _ h9 => h9) rfl dX2_earliestEnd_17 ?_
  refine lv_bipush (v := 110) hx hb dX2_earliestEnd_20 (by decide) ?_
  refine lv_iload_n hx hb dX2_earliestEnd_22 rfl (lv_at hl 3 rfl) ?_
  refine lv_iadd hx hb dX2_earliestEnd_23 ?_
  refine lv_topi (fun z_7 ez_7 => ?_)
  obtain rfl : z_7 = nI (110 + j) := ez_7.trans (nI_add 110 j)
  refine va_iald hx hb hK hP 2 0 rfl rfl (vp_in_nI (by omega) (by decide)) dX2_earliestEnd_24 ?_
  refine lv_topi (fun z_8 ez_8 => ?_)
  obtain rfl : z_8 = (av 20) (110 + j) := ez_8.trans (congrArg (av 20) (nI_clamp (by omega)))
  refine lv_iadd hx hb dX2_earliestEnd_25 ?_
  refine lv_goto (tgt := 31) hx hb dX2_earliestEnd_26 (by decide) ?_
  refine lv_istore (lv' := [(5, .int ((iv 7) + ((av 20) (110 + j)))), (4, .int (nI s_1)), (0, .ref (a 6)), (1, .int (nI S)), (2, .int (nI j)), (3, .ref (a 5))]) hx hb dX2_earliestEnd_31 hl (by decide) rfl (fun ls hl => ?_)
  refine lv_iconst (v := 0) hx hb dX2_earliestEnd_33 (by decide) ?_
  refine lv_istore (lv' := [(6, .int 0), (5, .int ((iv 7) + ((av 20) (110 + j)))), (4, .int (nI s_1)), (0, .ref (a 6)), (1, .int (nI S)), (2, .int (nI j)), (3, .ref (a 5))]) hx hb dX2_earliestEnd_34 hl (by decide) rfl (fun ls hl => ?_)
  have hPl := hP.sub (ws' := [(a 6, .inr (2, [.ref (a 16), .ref (a 17), .ref (a 18), .ref (a 19), .ref (a 20), .ref (a 21), .ref (a 22), .ref (a 23), .ref (a 24), .ref (a 25), .ref (a 26), .ref (a 27), .int (iv 20), .int (iv 21), .int (iv 22), .int (iv 23)])), (a 17, .inl (cI, 10, .inl (av 17))), (a 20, .inl (cI, 121, .inl (av 20))), (a 21, .inl (cI, 240, .inl (av 21))), (a 23, .inl (cI, 10240, .inl (av 23))), (a 5, .inr (4, [.ref (a 13), .ref (a 14), .int (iv 5), .int (iv 6), .int (iv 7), .int (iv 8), .int (iv 9), .int (iv 10), .int (iv 11), .int (iv 12)]))]) [0, 1, 2, 3, 4, 5] rfl
  refine lp_X2_earliestEnd hx hb hml hts hown hG hPl h_c hcc (by omega) hj (cc + 1) 0 ((iv 7) + ((av 20) (110 + j))) (Nat.zero_le _) (by omega) _ (lv_sub hl [0, 1, 3, 4, 5, 6, 2] rfl) (fun z_9 ls  hl => ?_)
  refine lv_aload_n hx hb dX2_earliestEnd_94 rfl (lv_at hl 1 rfl) ?_
  refine lv_iload_n hx hb dX2_earliestEnd_95 rfl (lv_at hl 3 rfl) ?_
  refine lv_iload hx hb dX2_earliestEnd_96 (lv_at hl 0 rfl) ?_
  have hPc := hP.sub (ws' := [(a 6, .inr (2, [.ref (a 16), .ref (a 17), .ref (a 18), .ref (a 19), .ref (a 20), .ref (a 21), .ref (a 22), .ref (a 23), .ref (a 24), .ref (a 25), .ref (a 26), .ref (a 27), .int (iv 20), .int (iv 21), .int (iv 22), .int (iv 23)])), (a 21, .inl (cI, 240, .inl (av 21)))]) [0, 3] rfl
  refine vp_callSi (va_Run.run (va_runV (As := [.int (nI j), .int z_9]) (rest := []) ⟨hx, hb, hml, hown, hts⟩ (k_X2_beginFrom l D cI cJ cZ cM a iv av j (by omega) z_9) (cwV 2 hts gX2_earliestEnd_X2_beginFrom rfl rfl rfl (by decide +kernel) ⟨Nat.le_of_ble_eq_true rfl, Nat.le_of_ble_eq_true rfl⟩) (ro_V hG hPc (va_recv hK hPc (ci := 2) (q0 := 0) rfl rfl)) rfl rfl hl.1 rfl (lv_room (Nat.le_of_ble_eq_true rfl)) dX2_earliestEnd_98 ⟨Nat.le_of_ble_eq_true rfl, Nat.le_of_ble_eq_true rfl⟩)) (fun r_10 h_10 => ?_)
  refine lv_aload_n hx hb dX2_earliestEnd_101 rfl (lv_at hl 1 rfl) ?_
  refine va_get (D := D) (ci := 2) (v := .ref (a 17)) (C := RX2) (T := TX2) (N := 16) hx hb hts (fun _ h9 => List.mem_cons_of_mem _ (List.mem_append_right _ h9)) hown hK hP 0 rfl rfl 1 (by decide) (hts (.fieldLink RX2 15 "BuoyTender$Planner" "minutes" "[I") (by decide +kernel)) (fun _ h9 => h9) rfl dX2_earliestEnd_102 ?_
  refine lv_iload_n hx hb dX2_earliestEnd_105 rfl (lv_at hl 3 rfl) ?_
  refine va_iald hx hb hK hP 1 0 rfl rfl (vp_in_nI (by omega) (by decide)) dX2_earliestEnd_106 ?_
  refine lv_topi (fun z_11 ez_11 => ?_)
  obtain rfl : z_11 = (av 17) j := ez_11.trans (congrArg (av 17) (nI_clamp (by omega)))
  refine lv_iadd hx hb dX2_earliestEnd_107 ?_
  refine lv_istore (lv' := [(6, .int (r_10 + ((av 17) j))), (5, .int z_9), (0, .ref (a 6)), (1, .int (nI S)), (2, .int (nI j)), (3, .ref (a 5)), (4, .int (nI s_1))]) hx hb dX2_earliestEnd_108 hl (by decide) rfl (fun ls hl => ?_)
  refine lv_iload hx hb dX2_earliestEnd_110 (lv_at hl 0 rfl) ?_
  refine lv_aload_n hx hb dX2_earliestEnd_112 rfl (lv_at hl 5 rfl) ?_
  refine va_getN (D := D) (ci := 4) (v := .int (iv 8)) (C := RX4) (T := TX4) (N := 10) hx hb hts (fun _ h9 => List.mem_cons_of_mem _ (List.mem_append_left _ (List.mem_append_right _ h9))) hown hK hP 5 rfl rfl 5 (by decide) (va_Nw.use rfl (hN.1 (RX2, 150, "BuoyTender$Ship", "end", "I", "BuoyTender") (by decide +kernel))) (fun _ h9 => h9) rfl dX2_earliestEnd_113 ?_
  refine lv_icmp_gt (tgt := 124) hx hb dX2_earliestEnd_116 (by decide) (fun c_12 => ?_) (fun c_12 => ?_)
  · refine lv_ldc (v := 1000000) hx hb hown (hts (.constant RX2 131 1000000) (by decide +kernel)) dX2_earliestEnd_124 ?_
    exact W.iret (v := 1000000) hx hb hr (fun t ht hW => ⟨1000000, rfl, trivial, ht⟩) (fun _ h => by cases h) dX2_earliestEnd_126
  refine lv_iload hx hb dX2_earliestEnd_119 (lv_at hl 0 rfl) ?_
  refine lv_goto (tgt := 126) hx hb dX2_earliestEnd_121 (by decide) ?_
  exact W.iret (v := (r_10 + ((av 17) j))) hx hb hr (fun t ht hW => ⟨(r_10 + ((av 17) j)), rfl, trivial, ht⟩) (fun _ h => by cases h) dX2_earliestEnd_126
set_option maxHeartbeats 4000000 in
set_option maxRecDepth 100000 in
/-- X2_findEarliestEnds: the loop at 51 -/
theorem lp_X2_feeI {p : Program} {l : Launch} {e : Env} {s : State} {m : MethodId} {args : Array Value} {below : List Frame} {meth : Method} {c : Code} {Q : State → Prop} {D : va_G} {cI cJ cZ cM : Nat} {a : Nat → Nat} {iv : Nat → Int32} {av : Nat → Nat → Int32} {cc : Nat} {s_ : Nat} {b4 : Int32} {f24 : Nat → Int32} {A : Nat → Prop} (hx : p.tables.exec = Jvm.exec) (hb : c.code = cX2_findEarliestEnds) (hml : c.maxLocals = 7) (hts : ∀ w ∈ wsX2_findEarliestEnds, w.before args s = true) (hown : s.vm.findClass RX2 = some m.cls) (hG : GK D cI cJ cZ cM s) (hA : ∀ q : Nat, s.heap.size ≤ q → A q) (h_c : iv 20 = nI cc) (hcc : cc ≤ 10) (hs_ : s_ < 1024) :
    ∀ (k9 : Nat) (k_ : Nat) (z : Int32) (f23 : Nat → Int32), (k_ ≤ cc) → cc - k_ < k9 → ∀ (H : Heap) (locs : List Loc) (ls : Array Slot), va_P D vwCl [(a 6, .inr (2, [.ref (a 16), .ref (a 17), .ref (a 18), .ref (a 19), .ref (a 20), .ref (a 21), .ref (a 22), .ref (a 23), .ref (a 24), .ref (a 25), .ref (a 26), .ref (a 27), .int (iv 20), .int (iv 21), .int (iv 22), .int (iv 23)])), (a 17, .inl (cI, 10, .inl (av 17))), (a 18, .inl (cI, 10, .inl (av 18))), (a 20, .inl (cI, 121, .inl (av 20))), (a 21, .inl (cI, 240, .inl (av 21))), (a 23, .inl (cI, 10240, .inl f23)), (a 24, .inl (cI, 1024, .inl f24)), (a 5, .inr (4, [.ref (a 13), .ref (a 14), .int (iv 5), .int (iv 6), .int (iv 7), .int (iv 8), .int (iv 9), .int (iv 10), .int (iv 11), .int (iv 12)]))] H → va_D A [(a 6, .inr (2, [.ref (a 16), .ref (a 17), .ref (a 18), .ref (a 19), .ref (a 20), .ref (a 21), .ref (a 22), .ref (a 23), .ref (a 24), .ref (a 25), .ref (a 26), .ref (a 27), .int (iv 20), .int (iv 21), .int (iv 22), .int (iv 23)])), (a 17, .inl (cI, 10, .inl (av 17))), (a 18, .inl (cI, 10, .inl (av 18))), (a 20, .inl (cI, 121, .inl (av 20))), (a 21, .inl (cI, 240, .inl (av 21))), (a 23, .inl (cI, 10240, .inl f23)), (a 24, .inl (cI, 1024, .inl f24)), (a 5, .inr (4, [.ref (a 13), .ref (a 14), .int (iv 5), .int (iv 6), .int (iv 7), .int (iv 8), .int (iv 9), .int (iv 10), .int (iv 11), .int (iv 12)]))] → va_S A s.heap H locs → lv_has ls 7 [(5, .int (nI k_)), (3, .int z), (4, .int b4), (2, .int (nI s_)), (0, .ref (a 6)), (1, .ref (a 5))] → (∀ (z : Int32) (f23 : Nat → Int32) (H : Heap) (locs : List Loc) (ls : Array Slot), va_P D vwCl [(a 6, .inr (2, [.ref (a 16), .ref (a 17), .ref (a 18), .ref (a 19), .ref (a 20), .ref (a 21), .ref (a 22), .ref (a 23), .ref (a 24), .ref (a 25), .ref (a 26), .ref (a 27), .int (iv 20), .int (iv 21), .int (iv 22), .int (iv 23)])), (a 17, .inl (cI, 10, .inl (av 17))), (a 18, .inl (cI, 10, .inl (av 18))), (a 20, .inl (cI, 121, .inl (av 20))), (a 21, .inl (cI, 240, .inl (av 21))), (a 23, .inl (cI, 10240, .inl f23)), (a 24, .inl (cI, 1024, .inl f24)), (a 5, .inr (4, [.ref (a 13), .ref (a 14), .int (iv 5), .int (iv 6), .int (iv 7), .int (iv 8), .int (iv 9), .int (iv 10), .int (iv 11), .int (iv 12)]))] H → va_D A [(a 6, .inr (2, [.ref (a 16), .ref (a 17), .ref (a 18), .ref (a 19), .ref (a 20), .ref (a 21), .ref (a 22), .ref (a 23), .ref (a 24), .ref (a 25), .ref (a 26), .ref (a 27), .int (iv 20), .int (iv 21), .int (iv 22), .int (iv 23)])), (a 17, .inl (cI, 10, .inl (av 17))), (a 18, .inl (cI, 10, .inl (av 18))), (a 20, .inl (cI, 121, .inl (av 20))), (a 21, .inl (cI, 240, .inl (av 21))), (a 23, .inl (cI, 10240, .inl f23)), (a 24, .inl (cI, 1024, .inl f24)), (a 5, .inr (4, [.ref (a 13), .ref (a 14), .int (iv 5), .int (iv 6), .int (iv 7), .int (iv 8), .int (iv 9), .int (iv 10), .int (iv 11), .int (iv 12)]))] → va_S A s.heap H locs → lv_has ls 7 [(3, .int z), (4, .int b4), (2, .int (nI s_)), (0, .ref (a 6)), (1, .ref (a 5))] → W p l e (headSpec wsX2_findEarliestEnds ({ frames := 2, cells := 0, slots := 0, locals := 66 } : Room)).room s m args below meth c H locs 0 0 Q (F0 m 130 ls [])) → W p l e (headSpec wsX2_findEarliestEnds ({ frames := 2, cells := 0, slots := 0, locals := 66 } : Room)).room s m args below meth c H locs 0 0 Q (F0 m 51 ls []) := by
  have hK := hG.1
  have hN := hG.2
  intro k9
  induction k9 with
  | zero => intro k_ z f23 hk hfu; exact absurd hfu (Nat.not_lt_zero _)
  | succ k9 ih =>
    intro k_ z f23 hk hfu H locs ls hP hD hS hl kk0
    rcases Nat.lt_or_ge k_ cc with hlt | hge
    · refine lv_iload hx hb dX2_findEarliestEnds_51 (lv_at hl 0 rfl) ?_
      refine lv_aload_n hx hb dX2_findEarliestEnds_53 rfl (lv_at hl 4 rfl) ?_
      refine va_get (D := D) (ci := 2) (v := .int (iv 20)) (C := RX2) (T := TX2) (N := 16) hx hb hts (fun _ h9 => List.mem_cons_of_mem _ (List.mem_append_left _ (List.mem_append_right _ h9))) hown hK hP 0 rfl rfl 12 (by decide) (hts (.fieldLink RX2 76 "BuoyTender$Planner" "count" "I") (by decide +kernel)) (fun _ h9 => h9) rfl dX2_findEarliestEnds_54 ?_
      refine lv_topi (fun z_1 ez_1 => ?_)
      obtain rfl : z_1 = nI cc := ez_1.trans h_c
      refine lv_icmp_ge (tgt := 130) hx hb dX2_findEarliestEnds_57 (by decide) (fun c_2 => absurd c_2 (nI_ge hlt (by omega))) (fun c_2 => ?_)
      refine lv_iload hx hb dX2_findEarliestEnds_60 (lv_at hl 2 rfl) ?_
      refine lv_if_eq (tgt := 85) hx hb dX2_findEarliestEnds_62 (by decide) (fun c_3 => ?_) (fun c_3 => ?_)
      · refine lv_ldc (v := 1000000) hx hb hown (hts (.constant RX2 131 1000000) (by decide +kernel)) dX2_findEarliestEnds_85 ?_
        refine lv_istore (lv' := [(6, .int 1000000), (5, .int (nI k_)), (3, .int z), (4, .int b4), (2, .int (nI s_)), (0, .ref (a 6)), (1, .ref (a 5))]) hx hb dX2_findEarliestEnds_87 hl (by decide) rfl (fun ls hl => ?_)
        refine lv_aload_n hx hb dX2_findEarliestEnds_89 rfl (lv_at hl 5 rfl) ?_
        refine va_get (D := D) (ci := 2) (v := .ref (a 23)) (C := RX2) (T := TX2) (N := 16) hx hb hts (fun _ h9 => List.mem_cons_of_mem _ (List.mem_append_left _ (List.mem_append_right _ h9))) hown hK hP 0 rfl rfl 7 (by decide) (hts (.fieldLink RX2 33 "BuoyTender$Planner" "ends" "[I") (by decide +kernel)) (fun _ h9 => h9) rfl dX2_findEarliestEnds_90 ?_
        refine lv_iload_n hx hb dX2_findEarliestEnds_93 rfl (lv_at hl 4 rfl) ?_
        refine lv_bipush (v := 10) hx hb dX2_findEarliestEnds_94 (by decide) ?_
        refine lv_imul hx hb dX2_findEarliestEnds_96 ?_
        refine lv_topi (fun z_4 ez_4 => ?_)
        obtain rfl : z_4 = nI (s_ * 10) := ez_4.trans (pk_mul s_ 10)
        refine lv_iload hx hb dX2_findEarliestEnds_97 (lv_at hl 1 rfl) ?_
        refine lv_iadd hx hb dX2_findEarliestEnds_99 ?_
        refine lv_topi (fun z_5 ez_5 => ?_)
        obtain rfl : z_5 = nI ((s_ * 10) + k_) := ez_5.trans (nI_add (s_ * 10) k_)
        refine lv_iload hx hb dX2_findEarliestEnds_100 (lv_at hl 0 rfl) ?_
        refine va_iast hx hb hK hP hD hS 5 0 rfl rfl (vp_in_nI (by omega) (by decide)) dX2_findEarliestEnds_102 (fun H locs hP hD hS => ?_)
        rw [nI_clamp (by omega)] at hP hD
        have hP : va_P D vwCl [(a 6, .inr (2, [.ref (a 16), .ref (a 17), .ref (a 18), .ref (a 19), .ref (a 20), .ref (a 21), .ref (a 22), .ref (a 23), .ref (a 24), .ref (a 25), .ref (a 26), .ref (a 27), .int (iv 20), .int (iv 21), .int (iv 22), .int (iv 23)])), (a 17, .inl (cI, 10, .inl (av 17))), (a 18, .inl (cI, 10, .inl (av 18))), (a 20, .inl (cI, 121, .inl (av 20))), (a 21, .inl (cI, 240, .inl (av 21))), (a 23, .inl (cI, 10240, .inl (upd f23 ((s_ * 10) + k_) 1000000))), (a 24, .inl (cI, 1024, .inl f24)), (a 5, .inr (4, [.ref (a 13), .ref (a 14), .int (iv 5), .int (iv 6), .int (iv 7), .int (iv 8), .int (iv 9), .int (iv 10), .int (iv 11), .int (iv 12)]))] H := hP
        have hD : va_D A [(a 6, .inr (2, [.ref (a 16), .ref (a 17), .ref (a 18), .ref (a 19), .ref (a 20), .ref (a 21), .ref (a 22), .ref (a 23), .ref (a 24), .ref (a 25), .ref (a 26), .ref (a 27), .int (iv 20), .int (iv 21), .int (iv 22), .int (iv 23)])), (a 17, .inl (cI, 10, .inl (av 17))), (a 18, .inl (cI, 10, .inl (av 18))), (a 20, .inl (cI, 121, .inl (av 20))), (a 21, .inl (cI, 240, .inl (av 21))), (a 23, .inl (cI, 10240, .inl (upd f23 ((s_ * 10) + k_) 1000000))), (a 24, .inl (cI, 1024, .inl f24)), (a 5, .inr (4, [.ref (a 13), .ref (a 14), .int (iv 5), .int (iv 6), .int (iv 7), .int (iv 8), .int (iv 9), .int (iv 10), .int (iv 11), .int (iv 12)]))] := hD
        refine lv_iload_n hx hb dX2_findEarliestEnds_103 rfl (lv_at hl 2 rfl) ?_
        refine lv_iload hx hb dX2_findEarliestEnds_104 (lv_at hl 0 rfl) ?_
        refine lv_aload_n hx hb dX2_findEarliestEnds_106 rfl (lv_at hl 5 rfl) ?_
        refine va_get (D := D) (ci := 2) (v := .ref (a 20)) (C := RX2) (T := TX2) (N := 16) hx hb hts (fun _ h9 => List.mem_cons_of_mem _ (List.mem_append_left _ (List.mem_append_right _ h9))) hown hK hP 0 rfl rfl 4 (by decide) (hts (.fieldLink RX2 24 "BuoyTender$Planner" "ways" "[I") (by decide +kernel)) (fun _ h9 => h9) rfl dX2_findEarliestEnds_107 ?_
        refine lv_iload hx hb dX2_findEarliestEnds_110 (lv_at hl 1 rfl) ?_
        refine lv_bipush (v := 11) hx hb dX2_findEarliestEnds_112 (by decide) ?_
        refine lv_imul hx hb dX2_findEarliestEnds_114 ?_
        refine lv_topi (fun z_6 ez_6 => ?_)
        obtain rfl : z_6 = nI (k_ * 11) := ez_6.trans (pk_mul k_ 11)
        refine lv_bipush (v := 10) hx hb dX2_findEarliestEnds_115 (by decide) ?_
        refine lv_iadd hx hb dX2_findEarliestEnds_117 ?_
        refine lv_topi (fun z_7 ez_7 => ?_)
        obtain rfl : z_7 = nI ((k_ * 11) + 10) := ez_7.trans (nI_add (k_ * 11) 10)
        refine va_iald hx hb hK hP 3 0 rfl rfl (vp_in_nI (by omega) (by decide)) dX2_findEarliestEnds_118 ?_
        refine lv_topi (fun z_8 ez_8 => ?_)
        obtain rfl : z_8 = (av 20) ((k_ * 11) + 10) := ez_8.trans (congrArg (av 20) (nI_clamp (by omega)))
        refine lv_iadd hx hb dX2_findEarliestEnds_119 ?_
        refine va_mmin hx hb (hml.trans hl.1.symm) hown (hts (.methodLink RX2 133 Lib.Math.min.name) (by decide +kernel)) (hts (.static Lib.Math.min.name) (by decide +kernel)) (hts (.initialized "java/lang/Math") (by decide +kernel)) (hts (.code Lib.Math.min.name Lib.Math.min.code 2 (some .int)) (by decide +kernel)) (Nat.le_of_ble_eq_true rfl) (Nat.le_of_ble_eq_true rfl) (Nat.le_of_ble_eq_true rfl) (Nat.le_of_ble_eq_true rfl) dX2_findEarliestEnds_120 ?_
        refine lv_topi (fun z_9 ez_9 => ?_)
        refine lv_istore_n (lv' := [(3, .int z_9), (6, .int 1000000), (5, .int (nI k_)), (4, .int b4), (2, .int (nI s_)), (0, .ref (a 6)), (1, .ref (a 5))]) hx hb dX2_findEarliestEnds_123 rfl hl (by decide) rfl (fun ls hl => ?_)
        refine lv_iinc (v := nI (k_ + 1)) (lv' := [(5, .int (nI (k_ + 1))), (3, .int z_9), (6, .int 1000000), (4, .int b4), (2, .int (nI s_)), (0, .ref (a 6)), (1, .ref (a 5))]) hx hb dX2_findEarliestEnds_124 hl (k := 2) rfl (nI_add k_ 1) (by decide) rfl (fun ls hl => ?_)
        refine lv_goto (tgt := 51) hx hb dX2_findEarliestEnds_127 (by decide) ?_
        exact ih (k_ + 1) z_9 (upd f23 ((s_ * 10) + k_) 1000000) (by omega) (by omega) _ _ _ hP hD hS (lv_sub hl [0, 1, 3, 4, 5, 6] rfl) kk0
      refine lv_iload hx hb dX2_findEarliestEnds_65 (lv_at hl 0 rfl) ?_
      refine lv_iload_n hx hb dX2_findEarliestEnds_67 rfl (lv_at hl 3 rfl) ?_
      refine vp_callSi (va_Run.run (va_runS (As := [.int (nI k_), .int (nI s_)]) (rest := []) ⟨hx, hb, hml, hown, hts⟩ (k_X2_isIn l (nI k_) (nI s_)) (va_cwS 2 hts gX2_findEarliestEnds_X2_isIn rfl rfl rfl (by decide +kernel) ⟨Nat.le_of_ble_eq_true rfl, Nat.le_of_ble_eq_true rfl⟩) preEq rfl rfl hl.1 rfl (lv_room (Nat.le_of_ble_eq_true rfl)) dX2_findEarliestEnds_68 ⟨Nat.le_of_ble_eq_true rfl, Nat.le_of_ble_eq_true rfl⟩)) (fun r_10 h_10 => ?_)
      refine lv_if_eq (tgt := 85) hx hb dX2_findEarliestEnds_71 (by decide) (fun c_11 => ?_) (fun c_11 => ?_)
      · refine lv_ldc (v := 1000000) hx hb hown (hts (.constant RX2 131 1000000) (by decide +kernel)) dX2_findEarliestEnds_85 ?_
        refine lv_istore (lv' := [(6, .int 1000000), (5, .int (nI k_)), (3, .int z), (4, .int b4), (2, .int (nI s_)), (0, .ref (a 6)), (1, .ref (a 5))]) hx hb dX2_findEarliestEnds_87 hl (by decide) rfl (fun ls hl => ?_)
        refine lv_aload_n hx hb dX2_findEarliestEnds_89 rfl (lv_at hl 5 rfl) ?_
        refine va_get (D := D) (ci := 2) (v := .ref (a 23)) (C := RX2) (T := TX2) (N := 16) hx hb hts (fun _ h9 => List.mem_cons_of_mem _ (List.mem_append_left _ (List.mem_append_right _ h9))) hown hK hP 0 rfl rfl 7 (by decide) (hts (.fieldLink RX2 33 "BuoyTender$Planner" "ends" "[I") (by decide +kernel)) (fun _ h9 => h9) rfl dX2_findEarliestEnds_90 ?_
        refine lv_iload_n hx hb dX2_findEarliestEnds_93 rfl (lv_at hl 4 rfl) ?_
        refine lv_bipush (v := 10) hx hb dX2_findEarliestEnds_94 (by decide) ?_
        refine lv_imul hx hb dX2_findEarliestEnds_96 ?_
        refine lv_topi (fun z_12 ez_12 => ?_)
        obtain rfl : z_12 = nI (s_ * 10) := ez_12.trans (pk_mul s_ 10)
        refine lv_iload hx hb dX2_findEarliestEnds_97 (lv_at hl 1 rfl) ?_
        refine lv_iadd hx hb dX2_findEarliestEnds_99 ?_
        refine lv_topi (fun z_13 ez_13 => ?_)
        obtain rfl : z_13 = nI ((s_ * 10) + k_) := ez_13.trans (nI_add (s_ * 10) k_)
        refine lv_iload hx hb dX2_findEarliestEnds_100 (lv_at hl 0 rfl) ?_
        refine va_iast hx hb hK hP hD hS 5 0 rfl rfl (vp_in_nI (by omega) (by decide)) dX2_findEarliestEnds_102 (fun H locs hP hD hS => ?_)
        rw [nI_clamp (by omega)] at hP hD
        have hP : va_P D vwCl [(a 6, .inr (2, [.ref (a 16), .ref (a 17), .ref (a 18), .ref (a 19), .ref (a 20), .ref (a 21), .ref (a 22), .ref (a 23), .ref (a 24), .ref (a 25), .ref (a 26), .ref (a 27), .int (iv 20), .int (iv 21), .int (iv 22), .int (iv 23)])), (a 17, .inl (cI, 10, .inl (av 17))), (a 18, .inl (cI, 10, .inl (av 18))), (a 20, .inl (cI, 121, .inl (av 20))), (a 21, .inl (cI, 240, .inl (av 21))), (a 23, .inl (cI, 10240, .inl (upd f23 ((s_ * 10) + k_) 1000000))), (a 24, .inl (cI, 1024, .inl f24)), (a 5, .inr (4, [.ref (a 13), .ref (a 14), .int (iv 5), .int (iv 6), .int (iv 7), .int (iv 8), .int (iv 9), .int (iv 10), .int (iv 11), .int (iv 12)]))] H := hP
        have hD : va_D A [(a 6, .inr (2, [.ref (a 16), .ref (a 17), .ref (a 18), .ref (a 19), .ref (a 20), .ref (a 21), .ref (a 22), .ref (a 23), .ref (a 24), .ref (a 25), .ref (a 26), .ref (a 27), .int (iv 20), .int (iv 21), .int (iv 22), .int (iv 23)])), (a 17, .inl (cI, 10, .inl (av 17))), (a 18, .inl (cI, 10, .inl (av 18))), (a 20, .inl (cI, 121, .inl (av 20))), (a 21, .inl (cI, 240, .inl (av 21))), (a 23, .inl (cI, 10240, .inl (upd f23 ((s_ * 10) + k_) 1000000))), (a 24, .inl (cI, 1024, .inl f24)), (a 5, .inr (4, [.ref (a 13), .ref (a 14), .int (iv 5), .int (iv 6), .int (iv 7), .int (iv 8), .int (iv 9), .int (iv 10), .int (iv 11), .int (iv 12)]))] := hD
        refine lv_iload_n hx hb dX2_findEarliestEnds_103 rfl (lv_at hl 2 rfl) ?_
        refine lv_iload hx hb dX2_findEarliestEnds_104 (lv_at hl 0 rfl) ?_
        refine lv_aload_n hx hb dX2_findEarliestEnds_106 rfl (lv_at hl 5 rfl) ?_
        refine va_get (D := D) (ci := 2) (v := .ref (a 20)) (C := RX2) (T := TX2) (N := 16) hx hb hts (fun _ h9 => List.mem_cons_of_mem _ (List.mem_append_left _ (List.mem_append_right _ h9))) hown hK hP 0 rfl rfl 4 (by decide) (hts (.fieldLink RX2 24 "BuoyTender$Planner" "ways" "[I") (by decide +kernel)) (fun _ h9 => h9) rfl dX2_findEarliestEnds_107 ?_
        refine lv_iload hx hb dX2_findEarliestEnds_110 (lv_at hl 1 rfl) ?_
        refine lv_bipush (v := 11) hx hb dX2_findEarliestEnds_112 (by decide) ?_
        refine lv_imul hx hb dX2_findEarliestEnds_114 ?_
        refine lv_topi (fun z_14 ez_14 => ?_)
        obtain rfl : z_14 = nI (k_ * 11) := ez_14.trans (pk_mul k_ 11)
        refine lv_bipush (v := 10) hx hb dX2_findEarliestEnds_115 (by decide) ?_
        refine lv_iadd hx hb dX2_findEarliestEnds_117 ?_
        refine lv_topi (fun z_15 ez_15 => ?_)
        obtain rfl : z_15 = nI ((k_ * 11) + 10) := ez_15.trans (nI_add (k_ * 11) 10)
        refine va_iald hx hb hK hP 3 0 rfl rfl (vp_in_nI (by omega) (by decide)) dX2_findEarliestEnds_118 ?_
        refine lv_topi (fun z_16 ez_16 => ?_)
        obtain rfl : z_16 = (av 20) ((k_ * 11) + 10) := ez_16.trans (congrArg (av 20) (nI_clamp (by omega)))
        refine lv_iadd hx hb dX2_findEarliestEnds_119 ?_
        refine va_mmin hx hb (hml.trans hl.1.symm) hown (hts (.methodLink RX2 133 Lib.Math.min.name) (by decide +kernel)) (hts (.static Lib.Math.min.name) (by decide +kernel)) (hts (.initialized "java/lang/Math") (by decide +kernel)) (hts (.code Lib.Math.min.name Lib.Math.min.code 2 (some .int)) (by decide +kernel)) (Nat.le_of_ble_eq_true rfl) (Nat.le_of_ble_eq_true rfl) (Nat.le_of_ble_eq_true rfl) (Nat.le_of_ble_eq_true rfl) dX2_findEarliestEnds_120 ?_
        refine lv_topi (fun z_17 ez_17 => ?_)
        refine lv_istore_n (lv' := [(3, .int z_17), (6, .int 1000000), (5, .int (nI k_)), (4, .int b4), (2, .int (nI s_)), (0, .ref (a 6)), (1, .ref (a 5))]) hx hb dX2_findEarliestEnds_123 rfl hl (by decide) rfl (fun ls hl => ?_)
        refine lv_iinc (v := nI (k_ + 1)) (lv' := [(5, .int (nI (k_ + 1))), (3, .int z_17), (6, .int 1000000), (4, .int b4), (2, .int (nI s_)), (0, .ref (a 6)), (1, .ref (a 5))]) hx hb dX2_findEarliestEnds_124 hl (k := 2) rfl (nI_add k_ 1) (by decide) rfl (fun ls hl => ?_)
        refine lv_goto (tgt := 51) hx hb dX2_findEarliestEnds_127 (by decide) ?_
        exact ih (k_ + 1) z_17 (upd f23 ((s_ * 10) + k_) 1000000) (by omega) (by omega) _ _ _ hP hD hS (lv_sub hl [0, 1, 3, 4, 5, 6] rfl) kk0
      refine lv_aload_n hx hb dX2_findEarliestEnds_74 rfl (lv_at hl 4 rfl) ?_
      refine lv_iload_n hx hb dX2_findEarliestEnds_75 rfl (lv_at hl 3 rfl) ?_
      refine lv_iload hx hb dX2_findEarliestEnds_76 (lv_at hl 0 rfl) ?_
      refine lv_aload_n hx hb dX2_findEarliestEnds_78 rfl (lv_at hl 5 rfl) ?_
      have hPc := hP.sub (ws' := [(a 6, .inr (2, [.ref (a 16), .ref (a 17), .ref (a 18), .ref (a 19), .ref (a 20), .ref (a 21), .ref (a 22), .ref (a 23), .ref (a 24), .ref (a 25), .ref (a 26), .ref (a 27), .int (iv 20), .int (iv 21), .int (iv 22), .int (iv 23)])), (a 17, .inl (cI, 10, .inl (av 17))), (a 20, .inl (cI, 121, .inl (av 20))), (a 21, .inl (cI, 240, .inl (av 21))), (a 23, .inl (cI, 10240, .inl f23)), (a 5, .inr (4, [.ref (a 13), .ref (a 14), .int (iv 5), .int (iv 6), .int (iv 7), .int (iv 8), .int (iv 9), .int (iv 10), .int (iv 11), .int (iv 12)]))]) [0, 1, 3, 4, 5, 7] rfl
      refine vp_callSi (va_Run.run (va_runV (As := [.int (nI s_), .int (nI k_), .ref (a 5)]) (rest := []) ⟨hx, hb, hml, hown, hts⟩ (k_X2_earliestEnd l D cI cJ cZ cM a iv (vset av 23 f23) cc h_c hcc s_ (by omega) k_ (by omega)) (cwV 3 hts gX2_findEarliestEnds_X2_earliestEnd rfl rfl rfl (by decide +kernel) ⟨Nat.le_of_ble_eq_true rfl, Nat.le_of_ble_eq_true rfl⟩) (ro_V hG hPc (va_recv hK hPc (ci := 2) (q0 := 0) rfl rfl)) rfl rfl hl.1 rfl (lv_room (Nat.le_of_ble_eq_true rfl)) dX2_findEarliestEnds_79 ⟨Nat.le_of_ble_eq_true rfl, Nat.le_of_ble_eq_true rfl⟩)) (fun r_18 h_18 => ?_)
      refine lv_goto (tgt := 87) hx hb dX2_findEarliestEnds_82 (by decide) ?_
      refine lv_istore (lv' := [(6, .int r_18), (5, .int (nI k_)), (3, .int z), (4, .int b4), (2, .int (nI s_)), (0, .ref (a 6)), (1, .ref (a 5))]) hx hb dX2_findEarliestEnds_87 hl (by decide) rfl (fun ls hl => ?_)
      refine lv_aload_n hx hb dX2_findEarliestEnds_89 rfl (lv_at hl 5 rfl) ?_
      refine va_get (D := D) (ci := 2) (v := .ref (a 23)) (C := RX2) (T := TX2) (N := 16) hx hb hts (fun _ h9 => List.mem_cons_of_mem _ (List.mem_append_left _ (List.mem_append_right _ h9))) hown hK hP 0 rfl rfl 7 (by decide) (hts (.fieldLink RX2 33 "BuoyTender$Planner" "ends" "[I") (by decide +kernel)) (fun _ h9 => h9) rfl dX2_findEarliestEnds_90 ?_
      refine lv_iload_n hx hb dX2_findEarliestEnds_93 rfl (lv_at hl 4 rfl) ?_
      refine lv_bipush (v := 10) hx hb dX2_findEarliestEnds_94 (by decide) ?_
      refine lv_imul hx hb dX2_findEarliestEnds_96 ?_
      refine lv_topi (fun z_19 ez_19 => ?_)
      obtain rfl : z_19 = nI (s_ * 10) := ez_19.trans (pk_mul s_ 10)
      refine lv_iload hx hb dX2_findEarliestEnds_97 (lv_at hl 1 rfl) ?_
      refine lv_iadd hx hb dX2_findEarliestEnds_99 ?_
      refine lv_topi (fun z_20 ez_20 => ?_)
      obtain rfl : z_20 = nI ((s_ * 10) + k_) := ez_20.trans (nI_add (s_ * 10) k_)
      refine lv_iload hx hb dX2_findEarliestEnds_100 (lv_at hl 0 rfl) ?_
      refine va_iast hx hb hK hP hD hS 5 0 rfl rfl (vp_in_nI (by omega) (by decide)) dX2_findEarliestEnds_102 (fun H locs hP hD hS => ?_)
      rw [nI_clamp (by omega)] at hP hD
      have hP : va_P D vwCl [(a 6, .inr (2, [.ref (a 16), .ref (a 17), .ref (a 18), .ref (a 19), .ref (a 20), .ref (a 21), .ref (a 22), .ref (a 23), .ref (a 24), .ref (a 25), .ref (a 26), .ref (a 27), .int (iv 20), .int (iv 21), .int (iv 22), .int (iv 23)])), (a 17, .inl (cI, 10, .inl (av 17))), (a 18, .inl (cI, 10, .inl (av 18))), (a 20, .inl (cI, 121, .inl (av 20))), (a 21, .inl (cI, 240, .inl (av 21))), (a 23, .inl (cI, 10240, .inl (upd f23 ((s_ * 10) + k_) r_18))), (a 24, .inl (cI, 1024, .inl f24)), (a 5, .inr (4, [.ref (a 13), .ref (a 14), .int (iv 5), .int (iv 6), .int (iv 7), .int (iv 8), .int (iv 9), .int (iv 10), .int (iv 11), .int (iv 12)]))] H := hP
      have hD : va_D A [(a 6, .inr (2, [.ref (a 16), .ref (a 17), .ref (a 18), .ref (a 19), .ref (a 20), .ref (a 21), .ref (a 22), .ref (a 23), .ref (a 24), .ref (a 25), .ref (a 26), .ref (a 27), .int (iv 20), .int (iv 21), .int (iv 22), .int (iv 23)])), (a 17, .inl (cI, 10, .inl (av 17))), (a 18, .inl (cI, 10, .inl (av 18))), (a 20, .inl (cI, 121, .inl (av 20))), (a 21, .inl (cI, 240, .inl (av 21))), (a 23, .inl (cI, 10240, .inl (upd f23 ((s_ * 10) + k_) r_18))), (a 24, .inl (cI, 1024, .inl f24)), (a 5, .inr (4, [.ref (a 13), .ref (a 14), .int (iv 5), .int (iv 6), .int (iv 7), .int (iv 8), .int (iv 9), .int (iv 10), .int (iv 11), .int (iv 12)]))] := hD
      refine lv_iload_n hx hb dX2_findEarliestEnds_103 rfl (lv_at hl 2 rfl) ?_
      refine lv_iload hx hb dX2_findEarliestEnds_104 (lv_at hl 0 rfl) ?_
      refine lv_aload_n hx hb dX2_findEarliestEnds_106 rfl (lv_at hl 5 rfl) ?_
      refine va_get (D := D) (ci := 2) (v := .ref (a 20)) (C := RX2) (T := TX2) (N := 16) hx hb hts (fun _ h9 => List.mem_cons_of_mem _ (List.mem_append_left _ (List.mem_append_right _ h9))) hown hK hP 0 rfl rfl 4 (by decide) (hts (.fieldLink RX2 24 "BuoyTender$Planner" "ways" "[I") (by decide +kernel)) (fun _ h9 => h9) rfl dX2_findEarliestEnds_107 ?_
      refine lv_iload hx hb dX2_findEarliestEnds_110 (lv_at hl 1 rfl) ?_
      refine lv_bipush (v := 11) hx hb dX2_findEarliestEnds_112 (by decide) ?_
      refine lv_imul hx hb dX2_findEarliestEnds_114 ?_
      refine lv_topi (fun z_21 ez_21 => ?_)
      obtain rfl : z_21 = nI (k_ * 11) := ez_21.trans (pk_mul k_ 11)
      refine lv_bipush (v := 10) hx hb dX2_findEarliestEnds_115 (by decide) ?_
      refine lv_iadd hx hb dX2_findEarliestEnds_117 ?_
      refine lv_topi (fun z_22 ez_22 => ?_)
      obtain rfl : z_22 = nI ((k_ * 11) + 10) := ez_22.trans (nI_add (k_ * 11) 10)
      refine va_iald hx hb hK hP 3 0 rfl rfl (vp_in_nI (by omega) (by decide)) dX2_findEarliestEnds_118 ?_
      refine lv_topi (fun z_23 ez_23 => ?_)
      obtain rfl : z_23 = (av 20) ((k_ * 11) + 10) := ez_23.trans (congrArg (av 20) (nI_clamp (by omega)))
      refine lv_iadd hx hb dX2_findEarliestEnds_119 ?_
      refine va_mmin hx hb (hml.trans hl.1.symm) hown (hts (.methodLink RX2 133 Lib.Math.min.name) (by decide +kernel)) (hts (.static Lib.Math.min.name) (by decide +kernel)) (hts (.initialized "java/lang/Math") (by decide +kernel)) (hts (.code Lib.Math.min.name Lib.Math.min.code 2 (some .int)) (by decide +kernel)) (Nat.le_of_ble_eq_true rfl) (Nat.le_of_ble_eq_true rfl) (Nat.le_of_ble_eq_true rfl) (Nat.le_of_ble_eq_true rfl) dX2_findEarliestEnds_120 ?_
      refine lv_topi (fun z_24 ez_24 => ?_)
      refine lv_istore_n (lv' := [(3, .int z_24), (6, .int r_18), (5, .int (nI k_)), (4, .int b4), (2, .int (nI s_)), (0, .ref (a 6)), (1, .ref (a 5))]) hx hb dX2_findEarliestEnds_123 rfl hl (by decide) rfl (fun ls hl => ?_)
      refine lv_iinc (v := nI (k_ + 1)) (lv' := [(5, .int (nI (k_ + 1))), (3, .int z_24), (6, .int r_18), (4, .int b4), (2, .int (nI s_)), (0, .ref (a 6)), (1, .ref (a 5))]) hx hb dX2_findEarliestEnds_124 hl (k := 2) rfl (nI_add k_ 1) (by decide) rfl (fun ls hl => ?_)
      refine lv_goto (tgt := 51) hx hb dX2_findEarliestEnds_127 (by decide) ?_
      exact ih (k_ + 1) z_24 (upd f23 ((s_ * 10) + k_) r_18) (by omega) (by omega) _ _ _ hP hD hS (lv_sub hl [0, 1, 3, 4, 5, 6] rfl) kk0
    · refine lv_iload hx hb dX2_findEarliestEnds_51 (lv_at hl 0 rfl) ?_
      refine lv_aload_n hx hb dX2_findEarliestEnds_53 rfl (lv_at hl 4 rfl) ?_
      refine va_get (D := D) (ci := 2) (v := .int (iv 20)) (C := RX2) (T := TX2) (N := 16) hx hb hts (fun _ h9 => List.mem_cons_of_mem _ (List.mem_append_left _ (List.mem_append_right _ h9))) hown hK hP 0 rfl rfl 12 (by decide) (hts (.fieldLink RX2 76 "BuoyTender$Planner" "count" "I") (by decide +kernel)) (fun _ h9 => h9) rfl dX2_findEarliestEnds_54 ?_
      refine lv_topi (fun z_25 ez_25 => ?_)
      obtain rfl : z_25 = nI cc := ez_25.trans h_c
      refine lv_icmp_ge (tgt := 130) hx hb dX2_findEarliestEnds_57 (by decide) (fun c_26 => ?_) (fun c_26 => absurd (nI_le hge (by omega)) c_26)
      exact kk0 z f23 _ _ _  hP hD hS (lv_sub hl [1, 2, 3, 4, 5] rfl)
set_option maxHeartbeats 4000000 in
set_option maxRecDepth 100000 in
/-- X2_findEarliestEnds: the loop at 12 -/
theorem lp_X2_feeO {p : Program} {l : Launch} {e : Env} {s : State} {m : MethodId} {args : Array Value} {below : List Frame} {meth : Method} {c : Code} {Q : State → Prop} {D : va_G} {cI cJ cZ cM : Nat} {a : Nat → Nat} {iv : Nat → Int32} {av : Nat → Nat → Int32} {cc : Nat} {A : Nat → Prop} (hx : p.tables.exec = Jvm.exec) (hb : c.code = cX2_findEarliestEnds) (hml : c.maxLocals = 7) (hts : ∀ w ∈ wsX2_findEarliestEnds, w.before args s = true) (hown : s.vm.findClass RX2 = some m.cls) (hG : GK D cI cJ cZ cM s) (hA : ∀ q : Nat, s.heap.size ≤ q → A q) (h_c : iv 20 = nI cc) (hcc : cc ≤ 10) :
    ∀ (k9 : Nat) (k_ : Nat) (f23 : Nat → Int32) (f24 : Nat → Int32), (k_ ≤ 2 ^ cc) → (2 ^ cc) - k_ < k9 → ∀ (H : Heap) (locs : List Loc) (ls : Array Slot), va_P D vwCl [(a 6, .inr (2, [.ref (a 16), .ref (a 17), .ref (a 18), .ref (a 19), .ref (a 20), .ref (a 21), .ref (a 22), .ref (a 23), .ref (a 24), .ref (a 25), .ref (a 26), .ref (a 27), .int (iv 20), .int (iv 21), .int (iv 22), .int (iv 23)])), (a 17, .inl (cI, 10, .inl (av 17))), (a 18, .inl (cI, 10, .inl (av 18))), (a 20, .inl (cI, 121, .inl (av 20))), (a 21, .inl (cI, 240, .inl (av 21))), (a 23, .inl (cI, 10240, .inl f23)), (a 24, .inl (cI, 1024, .inl f24)), (a 5, .inr (4, [.ref (a 13), .ref (a 14), .int (iv 5), .int (iv 6), .int (iv 7), .int (iv 8), .int (iv 9), .int (iv 10), .int (iv 11), .int (iv 12)]))] H → va_D A [(a 6, .inr (2, [.ref (a 16), .ref (a 17), .ref (a 18), .ref (a 19), .ref (a 20), .ref (a 21), .ref (a 22), .ref (a 23), .ref (a 24), .ref (a 25), .ref (a 26), .ref (a 27), .int (iv 20), .int (iv 21), .int (iv 22), .int (iv 23)])), (a 17, .inl (cI, 10, .inl (av 17))), (a 18, .inl (cI, 10, .inl (av 18))), (a 20, .inl (cI, 121, .inl (av 20))), (a 21, .inl (cI, 240, .inl (av 21))), (a 23, .inl (cI, 10240, .inl f23)), (a 24, .inl (cI, 1024, .inl f24)), (a 5, .inr (4, [.ref (a 13), .ref (a 14), .int (iv 5), .int (iv 6), .int (iv 7), .int (iv 8), .int (iv 9), .int (iv 10), .int (iv 11), .int (iv 12)]))] → va_S A s.heap H locs → lv_has ls 7 [(2, .int (nI k_)), (0, .ref (a 6)), (1, .ref (a 5))] → (∀ (f23 : Nat → Int32) (f24 : Nat → Int32) (H : Heap) (locs : List Loc) (ls : Array Slot), va_P D vwCl [(a 6, .inr (2, [.ref (a 16), .ref (a 17), .ref (a 18), .ref (a 19), .ref (a 20), .ref (a 21), .ref (a 22), .ref (a 23), .ref (a 24), .ref (a 25), .ref (a 26), .ref (a 27), .int (iv 20), .int (iv 21), .int (iv 22), .int (iv 23)])), (a 17, .inl (cI, 10, .inl (av 17))), (a 18, .inl (cI, 10, .inl (av 18))), (a 20, .inl (cI, 121, .inl (av 20))), (a 21, .inl (cI, 240, .inl (av 21))), (a 23, .inl (cI, 10240, .inl f23)), (a 24, .inl (cI, 1024, .inl f24)), (a 5, .inr (4, [.ref (a 13), .ref (a 14), .int (iv 5), .int (iv 6), .int (iv 7), .int (iv 8), .int (iv 9), .int (iv 10), .int (iv 11), .int (iv 12)]))] H → va_D A [(a 6, .inr (2, [.ref (a 16), .ref (a 17), .ref (a 18), .ref (a 19), .ref (a 20), .ref (a 21), .ref (a 22), .ref (a 23), .ref (a 24), .ref (a 25), .ref (a 26), .ref (a 27), .int (iv 20), .int (iv 21), .int (iv 22), .int (iv 23)])), (a 17, .inl (cI, 10, .inl (av 17))), (a 18, .inl (cI, 10, .inl (av 18))), (a 20, .inl (cI, 121, .inl (av 20))), (a 21, .inl (cI, 240, .inl (av 21))), (a 23, .inl (cI, 10240, .inl f23)), (a 24, .inl (cI, 1024, .inl f24)), (a 5, .inr (4, [.ref (a 13), .ref (a 14), .int (iv 5), .int (iv 6), .int (iv 7), .int (iv 8), .int (iv 9), .int (iv 10), .int (iv 11), .int (iv 12)]))] → va_S A s.heap H locs → lv_has ls 7 [(0, .ref (a 6)), (1, .ref (a 5))] → W p l e (headSpec wsX2_findEarliestEnds ({ frames := 2, cells := 0, slots := 0, locals := 66 } : Room)).room s m args below meth c H locs 0 0 Q (F0 m 156 ls [])) → W p l e (headSpec wsX2_findEarliestEnds ({ frames := 2, cells := 0, slots := 0, locals := 66 } : Room)).room s m args below meth c H locs 0 0 Q (F0 m 12 ls []) := by
  have hK := hG.1
  have hN := hG.2
  intro k9
  induction k9 with
  | zero => intro k_ f23 f24 hk hfu; exact absurd hfu (Nat.not_lt_zero _)
  | succ k9 ih =>
    intro k_ f23 f24 hk hfu H locs ls hP hD hS hl kk0
    have hp10 : 2 ^ cc ≤ 1024 := Nat.pow_le_pow_right (n := 2) (by decide) hcc
    rcases Nat.lt_or_ge k_ (2 ^ cc) with hlt | hge
    · refine lv_iload_n hx hb dX2_findEarliestEnds_12 rfl (lv_at hl 0 rfl) ?_
      refine lv_iconst (v := 1) hx hb dX2_findEarliestEnds_13 (by decide) ?_
      refine lv_aload_n hx hb dX2_findEarliestEnds_14 rfl (lv_at hl 1 rfl) ?_
      refine va_get (D := D) (ci := 2) (v := .int (iv 20)) (C := RX2) (T := TX2) (N := 16) hx hb hts (fun _ h9 => List.mem_cons_of_mem _ (List.mem_append_left _ (List.mem_append_right _ h9))) hown hK hP 0 rfl rfl 12 (by decide) (hts (.fieldLink RX2 76 "BuoyTender$Planner" "count" "I") (by decide +kernel)) (fun _ h9 => h9) rfl dX2_findEarliestEnds_15 ?_
      refine lv_topi (fun z_1 ez_1 => ?_)
      obtain rfl : z_1 = nI cc := ez_1.trans h_c
      refine lv_ishl hx hb dX2_findEarliestEnds_18 ?_
      refine lv_topi (fun z_2 ez_2 => ?_)
      obtain rfl : z_2 = nI (2 ^ cc) := ez_2.trans (nx_shl1 (by omega))
      refine lv_icmp_ge (tgt := 156) hx hb dX2_findEarliestEnds_19 (by decide) (fun c_3 => absurd c_3 (nI_ge hlt (by omega))) (fun c_3 => ?_)
      refine lv_ldc (v := 1000000) hx hb hown (hts (.constant RX2 131 1000000) (by decide +kernel)) dX2_findEarliestEnds_22 ?_
      refine lv_istore_n (lv' := [(3, .int 1000000), (2, .int (nI k_)), (0, .ref (a 6)), (1, .ref (a 5))]) hx hb dX2_findEarliestEnds_24 rfl hl (by decide) rfl (fun ls hl => ?_)
      refine lv_aload_n hx hb dX2_findEarliestEnds_25 rfl (lv_at hl 2 rfl) ?_
      refine lv_iload_n hx hb dX2_findEarliestEnds_26 rfl (lv_at hl 1 rfl) ?_
      refine lv_aload_n hx hb dX2_findEarliestEnds_27 rfl (lv_at hl 2 rfl) ?_
      refine va_get (D := D) (ci := 2) (v := .ref (a 18)) (C := RX2) (T := TX2) (N := 16) hx hb hts (fun _ h9 => List.mem_cons_of_mem _ (List.mem_append_left _ (List.mem_append_right _ h9))) hown hK hP 0 rfl rfl 2 (by decide) (hts (.fieldLink RX2 18 "BuoyTender$Planner" "loads" "[I") (by decide +kernel)) (fun _ h9 => h9) rfl dX2_findEarliestEnds_28 ?_
      have hPc := hP.sub (ws' := [(a 6, .inr (2, [.ref (a 16), .ref (a 17), .ref (a 18), .ref (a 19), .ref (a 20), .ref (a 21), .ref (a 22), .ref (a 23), .ref (a 24), .ref (a 25), .ref (a 26), .ref (a 27), .int (iv 20), .int (iv 21), .int (iv 22), .int (iv 23)])), (a 18, .inl (cI, 10, .inl (av 18)))]) [0, 2] rfl
      refine vp_callSi (va_Run.run (va_runV (As := [.int (nI k_), .ref (a 18)]) (rest := []) ⟨hx, hb, hml, hown, hts⟩ (k_X2_sumOver l D cI cJ cZ cM a iv (a 18) (av 18) cc h_c hcc (nI k_)) (cwV 2 hts gX2_findEarliestEnds_X2_sumOver rfl rfl rfl (by decide +kernel) ⟨Nat.le_of_ble_eq_true rfl, Nat.le_of_ble_eq_true rfl⟩) (ro_V hG hPc (va_recv hK hPc (ci := 2) (q0 := 0) rfl rfl)) rfl rfl hl.1 rfl (lv_room (Nat.le_of_ble_eq_true rfl)) dX2_findEarliestEnds_31 ⟨Nat.le_of_ble_eq_true rfl, Nat.le_of_ble_eq_true rfl⟩)) (fun r_4 h_4 => ?_)
      refine lv_aload_n hx hb dX2_findEarliestEnds_34 rfl (lv_at hl 3 rfl) ?_
      refine va_getN (D := D) (ci := 4) (v := .int (iv 12)) (C := RX4) (T := TX4) (N := 10) hx hb hts (fun _ h9 => List.mem_cons_of_mem _ (List.mem_append_right _ h9)) hown hK hP 7 rfl rfl 9 (by decide) (va_Nw.use rfl (hN.1 (RX2, 143, "BuoyTender$Ship", "carried", "I", "BuoyTender") (by decide +kernel))) (fun _ h9 => h9) rfl dX2_findEarliestEnds_35 ?_
      refine lv_icmp_gt (tgt := 45) hx hb dX2_findEarliestEnds_38 (by decide) (fun c_5 => ?_) (fun c_5 => ?_)
      · refine lv_iconst (v := 0) hx hb dX2_findEarliestEnds_45 (by decide) ?_
        refine lv_istore (lv' := [(4, .int 0), (3, .int 1000000), (2, .int (nI k_)), (0, .ref (a 6)), (1, .ref (a 5))]) hx hb dX2_findEarliestEnds_46 hl (by decide) rfl (fun ls hl => ?_)
        refine lv_iconst (v := 0) hx hb dX2_findEarliestEnds_48 (by decide) ?_
        refine lv_istore (lv' := [(5, .int 0), (4, .int 0), (3, .int 1000000), (2, .int (nI k_)), (0, .ref (a 6)), (1, .ref (a 5))]) hx hb dX2_findEarliestEnds_49 hl (by decide) rfl (fun ls hl => ?_)
        refine lp_X2_feeI hx hb hml hts hown hG hA h_c hcc (by omega) (cc + 1) 0 1000000 f23 (Nat.zero_le _) (by omega) _ _ _ hP hD hS (lv_sub hl [0, 2, 1, 3, 4, 5] rfl) (fun z_6 f23_6 H locs ls  hP hD hS hl => ?_)
        refine lv_aload_n hx hb dX2_findEarliestEnds_130 rfl (lv_at hl 3 rfl) ?_
        refine va_get (D := D) (ci := 2) (v := .ref (a 24)) (C := RX2) (T := TX2) (N := 16) hx hb hts (fun _ h9 => List.mem_cons_of_mem _ (List.mem_append_left _ (List.mem_append_right _ h9))) hown hK hP 0 rfl rfl 8 (by decide) (hts (.fieldLink RX2 36 "BuoyTender$Planner" "backs" "[I") (by decide +kernel)) (fun _ h9 => h9) rfl dX2_findEarliestEnds_131 ?_
        refine lv_iload_n hx hb dX2_findEarliestEnds_134 rfl (lv_at hl 2 rfl) ?_
        refine lv_iload_n hx hb dX2_findEarliestEnds_135 rfl (lv_at hl 0 rfl) ?_
        refine lv_aload_n hx hb dX2_findEarliestEnds_136 rfl (lv_at hl 4 rfl) ?_
        refine va_getN (D := D) (ci := 4) (v := .int (iv 8)) (C := RX4) (T := TX4) (N := 10) hx hb hts (fun _ h9 => List.mem_cons_of_mem _ (List.mem_append_right _ h9)) hown hK hP 7 rfl rfl 5 (by decide) (va_Nw.use rfl (hN.1 (RX2, 150, "BuoyTender$Ship", "end", "I", "BuoyTender") (by decide +kernel))) (fun _ h9 => h9) rfl dX2_findEarliestEnds_137 ?_
        refine lv_icmp_gt (tgt := 147) hx hb dX2_findEarliestEnds_140 (by decide) (fun c_7 => ?_) (fun c_7 => ?_)
        · refine lv_ldc (v := 1000000) hx hb hown (hts (.constant RX2 131 1000000) (by decide +kernel)) dX2_findEarliestEnds_147 ?_
          refine va_iast hx hb hK hP hD hS 6 0 rfl rfl (vp_in_nI (by omega) (by decide)) dX2_findEarliestEnds_149 (fun H locs hP hD hS => ?_)
          rw [nI_clamp (by omega)] at hP hD
          have hP : va_P D vwCl [(a 6, .inr (2, [.ref (a 16), .ref (a 17), .ref (a 18), .ref (a 19), .ref (a 20), .ref (a 21), .ref (a 22), .ref (a 23), .ref (a 24), .ref (a 25), .ref (a 26), .ref (a 27), .int (iv 20), .int (iv 21), .int (iv 22), .int (iv 23)])), (a 17, .inl (cI, 10, .inl (av 17))), (a 18, .inl (cI, 10, .inl (av 18))), (a 20, .inl (cI, 121, .inl (av 20))), (a 21, .inl (cI, 240, .inl (av 21))), (a 23, .inl (cI, 10240, .inl f23_6)), (a 24, .inl (cI, 1024, .inl (upd f24 k_ 1000000))), (a 5, .inr (4, [.ref (a 13), .ref (a 14), .int (iv 5), .int (iv 6), .int (iv 7), .int (iv 8), .int (iv 9), .int (iv 10), .int (iv 11), .int (iv 12)]))] H := hP
          have hD : va_D A [(a 6, .inr (2, [.ref (a 16), .ref (a 17), .ref (a 18), .ref (a 19), .ref (a 20), .ref (a 21), .ref (a 22), .ref (a 23), .ref (a 24), .ref (a 25), .ref (a 26), .ref (a 27), .int (iv 20), .int (iv 21), .int (iv 22), .int (iv 23)])), (a 17, .inl (cI, 10, .inl (av 17))), (a 18, .inl (cI, 10, .inl (av 18))), (a 20, .inl (cI, 121, .inl (av 20))), (a 21, .inl (cI, 240, .inl (av 21))), (a 23, .inl (cI, 10240, .inl f23_6)), (a 24, .inl (cI, 1024, .inl (upd f24 k_ 1000000))), (a 5, .inr (4, [.ref (a 13), .ref (a 14), .int (iv 5), .int (iv 6), .int (iv 7), .int (iv 8), .int (iv 9), .int (iv 10), .int (iv 11), .int (iv 12)]))] := hD
          refine lv_iinc (v := nI (k_ + 1)) (lv' := [(2, .int (nI (k_ + 1))), (3, .int z_6), (4, .int 0), (0, .ref (a 6)), (1, .ref (a 5))]) hx hb dX2_findEarliestEnds_150 hl (k := 2) rfl (nI_add k_ 1) (by decide) rfl (fun ls hl => ?_)
          refine lv_goto (tgt := 12) hx hb dX2_findEarliestEnds_153 (by decide) ?_
          exact ih (k_ + 1) f23_6 (upd f24 k_ 1000000) (by omega) (by omega) _ _ _ hP hD hS (lv_sub hl [0, 3, 4] rfl) kk0
        refine lv_iload_n hx hb dX2_findEarliestEnds_143 rfl (lv_at hl 0 rfl) ?_
        refine lv_goto (tgt := 149) hx hb dX2_findEarliestEnds_144 (by decide) ?_
        refine va_iast hx hb hK hP hD hS 6 0 rfl rfl (vp_in_nI (by omega) (by decide)) dX2_findEarliestEnds_149 (fun H locs hP hD hS => ?_)
        rw [nI_clamp (by omega)] at hP hD
        have hP : va_P D vwCl [(a 6, .inr (2, [.ref (a 16), .ref (a 17), .ref (a 18), .ref (a 19), .ref (a 20), .ref (a 21), .ref (a 22), .ref (a 23), .ref (a 24), .ref (a 25), .ref (a 26), .ref (a 27), .int (iv 20), .int (iv 21), .int (iv 22), .int (iv 23)])), (a 17, .inl (cI, 10, .inl (av 17))), (a 18, .inl (cI, 10, .inl (av 18))), (a 20, .inl (cI, 121, .inl (av 20))), (a 21, .inl (cI, 240, .inl (av 21))), (a 23, .inl (cI, 10240, .inl f23_6)), (a 24, .inl (cI, 1024, .inl (upd f24 k_ z_6))), (a 5, .inr (4, [.ref (a 13), .ref (a 14), .int (iv 5), .int (iv 6), .int (iv 7), .int (iv 8), .int (iv 9), .int (iv 10), .int (iv 11), .int (iv 12)]))] H := hP
        have hD : va_D A [(a 6, .inr (2, [.ref (a 16), .ref (a 17), .ref (a 18), .ref (a 19), .ref (a 20), .ref (a 21), .ref (a 22), .ref (a 23), .ref (a 24), .ref (a 25), .ref (a 26), .ref (a 27), .int (iv 20), .int (iv 21), .int (iv 22), .int (iv 23)])), (a 17, .inl (cI, 10, .inl (av 17))), (a 18, .inl (cI, 10, .inl (av 18))), (a 20, .inl (cI, 121, .inl (av 20))), (a 21, .inl (cI, 240, .inl (av 21))), (a 23, .inl (cI, 10240, .inl f23_6)), (a 24, .inl (cI, 1024, .inl (upd f24 k_ z_6))), (a 5, .inr (4, [.ref (a 13), .ref (a 14), .int (iv 5), .int (iv 6), .int (iv 7), .int (iv 8), .int (iv 9), .int (iv 10), .int (iv 11), .int (iv 12)]))] := hD
        refine lv_iinc (v := nI (k_ + 1)) (lv' := [(2, .int (nI (k_ + 1))), (3, .int z_6), (4, .int 0), (0, .ref (a 6)), (1, .ref (a 5))]) hx hb dX2_findEarliestEnds_150 hl (k := 2) rfl (nI_add k_ 1) (by decide) rfl (fun ls hl => ?_)
        refine lv_goto (tgt := 12) hx hb dX2_findEarliestEnds_153 (by decide) ?_
        exact ih (k_ + 1) f23_6 (upd f24 k_ z_6) (by omega) (by omega) _ _ _ hP hD hS (lv_sub hl [0, 3, 4] rfl) kk0
      refine lv_iconst (v := 1) hx hb dX2_findEarliestEnds_41 (by decide) ?_
      refine lv_goto (tgt := 46) hx hb dX2_findEarliestEnds_42 (by decide) ?_
      refine lv_istore (lv' := [(4, .int 1), (3, .int 1000000), (2, .int (nI k_)), (0, .ref (a 6)), (1, .ref (a 5))]) hx hb dX2_findEarliestEnds_46 hl (by decide) rfl (fun ls hl => ?_)
      refine lv_iconst (v := 0) hx hb dX2_findEarliestEnds_48 (by decide) ?_
      refine lv_istore (lv' := [(5, .int 0), (4, .int 1), (3, .int 1000000), (2, .int (nI k_)), (0, .ref (a 6)), (1, .ref (a 5))]) hx hb dX2_findEarliestEnds_49 hl (by decide) rfl (fun ls hl => ?_)
      refine lp_X2_feeI hx hb hml hts hown hG hA h_c hcc (by omega) (cc + 1) 0 1000000 f23 (Nat.zero_le _) (by omega) _ _ _ hP hD hS (lv_sub hl [0, 2, 1, 3, 4, 5] rfl) (fun z_8 f23_8 H locs ls  hP hD hS hl => ?_)
      refine lv_aload_n hx hb dX2_findEarliestEnds_130 rfl (lv_at hl 3 rfl) ?_
      refine va_get (D := D) (ci := 2) (v := .ref (a 24)) (C := RX2) (T := TX2) (N := 16) hx hb hts (fun _ h9 => List.mem_cons_of_mem _ (List.mem_append_left _ (List.mem_append_right _ h9))) hown hK hP 0 rfl rfl 8 (by decide) (hts (.fieldLink RX2 36 "BuoyTender$Planner" "backs" "[I") (by decide +kernel)) (fun _ h9 => h9) rfl dX2_findEarliestEnds_131 ?_
      refine lv_iload_n hx hb dX2_findEarliestEnds_134 rfl (lv_at hl 2 rfl) ?_
      refine lv_iload_n hx hb dX2_findEarliestEnds_135 rfl (lv_at hl 0 rfl) ?_
      refine lv_aload_n hx hb dX2_findEarliestEnds_136 rfl (lv_at hl 4 rfl) ?_
      refine va_getN (D := D) (ci := 4) (v := .int (iv 8)) (C := RX4) (T := TX4) (N := 10) hx hb hts (fun _ h9 => List.mem_cons_of_mem _ (List.mem_append_right _ h9)) hown hK hP 7 rfl rfl 5 (by decide) (va_Nw.use rfl (hN.1 (RX2, 150, "BuoyTender$Ship", "end", "I", "BuoyTender") (by decide +kernel))) (fun _ h9 => h9) rfl dX2_findEarliestEnds_137 ?_
      refine lv_icmp_gt (tgt := 147) hx hb dX2_findEarliestEnds_140 (by decide) (fun c_9 => ?_) (fun c_9 => ?_)
      · refine lv_ldc (v := 1000000) hx hb hown (hts (.constant RX2 131 1000000) (by decide +kernel)) dX2_findEarliestEnds_147 ?_
        refine va_iast hx hb hK hP hD hS 6 0 rfl rfl (vp_in_nI (by omega) (by decide)) dX2_findEarliestEnds_149 (fun H locs hP hD hS => ?_)
        rw [nI_clamp (by omega)] at hP hD
        have hP : va_P D vwCl [(a 6, .inr (2, [.ref (a 16), .ref (a 17), .ref (a 18), .ref (a 19), .ref (a 20), .ref (a 21), .ref (a 22), .ref (a 23), .ref (a 24), .ref (a 25), .ref (a 26), .ref (a 27), .int (iv 20), .int (iv 21), .int (iv 22), .int (iv 23)])), (a 17, .inl (cI, 10, .inl (av 17))), (a 18, .inl (cI, 10, .inl (av 18))), (a 20, .inl (cI, 121, .inl (av 20))), (a 21, .inl (cI, 240, .inl (av 21))), (a 23, .inl (cI, 10240, .inl f23_8)), (a 24, .inl (cI, 1024, .inl (upd f24 k_ 1000000))), (a 5, .inr (4, [.ref (a 13), .ref (a 14), .int (iv 5), .int (iv 6), .int (iv 7), .int (iv 8), .int (iv 9), .int (iv 10), .int (iv 11), .int (iv 12)]))] H := hP
        have hD : va_D A [(a 6, .inr (2, [.ref (a 16), .ref (a 17), .ref (a 18), .ref (a 19), .ref (a 20), .ref (a 21), .ref (a 22), .ref (a 23), .ref (a 24), .ref (a 25), .ref (a 26), .ref (a 27), .int (iv 20), .int (iv 21), .int (iv 22), .int (iv 23)])), (a 17, .inl (cI, 10, .inl (av 17))), (a 18, .inl (cI, 10, .inl (av 18))), (a 20, .inl (cI, 121, .inl (av 20))), (a 21, .inl (cI, 240, .inl (av 21))), (a 23, .inl (cI, 10240, .inl f23_8)), (a 24, .inl (cI, 1024, .inl (upd f24 k_ 1000000))), (a 5, .inr (4, [.ref (a 13), .ref (a 14), .int (iv 5), .int (iv 6), .int (iv 7), .int (iv 8), .int (iv 9), .int (iv 10), .int (iv 11), .int (iv 12)]))] := hD
        refine lv_iinc (v := nI (k_ + 1)) (lv' := [(2, .int (nI (k_ + 1))), (3, .int z_8), (4, .int 1), (0, .ref (a 6)), (1, .ref (a 5))]) hx hb dX2_findEarliestEnds_150 hl (k := 2) rfl (nI_add k_ 1) (by decide) rfl (fun ls hl => ?_)
        refine lv_goto (tgt := 12) hx hb dX2_findEarliestEnds_153 (by decide) ?_
        exact ih (k_ + 1) f23_8 (upd f24 k_ 1000000) (by omega) (by omega) _ _ _ hP hD hS (lv_sub hl [0, 3, 4] rfl) kk0
      refine lv_iload_n hx hb dX2_findEarliestEnds_143 rfl (lv_at hl 0 rfl) ?_
      refine lv_goto (tgt := 149) hx hb dX2_findEarliestEnds_144 (by decide) ?_
      refine va_iast hx hb hK hP hD hS 6 0 rfl rfl (vp_in_nI (by omega) (by decide)) dX2_findEarliestEnds_149 (fun H locs hP hD hS => ?_)
      rw [nI_clamp (by omega)] at hP hD
      have hP : va_P D vwCl [(a 6, .inr (2, [.ref (a 16), .ref (a 17), .ref (a 18), .ref (a 19), .ref (a 20), .ref (a 21), .ref (a 22), .ref (a 23), .ref (a 24), .ref (a 25), .ref (a 26), .ref (a 27), .int (iv 20), .int (iv 21), .int (iv 22), .int (iv 23)])), (a 17, .inl (cI, 10, .inl (av 17))), (a 18, .inl (cI, 10, .inl (av 18))), (a 20, .inl (cI, 121, .inl (av 20))), (a 21, .inl (cI, 240, .inl (av 21))), (a 23, .inl (cI, 10240, .inl f23_8)), (a 24, .inl (cI, 1024, .inl (upd f24 k_ z_8))), (a 5, .inr (4, [.ref (a 13), .ref (a 14), .int (iv 5), .int (iv 6), .int (iv 7), .int (iv 8), .int (iv 9), .int (iv 10), .int (iv 11), .int (iv 12)]))] H := hP
      have hD : va_D A [(a 6, .inr (2, [.ref (a 16), .ref (a 17), .ref (a 18), .ref (a 19), .ref (a 20), .ref (a 21), .ref (a 22), .ref (a 23), .ref (a 24), .ref (a 25), .ref (a 26), .ref (a 27), .int (iv 20), .int (iv 21), .int (iv 22), .int (iv 23)])), (a 17, .inl (cI, 10, .inl (av 17))), (a 18, .inl (cI, 10, .inl (av 18))), (a 20, .inl (cI, 121, .inl (av 20))), (a 21, .inl (cI, 240, .inl (av 21))), (a 23, .inl (cI, 10240, .inl f23_8)), (a 24, .inl (cI, 1024, .inl (upd f24 k_ z_8))), (a 5, .inr (4, [.ref (a 13), .ref (a 14), .int (iv 5), .int (iv 6), .int (iv 7), .int (iv 8), .int (iv 9), .int (iv 10), .int (iv 11), .int (iv 12)]))] := hD
      refine lv_iinc (v := nI (k_ + 1)) (lv' := [(2, .int (nI (k_ + 1))), (3, .int z_8), (4, .int 1), (0, .ref (a 6)), (1, .ref (a 5))]) hx hb dX2_findEarliestEnds_150 hl (k := 2) rfl (nI_add k_ 1) (by decide) rfl (fun ls hl => ?_)
      refine lv_goto (tgt := 12) hx hb dX2_findEarliestEnds_153 (by decide) ?_
      exact ih (k_ + 1) f23_8 (upd f24 k_ z_8) (by omega) (by omega) _ _ _ hP hD hS (lv_sub hl [0, 3, 4] rfl) kk0
    · refine lv_iload_n hx hb dX2_findEarliestEnds_12 rfl (lv_at hl 0 rfl) ?_
      refine lv_iconst (v := 1) hx hb dX2_findEarliestEnds_13 (by decide) ?_
      refine lv_aload_n hx hb dX2_findEarliestEnds_14 rfl (lv_at hl 1 rfl) ?_
      refine va_get (D := D) (ci := 2) (v := .int (iv 20)) (C := RX2) (T := TX2) (N := 16) hx hb hts (fun _ h9 => List.mem_cons_of_mem _ (List.mem_append_left _ (List.mem_append_right _ h9))) hown hK hP 0 rfl rfl 12 (by decide) (hts (.fieldLink RX2 76 "BuoyTender$Planner" "count" "I") (by decide +kernel)) (fun _ h9 => h9) rfl dX2_findEarliestEnds_15 ?_
      refine lv_topi (fun z_10 ez_10 => ?_)
      obtain rfl : z_10 = nI cc := ez_10.trans h_c
      refine lv_ishl hx hb dX2_findEarliestEnds_18 ?_
      refine lv_topi (fun z_11 ez_11 => ?_)
      obtain rfl : z_11 = nI (2 ^ cc) := ez_11.trans (nx_shl1 (by omega))
      refine lv_icmp_ge (tgt := 156) hx hb dX2_findEarliestEnds_19 (by decide) (fun c_12 => ?_) (fun c_12 => absurd (nI_le hge (by omega)) c_12)
      exact kk0 f23 f24 _ _ _  hP hD hS (lv_sub hl [1, 2] rfl)
set_option maxHeartbeats 4000000 in
set_option maxRecDepth 100000 in
/-- X2_findEarliestEnds -/
theorem k_X2_findEarliestEnds (l : Launch) (D : va_G) (cI cJ cZ cM : Nat) (a : Nat → Nat) (iv : Nat → Int32) (av : Nat → Nat → Int32) (cc : Nat) (h_c : iv 20 = nI cc) (hcc : cc ≤ 10) (sz : Nat) : Met l yX2_findEarliestEnds wsX2_findEarliestEnds ({ frames := 2, cells := 0, slots := 0, locals := 66 } : Room) (RW D cI cJ cZ cM [.ref (a 6), .ref (a 5)] [(a 6, .inr (2, [.ref (a 16), .ref (a 17), .ref (a 18), .ref (a 19), .ref (a 20), .ref (a 21), .ref (a 22), .ref (a 23), .ref (a 24), .ref (a 25), .ref (a 26), .ref (a 27), .int (iv 20), .int (iv 21), .int (iv 22), .int (iv 23)])), (a 17, .inl (cI, 10, .inl (av 17))), (a 18, .inl (cI, 10, .inl (av 18))), (a 20, .inl (cI, 121, .inl (av 20))), (a 21, .inl (cI, 240, .inl (av 21))), (a 23, .inl (cI, 10240, .inl (av 23))), (a 24, .inl (cI, 1024, .inl (av 24))), (a 5, .inr (4, [.ref (a 13), .ref (a 14), .int (iv 5), .int (iv 6), .int (iv 7), .int (iv 8), .int (iv 9), .int (iv 10), .int (iv 11), .int (iv 12)]))] sz) (va_Qv (S := (Nat → Int32) × (Nat → Int32)) (fun u => True) (BB D (fun u => [(a 6, .inr (2, [.ref (a 16), .ref (a 17), .ref (a 18), .ref (a 19), .ref (a 20), .ref (a 21), .ref (a 22), .ref (a 23), .ref (a 24), .ref (a 25), .ref (a 26), .ref (a 27), .int (iv 20), .int (iv 21), .int (iv 22), .int (iv 23)])), (a 17, .inl (cI, 10, .inl (av 17))), (a 18, .inl (cI, 10, .inl (av 18))), (a 20, .inl (cI, 121, .inl (av 20))), (a 21, .inl (cI, 240, .inl (av 21))), (a 23, .inl (cI, 10240, .inl u.1)), (a 24, .inl (cI, 1024, .inl u.2)), (a 5, .inr (4, [.ref (a 13), .ref (a 14), .int (iv 5), .int (iv 6), .int (iv 7), .int (iv 8), .int (iv 9), .int (iv 10), .int (iv 11), .int (iv 12)]))]) (va_A [(a 6, .inr (2, [.ref (a 16), .ref (a 17), .ref (a 18), .ref (a 19), .ref (a 20), .ref (a 21), .ref (a 22), .ref (a 23), .ref (a 24), .ref (a 25), .ref (a 26), .ref (a 27), .int (iv 20), .int (iv 21), .int (iv 22), .int (iv 23)])), (a 17, .inl (cI, 10, .inl (av 17))), (a 18, .inl (cI, 10, .inl (av 18))), (a 20, .inl (cI, 121, .inl (av 20))), (a 21, .inl (cI, 240, .inl (av 21))), (a 23, .inl (cI, 10240, .inl (av 23))), (a 24, .inl (cI, 1024, .inl (av 24))), (a 5, .inr (4, [.ref (a 13), .ref (a 14), .int (iv 5), .int (iv 6), .int (iv 7), .int (iv 8), .int (iv 9), .int (iv 10), .int (iv 11), .int (iv 12)]))] sz)) (va_A [(a 6, .inr (2, [.ref (a 16), .ref (a 17), .ref (a 18), .ref (a 19), .ref (a 20), .ref (a 21), .ref (a 22), .ref (a 23), .ref (a 24), .ref (a 25), .ref (a 26), .ref (a 27), .int (iv 20), .int (iv 21), .int (iv 22), .int (iv 23)])), (a 17, .inl (cI, 10, .inl (av 17))), (a 18, .inl (cI, 10, .inl (av 18))), (a 20, .inl (cI, 121, .inl (av 20))), (a 21, .inl (cI, 240, .inl (av 21))), (a 23, .inl (cI, 10240, .inl (av 23))), (a 24, .inl (cI, 1024, .inl (av 24))), (a 5, .inr (4, [.ref (a 13), .ref (a 14), .int (iv 5), .int (iv 6), .int (iv 7), .int (iv 8), .int (iv 9), .int (iv 10), .int (iv 11), .int (iv 12)]))] sz)) 0 0 (va_A [(a 6, .inr (2, [.ref (a 16), .ref (a 17), .ref (a 18), .ref (a 19), .ref (a 20), .ref (a 21), .ref (a 22), .ref (a 23), .ref (a 24), .ref (a 25), .ref (a 26), .ref (a 27), .int (iv 20), .int (iv 21), .int (iv 22), .int (iv 23)])), (a 17, .inl (cI, 10, .inl (av 17))), (a 18, .inl (cI, 10, .inl (av 18))), (a 20, .inl (cI, 121, .inl (av 20))), (a 21, .inl (cI, 240, .inl (av 21))), (a 23, .inl (cI, 10240, .inl (av 23))), (a 24, .inl (cI, 1024, .inl (av 24))), (a 5, .inr (4, [.ref (a 13), .ref (a 14), .int (iv 5), .int (iv 6), .int (iv 7), .int (iv 8), .int (iv 9), .int (iv 10), .int (iv 11), .int (iv 12)]))] sz) := by
  refine Met.ofW (cc := cX2_findEarliestEnds) (maxL := 7) (ret := none) (by decide) rfl ?_
  intro p e s m args below meth c s₁ B hml hv
  obtain ⟨rfl, hsz, hG, hP, hD0⟩ := hv
  have hx := B.exec
  have hb := B.bytes
  have hr := B.returns
  have hts := atoms_spec (ws := wsX2_findEarliestEnds) B.pre
  have hown : s.vm.findClass RX2 = some m.cls := findClass_of_methodNamed B.named
  have hlocks := B.notSynchronized
  have hK := hG.1
  have hN := hG.2
  subst hsz
  have hD := hD0.self (sz := s.heap.size)
  generalize hAe : va_A [(a 6, .inr (2, [.ref (a 16), .ref (a 17), .ref (a 18), .ref (a 19), .ref (a 20), .ref (a 21), .ref (a 22), .ref (a 23), .ref (a 24), .ref (a 25), .ref (a 26), .ref (a 27), .int (iv 20), .int (iv 21), .int (iv 22), .int (iv 23)])), (a 17, .inl (cI, 10, .inl (av 17))), (a 18, .inl (cI, 10, .inl (av 18))), (a 20, .inl (cI, 121, .inl (av 20))), (a 21, .inl (cI, 240, .inl (av 21))), (a 23, .inl (cI, 10240, .inl (av 23))), (a 24, .inl (cI, 1024, .inl (av 24))), (a 5, .inr (4, [.ref (a 13), .ref (a 14), .int (iv 5), .int (iv 6), .int (iv 7), .int (iv 8), .int (iv 9), .int (iv 10), .int (iv 11), .int (iv 12)]))] s.heap.size = A at hD ⊢
  have hA : ∀ q : Nat, s.heap.size ≤ q → A q := fun q h => by rw [← hAe]; exact Or.inr h
  have hS : va_S A s.heap s.heap [] := va_S.rf
  have hP : va_P D vwCl [(a 6, .inr (2, [.ref (a 16), .ref (a 17), .ref (a 18), .ref (a 19), .ref (a 20), .ref (a 21), .ref (a 22), .ref (a 23), .ref (a 24), .ref (a 25), .ref (a 26), .ref (a 27), .int (iv 20), .int (iv 21), .int (iv 22), .int (iv 23)])), (a 17, .inl (cI, 10, .inl (av 17))), (a 18, .inl (cI, 10, .inl (av 18))), (a 20, .inl (cI, 121, .inl (av 20))), (a 21, .inl (cI, 240, .inl (av 21))), (a 23, .inl (cI, 10240, .inl (av 23))), (a 24, .inl (cI, 1024, .inl (av 24))), (a 5, .inr (4, [.ref (a 13), .ref (a 14), .int (iv 5), .int (iv 6), .int (iv 7), .int (iv 8), .int (iv 9), .int (iv 10), .int (iv 11), .int (iv 12)]))] s.heap := hP
  have hl := lv_entry ([.ref (a 6), .ref (a 5)]) (n := 7) (Nat.le_of_ble_eq_true rfl)
  rw [lg_entry_eq]
  generalize (lg_sl ([.ref (a 6), .ref (a 5)]) ++ List.replicate (7 - (lg_sl ([.ref (a 6), .ref (a 5)])).length) Slot.unset).toArray = ls at hl ⊢
  have hl : lv_has ls 7 [(0, .ref (a 6)), (1, .ref (a 5))] := hl
  have hpos : 0 < 2 ^ cc := Nat.pow_pos (by decide)
  refine lv_aload_n hx hb dX2_findEarliestEnds_0 rfl (lv_at hl 0 rfl) ?_
  refine va_get (D := D) (ci := 2) (v := .ref (a 24)) (C := RX2) (T := TX2) (N := 16) hx hb hts (fun _ h9 => List.mem_cons_of_mem _ (List.mem_append_left _ (List.mem_append_right _ h9))) hown hK hP 0 rfl rfl 8 (by decide) (hts (.fieldLink RX2 36 "BuoyTender$Planner" "backs" "[I") (by decide +kernel)) (fun _ h9 => h9) rfl dX2_findEarliestEnds_1 ?_
  refine lv_iconst (v := 0) hx hb dX2_findEarliestEnds_4 (by decide) ?_
  refine lv_aload_n hx hb dX2_findEarliestEnds_5 rfl (lv_at hl 1 rfl) ?_
  refine va_getN (D := D) (ci := 4) (v := .int (iv 7)) (C := RX4) (T := TX4) (N := 10) hx hb hts (fun _ h9 => List.mem_cons_of_mem _ (List.mem_append_right _ h9)) hown hK hP 7 rfl rfl 4 (by decide) (va_Nw.use rfl (hN.1 (RX2, 136, "BuoyTender$Ship", "minute", "I", "BuoyTender") (by decide +kernel))) (fun _ h9 => h9) rfl dX2_findEarliestEnds_6 ?_
  refine va_iast hx hb hK hP hD hS 6 0 rfl rfl (vp_in_nI (n := 0) (N := 1024) (by decide) (by decide)) dX2_findEarliestEnds_9 (fun H locs hP hD hS => ?_)
  have hP : va_P D vwCl [(a 6, .inr (2, [.ref (a 16), .ref (a 17), .ref (a 18), .ref (a 19), .ref (a 20), .ref (a 21), .ref (a 22), .ref (a 23), .ref (a 24), .ref (a 25), .ref (a 26), .ref (a 27), .int (iv 20), .int (iv 21), .int (iv 22), .int (iv 23)])), (a 17, .inl (cI, 10, .inl (av 17))), (a 18, .inl (cI, 10, .inl (av 18))), (a 20, .inl (cI, 121, .inl (av 20))), (a 21, .inl (cI, 240, .inl (av 21))), (a 23, .inl (cI, 10240, .inl (av 23))), (a 24, .inl (cI, 1024, .inl (upd (av 24) (0 : Int32).toNatClampNeg (iv 7)))), (a 5, .inr (4, [.ref (a 13), .ref (a 14), .int (iv 5), .int (iv 6), .int (iv 7), .int (iv 8), .int (iv 9), .int (iv 10), .int (iv 11), .int (iv 12)]))] H := hP
  have hD : va_D A [(a 6, .inr (2, [.ref (a 16), .ref (a 17), .ref (a 18), .ref (a 19), .ref (a 20), .ref (a 21), .ref (a 22), .ref (a 23), .ref (a 24), .ref (a 25), .ref (a 26), .ref (a 27), .int (iv 20), .int (iv 21), .int (iv 22), .int (iv 23)])), (a 17, .inl (cI, 10, .inl (av 17))), (a 18, .inl (cI, 10, .inl (av 18))), (a 20, .inl (cI, 121, .inl (av 20))), (a 21, .inl (cI, 240, .inl (av 21))), (a 23, .inl (cI, 10240, .inl (av 23))), (a 24, .inl (cI, 1024, .inl (upd (av 24) (0 : Int32).toNatClampNeg (iv 7)))), (a 5, .inr (4, [.ref (a 13), .ref (a 14), .int (iv 5), .int (iv 6), .int (iv 7), .int (iv 8), .int (iv 9), .int (iv 10), .int (iv 11), .int (iv 12)]))] := hD
  refine lv_iconst (v := 1) hx hb dX2_findEarliestEnds_10 (by decide) ?_
  refine lv_istore_n (lv' := [(2, .int 1), (0, .ref (a 6)), (1, .ref (a 5))]) hx hb dX2_findEarliestEnds_11 rfl hl (by decide) rfl (fun ls hl => ?_)
  refine lp_X2_feeO hx hb hml hts hown hG hA h_c hcc ((2 ^ cc) + 1) 1 (av 23) (upd (av 24) (0 : Int32).toNatClampNeg (iv 7)) hpos (by omega) _ _ _ hP hD hS (lv_sub hl [0, 1, 2] rfl) (fun f23_2 f24_2 H locs ls  hP hD hS hl => ?_)
  have hP9 := hP.sub (ws' := [(a 6, .inr (2, [.ref (a 16), .ref (a 17), .ref (a 18), .ref (a 19), .ref (a 20), .ref (a 21), .ref (a 22), .ref (a 23), .ref (a 24), .ref (a 25), .ref (a 26), .ref (a 27), .int (iv 20), .int (iv 21), .int (iv 22), .int (iv 23)])), (a 17, .inl (cI, 10, .inl (av 17))), (a 18, .inl (cI, 10, .inl (av 18))), (a 20, .inl (cI, 121, .inl (av 20))), (a 21, .inl (cI, 240, .inl (av 21))), (a 23, .inl (cI, 10240, .inl f23_2)), (a 24, .inl (cI, 1024, .inl f24_2)), (a 5, .inr (4, [.ref (a 13), .ref (a 14), .int (iv 5), .int (iv 6), .int (iv 7), .int (iv 8), .int (iv 9), .int (iv 10), .int (iv 11), .int (iv 12)]))]) [0, 1, 2, 3, 4, 5, 6, 7] rfl
  have hD9 := hD.sub (ws' := [(a 6, .inr (2, [.ref (a 16), .ref (a 17), .ref (a 18), .ref (a 19), .ref (a 20), .ref (a 21), .ref (a 22), .ref (a 23), .ref (a 24), .ref (a 25), .ref (a 26), .ref (a 27), .int (iv 20), .int (iv 21), .int (iv 22), .int (iv 23)])), (a 17, .inl (cI, 10, .inl (av 17))), (a 18, .inl (cI, 10, .inl (av 18))), (a 20, .inl (cI, 121, .inl (av 20))), (a 21, .inl (cI, 240, .inl (av 21))), (a 23, .inl (cI, 10240, .inl f23_2)), (a 24, .inl (cI, 1024, .inl f24_2)), (a 5, .inr (4, [.ref (a 13), .ref (a 14), .int (iv 5), .int (iv 6), .int (iv 7), .int (iv 8), .int (iv 9), .int (iv 10), .int (iv 11), .int (iv 12)]))]) [0, 1, 2, 3, 4, 5, 6, 7] (by decide) rfl
  exact W.vret hx hb hr (fun t ht hW => ⟨⟨(f23_2, f24_2), rfl, trivial, ⟨by rw [ht]; exact hP9, hD9⟩⟩, hS.F ht⟩) hS.2.2 dX2_findEarliestEnds_156
