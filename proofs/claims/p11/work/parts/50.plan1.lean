theorem nI_and_le {S : Nat} (h : S < 2 ^ 31) (x : Int32) : ∃ k, k ≤ S ∧ nI S &&& x = nI k := by
  refine ⟨(nI S &&& x).toBitVec.toNat, ?_, ?_⟩
  · have h1 : (nI S &&& x).toBitVec.toNat = (nI S).toBitVec.toNat &&& x.toBitVec.toNat := by
      rw [Int32.toBitVec_and, BitVec.toNat_and]
    rw [h1]
    refine Nat.le_trans Nat.and_le_left ?_
    show (BitVec.ofNat 32 S).toNat ≤ S
    rw [BitVec.toNat_ofNat]
    exact Nat.mod_le _ _
  · apply Int32.toBitVec_inj.mp
    show (nI S &&& x).toBitVec = BitVec.ofNat 32 (nI S &&& x).toBitVec.toNat
    rw [BitVec.ofNat_toNat, BitVec.setWidth_eq]
theorem num_lt {x : Int32} {N : Nat} (hN : N < 2 ^ 31) (h1 : ¬ x < 0) (h2 : x < nI N) : ∃ t, t < N ∧ x = nI t := by
  obtain ⟨j, hj, rfl⟩ := nI_of h1
  exact ⟨j, (nI_ltI hj hN).mp h2, rfl⟩
theorem nI_min {t b : Nat} (ht : t < 2 ^ 31) (hb : b < 2 ^ 31) : (if nI b < nI t then nI b else nI t) = nI (min t b) := by
  by_cases h : b < t
  · rw [if_pos ((nI_ltI hb ht).mpr h), Nat.min_eq_right (Nat.le_of_lt h)]
  · rw [if_neg (fun q => h ((nI_ltI hb ht).mp q)), Nat.min_eq_left (Nat.le_of_not_lt h)]
set_option maxHeartbeats 4000000 in
set_option maxRecDepth 100000 in
/-- X4_mayBegin -/
theorem k_X4_mayBegin (l : Launch) (D : va_G) (cI cJ cZ cM : Nat) (a : Nat → Nat) (iv : Nat → Int32) (av : Nat → Nat → Int32) (x1 : Int32) (j : Nat) (hj : j < 24) : Met l yX4_mayBegin wsX4_mayBegin ({ frames := 0, cells := 0, slots := 0, locals := 0 } : Room) (RO D cI cJ cZ cM [.ref (a 5), .int x1, .int (nI j)] [(a 5, .inr (4, [.ref (a 13), .ref (a 14), .int (iv 5), .int (iv 6), .int (iv 7), .int (iv 8), .int (iv 9), .int (iv 10), .int (iv 11), .int (iv 12)])), (a 13, .inl (cI, 24, .inl (av 13))), (a 14, .inl (cI, 24, .inl (av 14)))]) (vp_Si (fun r => True)) 0 0 (fun _ => False) := by
  refine Met.ofW (cc := cX4_mayBegin) (maxL := 3) (ret := (some .boolean)) (by decide) rfl ?_
  intro p e s m args below meth c s₁ B hml hv
  obtain ⟨rfl, hG, hP⟩ := hv
  have hx := B.exec
  have hb := B.bytes
  have hr := B.returns
  have hts := atoms_spec (ws := wsX4_mayBegin) B.pre
  have hown : s.vm.findClass RX4 = some m.cls := findClass_of_methodNamed B.named
  have hlocks := B.notSynchronized
  have hK := hG.1
  have hN := hG.2
  have hl := lv_entry ([.ref (a 5), .int x1, .int (nI j)]) (n := 3) (Nat.le_of_ble_eq_true rfl)
  rw [lg_entry_eq]
  generalize (lg_sl ([.ref (a 5), .int x1, .int (nI j)]) ++ List.replicate (3 - (lg_sl ([.ref (a 5), .int x1, .int (nI j)])).length) Slot.unset).toArray = ls at hl ⊢
  have hl : lv_has ls 3 [(0, .ref (a 5)), (1, .int x1), (2, .int (nI j))] := hl
  refine lv_iload_n hx hb dX4_mayBegin_0 rfl (lv_at hl 1 rfl) ?_
  refine lv_aload_n hx hb dX4_mayBegin_1 rfl (lv_at hl 0 rfl) ?_
  refine va_get (D := D) (ci := 4) (v := .ref (a 13)) (C := RX4) (T := TX4) (N := 10) hx hb hts (fun _ h9 => List.mem_cons_of_mem _ (List.mem_append_right _ h9)) hown hK hP 0 rfl rfl 0 (by decide) (hts (.fieldLink RX4 9 "BuoyTender$Ship" "tides" "[I") (by decide +kernel)) (fun _ h9 => h9) rfl dX4_mayBegin_2 ?_
  refine lv_iload_n hx hb dX4_mayBegin_5 rfl (lv_at hl 2 rfl) ?_
  refine va_iald hx hb hK hP 1 0 rfl rfl (vp_in_nI (by omega) (by decide)) dX4_mayBegin_6 ?_
  refine lv_topi (fun z_1 ez_1 => ?_)
  obtain rfl : z_1 = (av 13) j := ez_1.trans (congrArg (av 13) (nI_clamp (by omega)))
  refine lv_iadd hx hb dX4_mayBegin_7 ?_
  refine lv_aload_n hx hb dX4_mayBegin_8 rfl (lv_at hl 0 rfl) ?_
  refine va_get (D := D) (ci := 4) (v := .int (iv 10)) (C := RX4) (T := TX4) (N := 10) hx hb hts (fun _ h9 => List.mem_cons_of_mem _ (List.mem_append_right _ h9)) hown hK hP 0 rfl rfl 7 (by decide) (hts (.fieldLink RX4 28 "BuoyTender$Ship" "draught" "I") (by decide +kernel)) (fun _ h9 => h9) rfl dX4_mayBegin_9 ?_
  refine lv_icmp_lt (tgt := 32) hx hb dX4_mayBegin_12 (by decide) (fun c_2 => ?_) (fun c_2 => ?_)
  · refine lv_iconst (v := 0) hx hb dX4_mayBegin_32 (by decide) ?_
    exact W.zret (v := 0) hx hb hr rfl (fun t ht hW => ⟨0, rfl, trivial, ht⟩) (fun _ h => by cases h) dX4_mayBegin_33
  refine lv_aload_n hx hb dX4_mayBegin_15 rfl (lv_at hl 0 rfl) ?_
  refine va_get (D := D) (ci := 4) (v := .ref (a 14)) (C := RX4) (T := TX4) (N := 10) hx hb hts (fun _ h9 => List.mem_cons_of_mem _ (List.mem_append_right _ h9)) hown hK hP 0 rfl rfl 1 (by decide) (hts (.fieldLink RX4 15 "BuoyTender$Ship" "winds" "[I") (by decide +kernel)) (fun _ h9 => h9) rfl dX4_mayBegin_16 ?_
  refine lv_iload_n hx hb dX4_mayBegin_19 rfl (lv_at hl 2 rfl) ?_
  refine va_iald hx hb hK hP 2 0 rfl rfl (vp_in_nI (by omega) (by decide)) dX4_mayBegin_20 ?_
  refine lv_topi (fun z_3 ez_3 => ?_)
  obtain rfl : z_3 = (av 14) j := ez_3.trans (congrArg (av 14) (nI_clamp (by omega)))
  refine lv_aload_n hx hb dX4_mayBegin_21 rfl (lv_at hl 0 rfl) ?_
  refine va_get (D := D) (ci := 4) (v := .int (iv 11)) (C := RX4) (T := TX4) (N := 10) hx hb hts (fun _ h9 => List.mem_cons_of_mem _ (List.mem_append_right _ h9)) hown hK hP 0 rfl rfl 8 (by decide) (hts (.fieldLink RX4 25 "BuoyTender$Ship" "mostWind" "I") (by decide +kernel)) (fun _ h9 => h9) rfl dX4_mayBegin_22 ?_
  refine lv_icmp_gt (tgt := 32) hx hb dX4_mayBegin_25 (by decide) (fun c_4 => ?_) (fun c_4 => ?_)
  · refine lv_iconst (v := 0) hx hb dX4_mayBegin_32 (by decide) ?_
    exact W.zret (v := 0) hx hb hr rfl (fun t ht hW => ⟨0, rfl, trivial, ht⟩) (fun _ h => by cases h) dX4_mayBegin_33
  refine lv_iconst (v := 1) hx hb dX4_mayBegin_28 (by decide) ?_
  refine lv_goto (tgt := 33) hx hb dX4_mayBegin_29 (by decide) ?_
  exact W.zret (v := 1) hx hb hr rfl (fun t ht hW => ⟨1, rfl, trivial, ht⟩) (fun _ h => by cases h) dX4_mayBegin_33
set_option maxHeartbeats 4000000 in
set_option maxRecDepth 100000 in
/-- in a set, or not -/
theorem k_X2_isIn (l : Launch) (x1 : Int32) (x2 : Int32) : Met l yX2_isIn wsX2_isIn ({ frames := 0, cells := 0, slots := 0, locals := 0 } : Room) (fun av9 _ => av9 = ([.int x1, .int x2] : List Value).toArray) (vp_Si (fun r => True)) 0 0 (fun _ => False) := by
  refine Met.ofW (cc := cX2_isIn) (maxL := 2) (ret := (some .boolean)) (by decide) rfl ?_
  intro p e s m args below meth c s₁ B hml hv
  obtain rfl := hv
  have hx := B.exec
  have hb := B.bytes
  have hr := B.returns
  have hts := atoms_spec (ws := wsX2_isIn) B.pre
  have hown : s.vm.findClass RX2 = some m.cls := findClass_of_methodNamed B.named
  have hlocks := B.notSynchronized
  have hl := lv_entry ([.int x1, .int x2]) (n := 2) (Nat.le_of_ble_eq_true rfl)
  rw [lg_entry_eq]
  generalize (lg_sl ([.int x1, .int x2]) ++ List.replicate (2 - (lg_sl ([.int x1, .int x2])).length) Slot.unset).toArray = ls at hl ⊢
  have hl : lv_has ls 2 [(0, .int x1), (1, .int x2)] := hl
  refine lv_iload_n hx hb dX2_isIn_0 rfl (lv_at hl 1 rfl) ?_
  refine lv_iload_n hx hb dX2_isIn_1 rfl (lv_at hl 0 rfl) ?_
  refine lv_ishr hx hb dX2_isIn_2 ?_
  refine lv_iconst (v := 1) hx hb dX2_isIn_3 (by decide) ?_
  refine lv_iand hx hb dX2_isIn_4 ?_
  refine lv_iconst (v := 1) hx hb dX2_isIn_5 (by decide) ?_
  refine lv_icmp_ne (tgt := 13) hx hb dX2_isIn_6 (by decide) (fun c_1 => ?_) (fun c_1 => ?_)
  · refine lv_iconst (v := 0) hx hb dX2_isIn_13 (by decide) ?_
    exact W.zret (v := 0) hx hb hr rfl (fun t ht hW => ⟨0, rfl, trivial, ht⟩) (fun _ h => by cases h) dX2_isIn_14
  refine lv_iconst (v := 1) hx hb dX2_isIn_9 (by decide) ?_
  refine lv_goto (tgt := 14) hx hb dX2_isIn_10 (by decide) ?_
  exact W.zret (v := 1) hx hb hr rfl (fun t ht hW => ⟨1, rfl, trivial, ht⟩) (fun _ h => by cases h) dX2_isIn_14
set_option maxHeartbeats 4000000 in
set_option maxRecDepth 100000 in
/-- a set without a job -/
theorem k_X2_without (l : Launch) (x1 : Int32) (S : Nat) (hSS : S < 2 ^ 31) : Met l yX2_without wsX2_without ({ frames := 0, cells := 0, slots := 0, locals := 0 } : Room) (fun av9 _ => av9 = ([.int x1, .int (nI S)] : List Value).toArray) (vp_Si (fun r => ∃ k, k ≤ S ∧ r = nI k)) 0 0 (fun _ => False) := by
  refine Met.ofW (cc := cX2_without) (maxL := 2) (ret := (some .int)) (by decide) rfl ?_
  intro p e s m args below meth c s₁ B hml hv
  obtain rfl := hv
  have hx := B.exec
  have hb := B.bytes
  have hr := B.returns
  have hts := atoms_spec (ws := wsX2_without) B.pre
  have hown : s.vm.findClass RX2 = some m.cls := findClass_of_methodNamed B.named
  have hlocks := B.notSynchronized
  have hl := lv_entry ([.int x1, .int (nI S)]) (n := 2) (Nat.le_of_ble_eq_true rfl)
  rw [lg_entry_eq]
  generalize (lg_sl ([.int x1, .int (nI S)]) ++ List.replicate (2 - (lg_sl ([.int x1, .int (nI S)])).length) Slot.unset).toArray = ls at hl ⊢
  have hl : lv_has ls 2 [(0, .int x1), (1, .int (nI S))] := hl
  refine lv_iload_n hx hb dX2_without_0 rfl (lv_at hl 1 rfl) ?_
  refine lv_iconst (v := 1) hx hb dX2_without_1 (by decide) ?_
  refine lv_iload_n hx hb dX2_without_2 rfl (lv_at hl 0 rfl) ?_
  refine lv_ishl hx hb dX2_without_3 ?_
  refine lv_iconst (v := (-1)) hx hb dX2_without_4 (by decide) ?_
  refine lv_ixor hx hb dX2_without_5 ?_
  refine lv_iand hx hb dX2_without_6 ?_
  exact W.iret (v := ((nI S) &&& ((1 <<< (x1 &&& 31)) ^^^ (-1)))) hx hb hr (fun t ht hW => ⟨((nI S) &&& ((1 <<< (x1 &&& 31)) ^^^ (-1))), rfl, (nI_and_le hSS _), ht⟩) (fun _ h => by cases h) dX2_without_7
set_option maxHeartbeats 4000000 in
set_option maxRecDepth 100000 in
/-- X2_sumOver: the loop at 5 -/
theorem lp_X2_sumOver {p : Program} {l : Launch} {e : Env} {s : State} {m : MethodId} {args : Array Value} {below : List Frame} {meth : Method} {c : Code} {Q : State → Prop} {D : va_G} {cI cJ cZ cM : Nat} {a : Nat → Nat} {iv : Nat → Int32} {q0 : Nat} {f : Nat → Int32} {cc : Nat} {x1 : Int32} {H : Heap} (hx : p.tables.exec = Jvm.exec) (hb : c.code = cX2_sumOver) (hml : c.maxLocals = 5) (hts : ∀ w ∈ wsX2_sumOver, w.before args s = true) (hown : s.vm.findClass RX2 = some m.cls) (hG : GK D cI cJ cZ cM s) (hP : va_P D vwCl [(a 6, .inr (2, [.ref (a 16), .ref (a 17), .ref (a 18), .ref (a 19), .ref (a 20), .ref (a 21), .ref (a 22), .ref (a 23), .ref (a 24), .ref (a 25), .ref (a 26), .ref (a 27), .int (iv 20), .int (iv 21), .int (iv 22), .int (iv 23)])), (q0, .inl (cI, 10, .inl f))] H) (h_c : iv 20 = nI cc) (hcc : cc ≤ 10) :
    ∀ (k9 : Nat) (k_ : Nat) (z : Int32), (k_ ≤ cc) → cc - k_ < k9 → ∀ (ls : Array Slot), lv_has ls 5 [(4, .int (nI k_)), (3, .int z), (0, .ref (a 6)), (1, .int x1), (2, .ref q0)] → (∀ (z : Int32) (ls : Array Slot), lv_has ls 5 [(3, .int z), (0, .ref (a 6)), (1, .int x1), (2, .ref q0)] → W p l e (headSpec wsX2_sumOver ({ frames := 1, cells := 0, slots := 0, locals := 21 } : Room)).room s m args below meth c H [] 0 0 Q (F0 m 47 ls [])) → W p l e (headSpec wsX2_sumOver ({ frames := 1, cells := 0, slots := 0, locals := 21 } : Room)).room s m args below meth c H [] 0 0 Q (F0 m 5 ls []) := by
  have hK := hG.1
  have hN := hG.2
  intro k9
  induction k9 with
  | zero => intro k_ z hk hfu; exact absurd hfu (Nat.not_lt_zero _)
  | succ k9 ih =>
    intro k_ z hk hfu ls hl kk0
    rcases Nat.lt_or_ge k_ cc with hlt | hge
    · refine lv_iload hx hb dX2_sumOver_5 (lv_at hl 0 rfl) ?_
      refine lv_aload_n hx hb dX2_sumOver_7 rfl (lv_at hl 2 rfl) ?_
      refine va_get (D := D) (ci := 2) (v := .int (iv 20)) (C := RX2) (T := TX2) (N := 16) hx hb hts (fun _ h9 => List.mem_cons_of_mem _ (List.mem_append_right _ h9)) hown hK hP 0 rfl rfl 12 (by decide) (hts (.fieldLink RX2 76 "BuoyTender$Planner" "count" "I") (by decide +kernel)) (fun _ h9 => h9) rfl dX2_sumOver_8 ?_
      refine lv_topi (fun z_1 ez_1 => ?_)
      obtain rfl : z_1 = nI cc := ez_1.trans h_c
      refine lv_icmp_ge (tgt := 47) hx hb dX2_sumOver_11 (by decide) (fun c_2 => absurd c_2 (nI_ge hlt (by omega))) (fun c_2 => ?_)
      refine lv_iload hx hb dX2_sumOver_14 (lv_at hl 0 rfl) ?_
      refine lv_aload_n hx hb dX2_sumOver_16 rfl (lv_at hl 4 rfl) ?_
      refine va_alen (v := 10) hx hb hK hP 1 0 rfl rfl rfl dX2_sumOver_17 ?_
      refine lv_icmp_ge (tgt := 47) hx hb dX2_sumOver_18 (by decide) (fun c_3 => ?_) (fun c_3 => ?_)
      · exact kk0 z _  (lv_sub hl [1, 2, 3, 4] rfl)
      refine lv_iload_n hx hb dX2_sumOver_21 rfl (lv_at hl 1 rfl) ?_
      refine lv_iload hx hb dX2_sumOver_22 (lv_at hl 0 rfl) ?_
      refine lv_iload_n hx hb dX2_sumOver_24 rfl (lv_at hl 3 rfl) ?_
      refine vp_callSi (va_Run.run (va_runS (As := [.int (nI k_), .int x1]) (rest := [.int z]) ⟨hx, hb, hml, hown, hts⟩ (k_X2_isIn l (nI k_) x1) (va_cwS 2 hts gX2_sumOver_X2_isIn rfl rfl rfl (by decide +kernel) ⟨Nat.le_of_ble_eq_true rfl, Nat.le_of_ble_eq_true rfl⟩) preEq rfl rfl hl.1 rfl (lv_room (Nat.le_of_ble_eq_true rfl)) dX2_sumOver_25 ⟨Nat.le_of_ble_eq_true rfl, Nat.le_of_ble_eq_true rfl⟩)) (fun r_4 h_4 => ?_)
      refine lv_if_eq (tgt := 38) hx hb dX2_sumOver_28 (by decide) (fun c_5 => ?_) (fun c_5 => ?_)
      · refine lv_iconst (v := 0) hx hb dX2_sumOver_38 (by decide) ?_
        refine lv_iadd hx hb dX2_sumOver_39 ?_
        refine lv_istore_n (lv' := [(3, .int (z + 0)), (4, .int (nI k_)), (0, .ref (a 6)), (1, .int x1), (2, .ref q0)]) hx hb dX2_sumOver_40 rfl hl (by decide) rfl (fun ls hl => ?_)
        refine lv_iinc (v := nI (k_ + 1)) (lv' := [(4, .int (nI (k_ + 1))), (3, .int (z + 0)), (0, .ref (a 6)), (1, .int x1), (2, .ref q0)]) hx hb dX2_sumOver_41 hl (k := 1) rfl (nI_add k_ 1) (by decide) rfl (fun ls hl => ?_)
        refine lv_goto (tgt := 5) hx hb dX2_sumOver_44 (by decide) ?_
        exact ih (k_ + 1) (z + 0) (by omega) (by omega) _ (lv_sub hl [0, 1, 2, 3, 4] rfl) kk0
      refine lv_aload_n hx hb dX2_sumOver_31 rfl (lv_at hl 4 rfl) ?_
      refine lv_iload hx hb dX2_sumOver_32 (lv_at hl 0 rfl) ?_
      refine va_iald hx hb hK hP 1 0 rfl rfl (vp_in_nI (by omega) (by decide)) dX2_sumOver_34 ?_
      refine lv_topi (fun z_6 ez_6 => ?_)
      obtain rfl : z_6 = f k_ := ez_6.trans (congrArg f (nI_clamp (by omega)))
      refine lv_goto (tgt := 39) hx hb dX2_sumOver_35 (by decide) ?_
      refine lv_iadd hx hb dX2_sumOver_39 ?_
      refine lv_istore_n (lv' := [(3, .int (z + (f k_))), (4, .int (nI k_)), (0, .ref (a 6)), (1, .int x1), (2, .ref q0)]) hx hb dX2_sumOver_40 rfl hl (by decide) rfl (fun ls hl => ?_)
      refine lv_iinc (v := nI (k_ + 1)) (lv' := [(4, .int (nI (k_ + 1))), (3, .int (z + (f k_))), (0, .ref (a 6)), (1, .int x1), (2, .ref q0)]) hx hb dX2_sumOver_41 hl (k := 1) rfl (nI_add k_ 1) (by decide) rfl (fun ls hl => ?_)
      refine lv_goto (tgt := 5) hx hb dX2_sumOver_44 (by decide) ?_
      exact ih (k_ + 1) (z + (f k_)) (by omega) (by omega) _ (lv_sub hl [0, 1, 2, 3, 4] rfl) kk0
    · refine lv_iload hx hb dX2_sumOver_5 (lv_at hl 0 rfl) ?_
      refine lv_aload_n hx hb dX2_sumOver_7 rfl (lv_at hl 2 rfl) ?_
      refine va_get (D := D) (ci := 2) (v := .int (iv 20)) (C := RX2) (T := TX2) (N := 16) hx hb hts (fun _ h9 => List.mem_cons_of_mem _ (List.mem_append_right _ h9)) hown hK hP 0 rfl rfl 12 (by decide) (hts (.fieldLink RX2 76 "BuoyTender$Planner" "count" "I") (by decide +kernel)) (fun _ h9 => h9) rfl dX2_sumOver_8 ?_
      refine lv_topi (fun z_7 ez_7 => ?_)
      obtain rfl : z_7 = nI cc := ez_7.trans h_c
      refine lv_icmp_ge (tgt := 47) hx hb dX2_sumOver_11 (by decide) (fun c_8 => ?_) (fun c_8 => absurd (nI_le hge (by omega)) c_8)
      exact kk0 z _  (lv_sub hl [1, 2, 3, 4] rfl)
set_option maxHeartbeats 4000000 in
set_option maxRecDepth 100000 in
/-- a sum over a set -/
theorem k_X2_sumOver (l : Launch) (D : va_G) (cI cJ cZ cM : Nat) (a : Nat → Nat) (iv : Nat → Int32) (q0 : Nat) (f : Nat → Int32) (cc : Nat) (h_c : iv 20 = nI cc) (hcc : cc ≤ 10) (x1 : Int32) : Met l yX2_sumOver wsX2_sumOver ({ frames := 1, cells := 0, slots := 0, locals := 21 } : Room) (RO D cI cJ cZ cM [.ref (a 6), .int x1, .ref q0] [(a 6, .inr (2, [.ref (a 16), .ref (a 17), .ref (a 18), .ref (a 19), .ref (a 20), .ref (a 21), .ref (a 22), .ref (a 23), .ref (a 24), .ref (a 25), .ref (a 26), .ref (a 27), .int (iv 20), .int (iv 21), .int (iv 22), .int (iv 23)])), (q0, .inl (cI, 10, .inl f))]) (vp_Si (fun r => True)) 0 0 (fun _ => False) := by
  refine Met.ofW (cc := cX2_sumOver) (maxL := 5) (ret := (some .int)) (by decide) rfl ?_
  intro p e s m args below meth c s₁ B hml hv
  obtain ⟨rfl, hG, hP⟩ := hv
  have hx := B.exec
  have hb := B.bytes
  have hr := B.returns
  have hts := atoms_spec (ws := wsX2_sumOver) B.pre
  have hown : s.vm.findClass RX2 = some m.cls := findClass_of_methodNamed B.named
  have hlocks := B.notSynchronized
  have hK := hG.1
  have hN := hG.2
  have hl := lv_entry ([.ref (a 6), .int x1, .ref q0]) (n := 5) (Nat.le_of_ble_eq_true rfl)
  rw [lg_entry_eq]
  generalize (lg_sl ([.ref (a 6), .int x1, .ref q0]) ++ List.replicate (5 - (lg_sl ([.ref (a 6), .int x1, .ref q0])).length) Slot.unset).toArray = ls at hl ⊢
  have hl : lv_has ls 5 [(0, .ref (a 6)), (1, .int x1), (2, .ref q0)] := hl
  refine lv_iconst (v := 0) hx hb dX2_sumOver_0 (by decide) ?_
  refine lv_istore_n (lv' := [(3, .int 0), (0, .ref (a 6)), (1, .int x1), (2, .ref q0)]) hx hb dX2_sumOver_1 rfl hl (by decide) rfl (fun ls hl => ?_)
  refine lv_iconst (v := 0) hx hb dX2_sumOver_2 (by decide) ?_
  refine lv_istore (lv' := [(4, .int 0), (3, .int 0), (0, .ref (a 6)), (1, .int x1), (2, .ref q0)]) hx hb dX2_sumOver_3 hl (by decide) rfl (fun ls hl => ?_)
  have hPl := hP.sub (ws' := [(a 6, .inr (2, [.ref (a 16), .ref (a 17), .ref (a 18), .ref (a 19), .ref (a 20), .ref (a 21), .ref (a 22), .ref (a 23), .ref (a 24), .ref (a 25), .ref (a 26), .ref (a 27), .int (iv 20), .int (iv 21), .int (iv 22), .int (iv 23)])), (q0, .inl (cI, 10, .inl f))]) [0, 1] rfl
  refine lp_X2_sumOver hx hb hml hts hown hG hPl h_c hcc (cc + 1) 0 0 (Nat.zero_le _) (by omega) _ (lv_sub hl [0, 1, 2, 3, 4] rfl) (fun z_1 ls  hl => ?_)
  refine lv_iload_n hx hb dX2_sumOver_47 rfl (lv_at hl 0 rfl) ?_
  exact W.iret (v := z_1) hx hb hr (fun t ht hW => ⟨z_1, rfl, trivial, ht⟩) (fun _ h => by cases h) dX2_sumOver_48
set_option maxHeartbeats 4000000 in
set_option maxRecDepth 100000 in
/-- X2_beginFrom -/
theorem k_X2_beginFrom (l : Launch) (D : va_G) (cI cJ cZ cM : Nat) (a : Nat → Nat) (iv : Nat → Int32) (av : Nat → Nat → Int32) (j : Nat) (hj : j < 10) (x1 : Int32) : Met l yX2_beginFrom wsX2_beginFrom ({ frames := 0, cells := 0, slots := 0, locals := 0 } : Room) (RO D cI cJ cZ cM [.ref (a 6), .int (nI j), .int x1] [(a 6, .inr (2, [.ref (a 16), .ref (a 17), .ref (a 18), .ref (a 19), .ref (a 20), .ref (a 21), .ref (a 22), .ref (a 23), .ref (a 24), .ref (a 25), .ref (a 26), .ref (a 27), .int (iv 20), .int (iv 21), .int (iv 22), .int (iv 23)])), (a 21, .inl (cI, 240, .inl (av 21)))]) (vp_Si (fun r => True)) 0 0 (fun _ => False) := by
  refine Met.ofW (cc := cX2_beginFrom) (maxL := 5) (ret := (some .int)) (by decide) rfl ?_
  intro p e s m args below meth c s₁ B hml hv
  obtain ⟨rfl, hG, hP⟩ := hv
  have hx := B.exec
  have hb := B.bytes
  have hr := B.returns
  have hts := atoms_spec (ws := wsX2_beginFrom) B.pre
  have hown : s.vm.findClass RX2 = some m.cls := findClass_of_methodNamed B.named
  have hlocks := B.notSynchronized
  have hK := hG.1
  have hN := hG.2
  have hl := lv_entry ([.ref (a 6), .int (nI j), .int x1]) (n := 5) (Nat.le_of_ble_eq_true rfl)
  rw [lg_entry_eq]
  generalize (lg_sl ([.ref (a 6), .int (nI j), .int x1]) ++ List.replicate (5 - (lg_sl ([.ref (a 6), .int (nI j), .int x1])).length) Slot.unset).toArray = ls at hl ⊢
  have hl : lv_has ls 5 [(0, .ref (a 6)), (1, .int (nI j)), (2, .int x1)] := hl
  refine lv_iload_n hx hb dX2_beginFrom_0 rfl (lv_at hl 2 rfl) ?_
  refine lv_if_lt (tgt := 11) hx hb dX2_beginFrom_1 (by decide) (fun c_1 => ?_) (fun c_1 => ?_)
  · refine lv_ldc (v := 1000000) hx hb hown (hts (.constant RX2 131 1000000) (by decide +kernel)) dX2_beginFrom_11 ?_
    exact W.iret (v := 1000000) hx hb hr (fun t ht hW => ⟨1000000, rfl, trivial, ht⟩) (fun _ h => by cases h) dX2_beginFrom_13
  refine lv_iload_n hx hb dX2_beginFrom_4 rfl (lv_at hl 2 rfl) ?_
  refine lv_sipush (v := 1440) hx hb dX2_beginFrom_5 (by decide) ?_
  refine lv_icmp_lt (tgt := 14) hx hb dX2_beginFrom_8 (by decide) (fun c_2 => ?_) (fun c_2 => ?_)
  · obtain ⟨t9, ht9, rfl⟩ := num_lt (N := 1440) (by decide) c_1 c_2
    have hl : lv_has ls 5 [(0, .ref (a 6)), (1, .int (nI j)), (2, .int (nI t9))] := hl
    refine lv_iload_n hx hb dX2_beginFrom_14 rfl (lv_at hl 2 rfl) ?_
    refine lv_bipush (v := 60) hx hb dX2_beginFrom_15 (by decide) ?_
    refine lv_idiv hx hb dX2_beginFrom_17 (by decide) ?_
    refine lv_topi (fun z_3 ez_3 => ?_)
    obtain rfl : z_3 = nI (t9 / 60) := ez_3.trans (pk_div (by omega) (by decide) (by decide))
    refine lv_istore_n (lv' := [(3, .int (nI (t9 / 60))), (0, .ref (a 6)), (1, .int (nI j)), (2, .int (nI t9))]) hx hb dX2_beginFrom_18 rfl hl (by decide) rfl (fun ls hl => ?_)
    refine lv_aload_n hx hb dX2_beginFrom_19 rfl (lv_at hl 1 rfl) ?_
    refine va_get (D := D) (ci := 2) (v := .ref (a 21)) (C := RX2) (T := TX2) (N := 16) hx hb hts (fun _ h9 => List.mem_cons_of_mem _ (List.mem_append_right _ h9)) hown hK hP 0 rfl rfl 5 (by decide) (hts (.fieldLink RX2 27 "BuoyTender$Planner" "opensIn" "[I") (by decide +kernel)) (fun _ h9 => h9) rfl dX2_beginFrom_20 ?_
    refine lv_iload_n hx hb dX2_beginFrom_23 rfl (lv_at hl 2 rfl) ?_
    refine lv_bipush (v := 24) hx hb dX2_beginFrom_24 (by decide) ?_
    refine lv_imul hx hb dX2_beginFrom_26 ?_
    refine lv_topi (fun z_4 ez_4 => ?_)
    obtain rfl : z_4 = nI (j * 24) := ez_4.trans (pk_mul j 24)
    refine lv_iload_n hx hb dX2_beginFrom_27 rfl (lv_at hl 0 rfl) ?_
    refine lv_iadd hx hb dX2_beginFrom_28 ?_
    refine lv_topi (fun z_5 ez_5 => ?_)
    obtain rfl : z_5 = nI ((j * 24) + (t9 / 60)) := ez_5.trans (nI_add (j * 24) (t9 / 60))
    refine va_iald hx hb hK hP 1 0 rfl rfl (vp_in_nI (by omega) (by decide)) dX2_beginFrom_29 ?_
    refine lv_topi (fun z_6 ez_6 => ?_)
    obtain rfl : z_6 = (av 21) ((j * 24) + (t9 / 60)) := ez_6.trans (congrArg (av 21) (nI_clamp (by omega)))
    refine lv_istore (lv' := [(4, .int ((av 21) ((j * 24) + (t9 / 60)))), (3, .int (nI (t9 / 60))), (0, .ref (a 6)), (1, .int (nI j)), (2, .int (nI t9))]) hx hb dX2_beginFrom_30 hl (by decide) rfl (fun ls hl => ?_)
    refine lv_iload hx hb dX2_beginFrom_32 (lv_at hl 0 rfl) ?_
    refine lv_iconst (v := (-1)) hx hb dX2_beginFrom_34 (by decide) ?_
    refine lv_icmp_ne (tgt := 41) hx hb dX2_beginFrom_35 (by decide) (fun c_7 => ?_) (fun c_7 => ?_)
    · refine lv_iload hx hb dX2_beginFrom_41 (lv_at hl 0 rfl) ?_
      refine lv_iload_n hx hb dX2_beginFrom_43 rfl (lv_at hl 1 rfl) ?_
      refine lv_icmp_ne (tgt := 51) hx hb dX2_beginFrom_44 (by decide) (fun c_8 => ?_) (fun c_8 => ?_)
      · refine lv_iload hx hb dX2_beginFrom_51 (lv_at hl 0 rfl) ?_
        refine lv_bipush (v := 60) hx hb dX2_beginFrom_53 (by decide) ?_
        refine lv_imul hx hb dX2_beginFrom_55 ?_
        exact W.iret (v := (((av 21) ((j * 24) + (t9 / 60))) * 60)) hx hb hr (fun t ht hW => ⟨(((av 21) ((j * 24) + (t9 / 60))) * 60), rfl, trivial, ht⟩) (fun _ h => by cases h) dX2_beginFrom_56
      refine lv_iload_n hx hb dX2_beginFrom_47 rfl (lv_at hl 4 rfl) ?_
      refine lv_goto (tgt := 56) hx hb dX2_beginFrom_48 (by decide) ?_
      exact W.iret (v := (nI t9)) hx hb hr (fun t ht hW => ⟨(nI t9), rfl, trivial, ht⟩) (fun _ h => by cases h) dX2_beginFrom_56
    refine lv_ldc (v := 1000000) hx hb hown (hts (.constant RX2 131 1000000) (by decide +kernel)) dX2_beginFrom_38 ?_
    exact W.iret (v := 1000000) hx hb hr (fun t ht hW => ⟨1000000, rfl, trivial, ht⟩) (fun _ h => by cases h) dX2_beginFrom_40
  refine lv_ldc (v := 1000000) hx hb hown (hts (.constant RX2 131 1000000) (by decide +kernel)) dX2_beginFrom_11 ?_
  exact W.iret (v := 1000000) hx hb hr (fun t ht hW => ⟨1000000, rfl, trivial, ht⟩) (fun _ h => by cases h) dX2_beginFrom_13
set_option maxHeartbeats 4000000 in
set_option maxRecDepth 100000 in
/-- X2_beginUpTo -/
theorem k_X2_beginUpTo (l : Launch) (D : va_G) (cI cJ cZ cM : Nat) (a : Nat → Nat) (iv : Nat → Int32) (av : Nat → Nat → Int32) (j : Nat) (hj : j < 10) (x1 : Int32) : Met l yX2_beginUpTo wsX2_beginUpTo ({ frames := 1, cells := 0, slots := 0, locals := 40 } : Room) (RO D cI cJ cZ cM [.ref (a 6), .int (nI j), .int x1] [(a 6, .inr (2, [.ref (a 16), .ref (a 17), .ref (a 18), .ref (a 19), .ref (a 20), .ref (a 21), .ref (a 22), .ref (a 23), .ref (a 24), .ref (a 25), .ref (a 26), .ref (a 27), .int (iv 20), .int (iv 21), .int (iv 22), .int (iv 23)])), (a 22, .inl (cI, 240, .inl (av 22)))]) (vp_Si (fun r => True)) 0 0 (fun _ => False) := by
  refine Met.ofW (cc := cX2_beginUpTo) (maxL := 6) (ret := (some .int)) (by decide) rfl ?_
  intro p e s m args below meth c s₁ B hml hv
  obtain ⟨rfl, hG, hP⟩ := hv
  have hx := B.exec
  have hb := B.bytes
  have hr := B.returns
  have hts := atoms_spec (ws := wsX2_beginUpTo) B.pre
  have hown : s.vm.findClass RX2 = some m.cls := findClass_of_methodNamed B.named
  have hlocks := B.notSynchronized
  have hK := hG.1
  have hN := hG.2
  have hl := lv_entry ([.ref (a 6), .int (nI j), .int x1]) (n := 6) (Nat.le_of_ble_eq_true rfl)
  rw [lg_entry_eq]
  generalize (lg_sl ([.ref (a 6), .int (nI j), .int x1]) ++ List.replicate (6 - (lg_sl ([.ref (a 6), .int (nI j), .int x1])).length) Slot.unset).toArray = ls at hl ⊢
  have hl : lv_has ls 6 [(0, .ref (a 6)), (1, .int (nI j)), (2, .int x1)] := hl
  refine lv_iload_n hx hb dX2_beginUpTo_0 rfl (lv_at hl 2 rfl) ?_
  refine lv_if_ge (tgt := 7) hx hb dX2_beginUpTo_1 (by decide) (fun c_1 => ?_) (fun c_1 => ?_)
  · obtain ⟨t9, ht9, rfl⟩ := nI_of (Int32.not_lt.mpr c_1)
    have hl : lv_has ls 6 [(0, .ref (a 6)), (1, .int (nI j)), (2, .int (nI t9))] := hl
    refine lv_iload_n hx hb dX2_beginUpTo_7 rfl (lv_at hl 2 rfl) ?_
    refine lv_sipush (v := 1439) hx hb dX2_beginUpTo_8 (by decide) ?_
    refine va_mmin hx hb (hml.trans hl.1.symm) hown (hts (.methodLink RX2 133 Lib.Math.min.name) (by decide +kernel)) (hts (.static Lib.Math.min.name) (by decide +kernel)) (hts (.initialized "java/lang/Math") (by decide +kernel)) (hts (.code Lib.Math.min.name Lib.Math.min.code 2 (some .int)) (by decide +kernel)) (Nat.le_of_ble_eq_true rfl) (Nat.le_of_ble_eq_true rfl) (Nat.le_of_ble_eq_true rfl) (Nat.le_of_ble_eq_true rfl) dX2_beginUpTo_11 ?_
    refine lv_topi (fun z_2 ez_2 => ?_)
    obtain rfl : z_2 = nI (min t9 1439) := ez_2.trans (nI_min ht9 (by decide))
    refine lv_istore_n (lv' := [(3, .int (nI (min t9 1439))), (0, .ref (a 6)), (1, .int (nI j)), (2, .int (nI t9))]) hx hb dX2_beginUpTo_14 rfl hl (by decide) rfl (fun ls hl => ?_)
    refine lv_iload_n hx hb dX2_beginUpTo_15 rfl (lv_at hl 0 rfl) ?_
    refine lv_bipush (v := 60) hx hb dX2_beginUpTo_16 (by decide) ?_
    refine lv_idiv hx hb dX2_beginUpTo_18 (by decide) ?_
    refine lv_topi (fun z_3 ez_3 => ?_)
    obtain rfl : z_3 = nI ((min t9 1439) / 60) := ez_3.trans (pk_div (by omega) (by decide) (by decide))
    refine lv_istore (lv' := [(4, .int (nI ((min t9 1439) / 60))), (3, .int (nI (min t9 1439))), (0, .ref (a 6)), (1, .int (nI j)), (2, .int (nI t9))]) hx hb dX2_beginUpTo_19 hl (by decide) rfl (fun ls hl => ?_)
    refine lv_aload_n hx hb dX2_beginUpTo_21 rfl (lv_at hl 2 rfl) ?_
    refine va_get (D := D) (ci := 2) (v := .ref (a 22)) (C := RX2) (T := TX2) (N := 16) hx hb hts (fun _ h9 => List.mem_cons_of_mem _ (List.mem_append_right _ h9)) hown hK hP 0 rfl rfl 6 (by decide) (hts (.fieldLink RX2 30 "BuoyTender$Planner" "openedIn" "[I") (by decide +kernel)) (fun _ h9 => h9) rfl dX2_beginUpTo_22 ?_
    refine lv_iload_n hx hb dX2_beginUpTo_25 rfl (lv_at hl 3 rfl) ?_
    refine lv_bipush (v := 24) hx hb dX2_beginUpTo_26 (by decide) ?_
    refine lv_imul hx hb dX2_beginUpTo_28 ?_
    refine lv_topi (fun z_4 ez_4 => ?_)
    obtain rfl : z_4 = nI (j * 24) := ez_4.trans (pk_mul j 24)
    refine lv_iload hx hb dX2_beginUpTo_29 (lv_at hl 0 rfl) ?_
    refine lv_iadd hx hb dX2_beginUpTo_31 ?_
    refine lv_topi (fun z_5 ez_5 => ?_)
    obtain rfl : z_5 = nI ((j * 24) + ((min t9 1439) / 60)) := ez_5.trans (nI_add (j * 24) ((min t9 1439) / 60))
    refine va_iald hx hb hK hP 1 0 rfl rfl (vp_in_nI (by omega) (by decide)) dX2_beginUpTo_32 ?_
    refine lv_topi (fun z_6 ez_6 => ?_)
    obtain rfl : z_6 = (av 22) ((j * 24) + ((min t9 1439) / 60)) := ez_6.trans (congrArg (av 22) (nI_clamp (by omega)))
    refine lv_istore (lv' := [(5, .int ((av 22) ((j * 24) + ((min t9 1439) / 60)))), (4, .int (nI ((min t9 1439) / 60))), (3, .int (nI (min t9 1439))), (0, .ref (a 6)), (1, .int (nI j)), (2, .int (nI t9))]) hx hb dX2_beginUpTo_33 hl (by decide) rfl (fun ls hl => ?_)
    refine lv_iload hx hb dX2_beginUpTo_35 (lv_at hl 0 rfl) ?_
    refine lv_iconst (v := (-1)) hx hb dX2_beginUpTo_37 (by decide) ?_
    refine lv_icmp_ne (tgt := 44) hx hb dX2_beginUpTo_38 (by decide) (fun c_7 => ?_) (fun c_7 => ?_)
    · refine lv_iload hx hb dX2_beginUpTo_44 (lv_at hl 0 rfl) ?_
      refine lv_iload hx hb dX2_beginUpTo_46 (lv_at hl 1 rfl) ?_
      refine lv_icmp_ne (tgt := 55) hx hb dX2_beginUpTo_48 (by decide) (fun c_8 => ?_) (fun c_8 => ?_)
      · refine lv_iload hx hb dX2_beginUpTo_55 (lv_at hl 0 rfl) ?_
        refine lv_bipush (v := 60) hx hb dX2_beginUpTo_57 (by decide) ?_
        refine lv_imul hx hb dX2_beginUpTo_59 ?_
        refine lv_bipush (v := 60) hx hb dX2_beginUpTo_60 (by decide) ?_
        refine lv_iadd hx hb dX2_beginUpTo_62 ?_
        refine lv_iconst (v := 1) hx hb dX2_beginUpTo_63 (by decide) ?_
        refine lv_isub hx hb dX2_beginUpTo_64 ?_
        exact W.iret (v := (((((av 22) ((j * 24) + ((min t9 1439) / 60))) * 60) + 60) - 1)) hx hb hr (fun t ht hW => ⟨(((((av 22) ((j * 24) + ((min t9 1439) / 60))) * 60) + 60) - 1), rfl, trivial, ht⟩) (fun _ h => by cases h) dX2_beginUpTo_65
      refine lv_iload_n hx hb dX2_beginUpTo_51 rfl (lv_at hl 2 rfl) ?_
      refine lv_goto (tgt := 65) hx hb dX2_beginUpTo_52 (by decide) ?_
      exact W.iret (v := (nI (min t9 1439))) hx hb hr (fun t ht hW => ⟨(nI (min t9 1439)), rfl, trivial, ht⟩) (fun _ h => by cases h) dX2_beginUpTo_65
    refine lv_ldc (v := (-1000000)) hx hb hown (hts (.constant RX2 132 (-1000000)) (by decide +kernel)) dX2_beginUpTo_41 ?_
    exact W.iret (v := (-1000000)) hx hb hr (fun t ht hW => ⟨(-1000000), rfl, trivial, ht⟩) (fun _ h => by cases h) dX2_beginUpTo_43
  refine lv_ldc (v := (-1000000)) hx hb hown (hts (.constant RX2 132 (-1000000)) (by decide +kernel)) dX2_beginUpTo_4 ?_
  exact W.iret (v := (-1000000)) hx hb hr (fun t ht hW => ⟨(-1000000), rfl, trivial, ht⟩) (fun _ h => by cases h) dX2_beginUpTo_6
