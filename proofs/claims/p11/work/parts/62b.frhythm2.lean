/-- the proposed rhythm clashes with mark k's, for mark m -/
def cnC (near pm : Int32) (pf : Nat → Int32) (mv : Nat → Nat → Int32) (mrs : Nat → Nat → Int32) (m k : Nat) : Prop := ¬ k = m ∧ ¬ near < nrC (mv m) (mv k) ∧ pm = mv k 14 ∧ alkC pm.toNatClampNeg pf (mrs k)
/-- two marks with rhythms alike lie within a reach -/
def cwC (x : Int32) (mv : Nat → Nat → Int32) (mrs : Nat → Nat → Int32) (i k : Nat) : Prop := ¬ x < nrC (mv i) (mv k) ∧ mv i 14 = mv k 14 ∧ alkC (mv i 14).toNatClampNeg (mrs i) (mrs k)
set_option maxHeartbeats 4000000 in
set_option maxRecDepth 100000 in
/-- X8_clashesNearby: the loop at 2 -/
theorem lf_X8_cn {p : Program} {l : Launch} {e : Env} {s : State} {m : MethodId} {args : Array Value} {below : List Frame} {meth : Method} {c : Code} {Q : State → Prop} {D : va_G} {cI cJ cZ cM : Nat} {h0 : Nat} {a : Nat → Nat} {iv : Nat → Int32} {av : Nat → Nat → Int32} {ma : Nat → Nat → Nat} {mv : Nat → Nat → Int32} {mso : Nat → Nat → Int64} {mrs : Nat → Nat → Int32} {n0 : Nat} {fM : Nat → Option Nat} {m_ : Nat} {b9 : Nat} {H : Heap} (hx : p.tables.exec = Jvm.exec) (hb : c.code = cX8_clashesNearby) (hml : c.maxLocals = 5) (hts : ∀ w ∈ wsX8_clashesNearby, w.before args s = true) (hown : s.vm.findClass RX8 = some m.cls) (hG : GK D cI cJ cZ cM s) (hP : va_P D vwCl ([(h0, .inr (8, [.ref (a 1), .ref (a 2), .ref (a 3), .ref (a 4), .ref (a 5), .ref (a 6), .ref (a 7), .ref (a 8), .int (iv 0), .int (iv 1), .int (iv 2), .int (iv 3)])), (a 2, .inl (cM, 10, .inr (.inr (.inr (.inr fM))))), (a 8, .inr (3, [.ref (a 15), .int (iv 19)])), (a 15, .inl (cI, 8, .inl (av 15)))] ++ MG cI cJ ma mv mso mrs n0) H) (hn0 : n0 ≤ 10) (hfM : ∀ i, i < 10 → (i < n0 → fM i = some (ma i 0)) ∧ (n0 ≤ i → fM i = none)) (h_n : iv 0 = nI n0) (hm_ : m_ < n0) (e19 : iv 19 = nI b9) (hb9 : b9 ≤ 8) :
    ∀ (k9 : Nat) (k_ : Nat), (k_ ≤ n0) → (∀ k, k < k_ → ¬ cnC (iv 2) (iv 19) (av 15) mv mrs m_ k) → n0 - k_ < k9 → ∀ (ls : Array Slot), lv_has ls 5 [(3, .int (nI k_)), (0, .ref h0), (1, .int (nI m_)), (2, .ref (ma m_ 0))] → (∀  (ls : Array Slot), (∀ k, k < n0 → ¬ cnC (iv 2) (iv 19) (av 15) mv mrs m_ k) → lv_has ls 5 [(0, .ref h0), (1, .int (nI m_)), (2, .ref (ma m_ 0))] → W p l e (headSpec wsX8_clashesNearby ({ frames := 2, cells := 0, slots := 0, locals := 45 } : Room)).room s m args below meth c H [] 0 0 Q (F0 m 63 ls [])) → (∀  (ls : Array Slot), (∃ k, k < n0 ∧ cnC (iv 2) (iv 19) (av 15) mv mrs m_ k) → lv_has ls 5 [(0, .ref h0)] → W p l e (headSpec wsX8_clashesNearby ({ frames := 2, cells := 0, slots := 0, locals := 45 } : Room)).room s m args below meth c H [] 0 0 Q (F0 m 55 ls [])) → W p l e (headSpec wsX8_clashesNearby ({ frames := 2, cells := 0, slots := 0, locals := 45 } : Room)).room s m args below meth c H [] 0 0 Q (F0 m 2 ls []) := by
  have hK := hG.1
  have hN := hG.2
  intro k9
  induction k9 with
  | zero => intro k_ hk hno hfu; exact absurd hfu (Nat.not_lt_zero _)
  | succ k9 ih =>
    intro k_ hk hno hfu ls hl kk0 kk1
    rcases Nat.lt_or_ge k_ n0 with hlt | hge
    · refine lv_iload_n hx hb dX8_clashesNearby_2 rfl (lv_at hl 0 rfl) ?_
      refine lv_aload_n hx hb dX8_clashesNearby_3 rfl (lv_at hl 1 rfl) ?_
      refine va_get (D := D) (ci := 8) (v := .int (iv 0)) (C := RX8) (T := TX8) (N := 12) hx hb hts (fun _ h9 => List.mem_cons_of_mem _ (List.mem_append_left _ (List.mem_append_left _ (List.mem_append_right _ h9)))) hown hK hP 0 rfl rfl 8 (by decide) (hts (.fieldLink RX8 69 "BuoyTender" "markCount" "I") (by decide +kernel)) (fun _ h9 => h9) rfl dX8_clashesNearby_4 ?_
      refine lv_topi (fun z_1 ez_1 => ?_)
      obtain rfl : z_1 = nI n0 := ez_1.trans h_n
      refine lv_icmp_ge (tgt := 63) hx hb dX8_clashesNearby_7 (by decide) (fun c_2 => absurd c_2 (nI_ge hlt (by omega))) (fun c_2 => ?_)
      refine lv_aload_n hx hb dX8_clashesNearby_10 rfl (lv_at hl 1 rfl) ?_
      refine lv_iload_n hx hb dX8_clashesNearby_11 rfl (lv_at hl 0 rfl) ?_
      have hPc := hP.sub (ws' := [(h0, .inr (8, [.ref (a 1), .ref (a 2), .ref (a 3), .ref (a 4), .ref (a 5), .ref (a 6), .ref (a 7), .ref (a 8), .int (iv 0), .int (iv 1), .int (iv 2), .int (iv 3)])), (a 2, .inl (cM, 10, .inr (.inr (.inr (.inr fM)))))]) [0, 1] rfl
      refine va_csq (va_Run.run (va_runV (As := [.int (nI k_)]) (rest := []) ⟨hx, hb, hml, hown, hts⟩ (k_X8_known_y l D cI cJ cZ cM h0 a iv ma n0 fM hn0 hfM h_n k_ hlt) (cwV 1 hts gX8_clashesNearby_X8_known rfl rfl rfl (by decide +kernel) ⟨Nat.le_of_ble_eq_true rfl, Nat.le_of_ble_eq_true rfl⟩) (ro_V hG hPc (va_recv hK hPc (ci := 8) (q0 := 0) rfl rfl)) rfl rfl hl.1 rfl (lv_room (Nat.le_of_ble_eq_true rfl)) dX8_clashesNearby_12 ⟨Nat.le_of_ble_eq_true rfl, Nat.le_of_ble_eq_true rfl⟩)) (fun r_3 h_3 => ?_)
      obtain rfl : r_3 = some (ma k_ 0) := h_3
      refine W.eq (g2 := F0 m 15 ls [.ref (ma k_ 0)]) rfl ?_
      refine lv_astore (lv' := [(4, .ref (ma k_ 0)), (3, .int (nI k_)), (0, .ref h0), (1, .int (nI m_)), (2, .ref (ma m_ 0))]) hx hb dX8_clashesNearby_15 hl (by decide) rfl (fun ls hl => ?_)
      refine lv_iload_n hx hb dX8_clashesNearby_17 rfl (lv_at hl 1 rfl) ?_
      refine lv_iload_n hx hb dX8_clashesNearby_18 rfl (lv_at hl 3 rfl) ?_
      refine lv_icmp_eq (tgt := 57) hx hb dX8_clashesNearby_19 (by decide) (fun c_4 => ?_) (fun c_4 => ?_)
      · refine lv_iinc (v := nI (k_ + 1)) (lv' := [(3, .int (nI (k_ + 1))), (4, .ref (ma k_ 0)), (0, .ref h0), (1, .int (nI m_)), (2, .ref (ma m_ 0))]) hx hb dX8_clashesNearby_57 hl (k := 1) rfl (nI_add k_ 1) (by decide) rfl (fun ls hl => ?_)
        refine lv_goto (tgt := 2) hx hb dX8_clashesNearby_60 (by decide) ?_
        exact ih (k_ + 1) (by omega) (lt_s hno (fun q => q.1 ((nI_inj9 (by omega) (by omega)).mp c_4))) (by omega) _ (lv_sub hl [0, 2, 3, 4] rfl) kk0 kk1
      refine lv_aload hx hb dX8_clashesNearby_22 (lv_at hl 0 rfl) ?_
      refine lv_ifnull hx hb dX8_clashesNearby_24 ?_
      refine lv_aload_n hx hb dX8_clashesNearby_27 rfl (lv_at hl 4 rfl) ?_
      refine lv_aload hx hb dX8_clashesNearby_28 (lv_at hl 0 rfl) ?_
      refine lv_aload_n hx hb dX8_clashesNearby_30 rfl (lv_at hl 2 rfl) ?_
      refine va_get (D := D) (ci := 8) (v := .int (iv 2)) (C := RX8) (T := TX8) (N := 12) hx hb hts (fun _ h9 => List.mem_cons_of_mem _ (List.mem_append_left _ (List.mem_append_left _ (List.mem_append_right _ h9)))) hown hK hP 0 rfl rfl 10 (by decide) (hts (.fieldLink RX8 178 "BuoyTender" "nearness" "I") (by decide +kernel)) (fun _ h9 => h9) rfl dX8_clashesNearby_31 ?_
      have hq0 : va_P D vwCl [(ma m_ 0, .inr (1, [.int (mv m_ 0), .int (mv m_ 1), .int (mv m_ 2), .ref (ma m_ 1), .ref (ma m_ 3), .ref (ma m_ 4), .int (mv m_ 3), .int (mv m_ 4), .int (mv m_ 5)]))] _ := vaP_1 (k := (4 + (6 * m_ + 0))) hP (mg_x0 rfl hm_)
      have hq1 : va_P D vwCl [(ma k_ 0, .inr (1, [.int (mv k_ 0), .int (mv k_ 1), .int (mv k_ 2), .ref (ma k_ 1), .ref (ma k_ 3), .ref (ma k_ 4), .int (mv k_ 3), .int (mv k_ 4), .int (mv k_ 5)]))] _ := vaP_1 (k := (4 + (6 * k_ + 0))) hP (mg_x0 rfl hlt)
      have hPc := (va_P.app hq0 hq1)
      have hPc : va_P D vwCl [(ma m_ 0, .inr (1, [.int (mv m_ 0), .int (mv m_ 1), .int (mv m_ 2), .ref (ma m_ 1), .ref (ma m_ 3), .ref (ma m_ 4), .int (mv m_ 3), .int (mv m_ 4), .int (mv m_ 5)])), (ma k_ 0, .inr (1, [.int (mv k_ 0), .int (mv k_ 1), .int (mv k_ 2), .ref (ma k_ 1), .ref (ma k_ 3), .ref (ma k_ 4), .int (mv k_ 3), .int (mv k_ 4), .int (mv k_ 5)]))] _ := hPc
      refine vp_callSi (va_Run.run (va_runVN (As := [.ref (ma k_ 0), .int (iv 2)]) (rest := []) ⟨hx, hb, hml, hown, hts⟩ (k_X1_isNear l D cI cJ cZ cM (ma m_ 0) (mv m_) (ma m_) (ma k_ 0) (mv k_) (ma k_) (iv 2)) ⟨(va_cnB 2 hts gX8_clashesNearby_X1_isNear_n295 rfl rfl rfl (hN.2.1 (RX8, 295, yX1_isNear, "BuoyTender") (by decide +kernel)) (hts (.initialized RX1) (by decide +kernel)) (by decide +kernel) ⟨Nat.le_of_ble_eq_true rfl, Nat.le_of_ble_eq_true rfl⟩), hts (.instanceMethod yX1_isNear) (by decide +kernel), hts (.selects RX1 yX1_isNear yX1_isNear) (by decide +kernel)⟩ (ro_V hG hPc (va_recv hK hPc (ci := 1) (q0 := 0) rfl rfl)) rfl rfl hl.1 rfl (lv_room (Nat.le_of_ble_eq_true rfl)) dX8_clashesNearby_34 ⟨Nat.le_of_ble_eq_true rfl, Nat.le_of_ble_eq_true rfl⟩)) (fun r_5 h_5 => ?_)
      rcases h_5 with ⟨rfl, h_5⟩ | ⟨rfl, h_5⟩
      · refine lv_if_eq (tgt := 57) hx hb dX8_clashesNearby_37 (by decide) (fun c_6 => False.elim (by revert c_6; decide)) (fun _ => ?_)
        refine lv_aload_n hx hb dX8_clashesNearby_40 rfl (lv_at hl 2 rfl) ?_
        refine va_get (D := D) (ci := 8) (v := .ref (a 8)) (C := RX8) (T := TX8) (N := 12) hx hb hts (fun _ h9 => List.mem_cons_of_mem _ (List.mem_append_left _ (List.mem_append_left _ (List.mem_append_right _ h9)))) hown hK hP 0 rfl rfl 7 (by decide) (hts (.fieldLink RX8 53 "BuoyTender" "proposed" "LBuoyTender$Rhythm;") (by decide +kernel)) (fun _ h9 => h9) rfl dX8_clashesNearby_41 ?_
        refine lv_aload hx hb dX8_clashesNearby_44 (lv_at hl 0 rfl) ?_
        refine va_getN (D := D) (ci := 1) (v := .ref (ma k_ 4)) (C := RX1) (T := TX1) (N := 9) hx hb hts (fun _ h9 => List.mem_cons_of_mem _ (List.mem_append_left _ (List.mem_append_right _ h9))) hown hK hP (4 + (6 * k_ + 0)) (mg_x0 rfl hlt) rfl 5 (by decide) (va_Nw.use rfl (hN.1 (RX8, 157, "BuoyTender$Mark", "rhythm", "LBuoyTender$Rhythm;", "BuoyTender") (by decide +kernel))) (fun _ h9 => h9) rfl dX8_clashesNearby_46 ?_
        have hq0 : va_P D vwCl [(a 8, .inr (3, [.ref (a 15), .int (iv 19)]))] _ := vaP_1 (k := 2) hP rfl
        have hq1 : va_P D vwCl [(a 15, .inl (cI, 8, .inl (av 15)))] _ := vaP_1 (k := 3) hP rfl
        have hq2 : va_P D vwCl [(ma k_ 4, .inr (3, [.ref (ma k_ 5), .int (mv k_ 14)]))] _ := vaP_1 (k := (4 + (6 * k_ + 4))) hP (mg_x4 rfl hlt)
        have hq3 : va_P D vwCl [(ma k_ 5, .inl (cI, 8, .inl (mrs k_)))] _ := vaP_1 (k := (4 + (6 * k_ + 5))) hP (mg_x5 rfl hlt)
        have hPc := (va_P.app (va_P.app (va_P.app hq0 hq1) hq2) hq3)
        have hPc : va_P D vwCl [(a 8, .inr (3, [.ref (a 15), .int (iv 19)])), (a 15, .inl (cI, 8, .inl (av 15))), (ma k_ 4, .inr (3, [.ref (ma k_ 5), .int (mv k_ 14)])), (ma k_ 5, .inl (cI, 8, .inl (mrs k_)))] _ := hPc
        refine vp_callSi (va_Run.run (va_runVN (As := [.ref (ma k_ 4)]) (rest := []) ⟨hx, hb, hml, hown, hts⟩ (kf_X3_matches l D cI cJ cZ cM (a 8) (a 15) (iv 19) (av 15) (ma k_ 4) (ma k_ 5) (mv k_ 14) (mrs k_) b9 e19 hb9) ⟨(va_cnB 1 hts gX8_clashesNearby_X3_matches_n185 rfl rfl rfl (hN.2.1 (RX8, 185, yX3_matches, "BuoyTender") (by decide +kernel)) (hts (.initialized RX3) (by decide +kernel)) (by decide +kernel) ⟨Nat.le_of_ble_eq_true rfl, Nat.le_of_ble_eq_true rfl⟩), hts (.instanceMethod yX3_matches) (by decide +kernel), hts (.selects RX3 yX3_matches yX3_matches) (by decide +kernel)⟩ (ro_V hG hPc (va_recv hK hPc (ci := 3) (q0 := 0) rfl rfl)) rfl rfl hl.1 rfl (lv_room (Nat.le_of_ble_eq_true rfl)) dX8_clashesNearby_49 ⟨Nat.le_of_ble_eq_true rfl, Nat.le_of_ble_eq_true rfl⟩)) (fun r_7 h_7 => ?_)
        rcases h_7 with ⟨rfl, h_7⟩ | ⟨rfl, h_7⟩
        · refine lv_if_eq (tgt := 57) hx hb dX8_clashesNearby_52 (by decide) (fun c_8 => False.elim (by revert c_8; decide)) (fun _ => ?_)
          exact kk1  _ ⟨k_, hlt, fun q => c_4 (congrArg nI q), h_5, h_7⟩ (lv_sub hl [2] rfl)
        refine lv_if_eq (tgt := 57) hx hb dX8_clashesNearby_52 (by decide) (fun _ => ?_) (fun c_9 => False.elim (by revert c_9; decide))
        refine lv_iinc (v := nI (k_ + 1)) (lv' := [(3, .int (nI (k_ + 1))), (4, .ref (ma k_ 0)), (0, .ref h0), (1, .int (nI m_)), (2, .ref (ma m_ 0))]) hx hb dX8_clashesNearby_57 hl (k := 1) rfl (nI_add k_ 1) (by decide) rfl (fun ls hl => ?_)
        refine lv_goto (tgt := 2) hx hb dX8_clashesNearby_60 (by decide) ?_
        exact ih (k_ + 1) (by omega) (lt_s hno (fun q => h_7 q.2.2)) (by omega) _ (lv_sub hl [0, 2, 3, 4] rfl) kk0 kk1
      refine lv_if_eq (tgt := 57) hx hb dX8_clashesNearby_37 (by decide) (fun _ => ?_) (fun c_10 => False.elim (by revert c_10; decide))
      refine lv_iinc (v := nI (k_ + 1)) (lv' := [(3, .int (nI (k_ + 1))), (4, .ref (ma k_ 0)), (0, .ref h0), (1, .int (nI m_)), (2, .ref (ma m_ 0))]) hx hb dX8_clashesNearby_57 hl (k := 1) rfl (nI_add k_ 1) (by decide) rfl (fun ls hl => ?_)
      refine lv_goto (tgt := 2) hx hb dX8_clashesNearby_60 (by decide) ?_
      exact ih (k_ + 1) (by omega) (lt_s hno (fun q => h_5 q.2.1)) (by omega) _ (lv_sub hl [0, 2, 3, 4] rfl) kk0 kk1
    · refine lv_iload_n hx hb dX8_clashesNearby_2 rfl (lv_at hl 0 rfl) ?_
      refine lv_aload_n hx hb dX8_clashesNearby_3 rfl (lv_at hl 1 rfl) ?_
      refine va_get (D := D) (ci := 8) (v := .int (iv 0)) (C := RX8) (T := TX8) (N := 12) hx hb hts (fun _ h9 => List.mem_cons_of_mem _ (List.mem_append_left _ (List.mem_append_left _ (List.mem_append_right _ h9)))) hown hK hP 0 rfl rfl 8 (by decide) (hts (.fieldLink RX8 69 "BuoyTender" "markCount" "I") (by decide +kernel)) (fun _ h9 => h9) rfl dX8_clashesNearby_4 ?_
      refine lv_topi (fun z_11 ez_11 => ?_)
      obtain rfl : z_11 = nI n0 := ez_11.trans h_n
      refine lv_icmp_ge (tgt := 63) hx hb dX8_clashesNearby_7 (by decide) (fun c_12 => ?_) (fun c_12 => absurd (nI_le hge (by omega)) c_12)
      exact kk0  _ (fun k q => hno k (by omega)) (lv_sub hl [1, 2, 3] rfl)
set_option maxHeartbeats 4000000 in
set_option maxRecDepth 100000 in
/-- X8_clashesNearby -/
theorem kf_X8_clashesNearby (l : Launch) (D : va_G) (cI cJ cZ cM : Nat) (h0 : Nat) (a : Nat → Nat) (iv : Nat → Int32) (av : Nat → Nat → Int32) (ma : Nat → Nat → Nat) (mv : Nat → Nat → Int32) (mso : Nat → Nat → Int64) (mrs : Nat → Nat → Int32) (n0 : Nat) (fM : Nat → Option Nat) (hn0 : n0 ≤ 10) (hfM : ∀ i, i < 10 → (i < n0 → fM i = some (ma i 0)) ∧ (n0 ≤ i → fM i = none)) (h_n : iv 0 = nI n0) (m_ : Nat) (hm_ : m_ < n0) (b9 : Nat) (e19 : iv 19 = nI b9) (hb9 : b9 ≤ 8) : Met l yX8_clashesNearby wsX8_clashesNearby ({ frames := 2, cells := 0, slots := 0, locals := 45 } : Room) (RO D cI cJ cZ cM [.ref h0, .int (nI m_), .ref (ma m_ 0)] ([(h0, .inr (8, [.ref (a 1), .ref (a 2), .ref (a 3), .ref (a 4), .ref (a 5), .ref (a 6), .ref (a 7), .ref (a 8), .int (iv 0), .int (iv 1), .int (iv 2), .int (iv 3)])), (a 2, .inl (cM, 10, .inr (.inr (.inr (.inr fM))))), (a 8, .inr (3, [.ref (a 15), .int (iv 19)])), (a 15, .inl (cI, 8, .inl (av 15)))] ++ MG cI cJ ma mv mso mrs n0)) (vp_Si (fun r => okI 1 0 (∃ k, k < n0 ∧ cnC (iv 2) (iv 19) (av 15) mv mrs m_ k) r)) 0 0 (fun _ => False) := by
  refine Met.ofW (cc := cX8_clashesNearby) (maxL := 5) (ret := (some .boolean)) (by decide) rfl ?_
  intro p e s m args below meth c s₁ B hml hv
  obtain ⟨rfl, hG, hP⟩ := hv
  have hx := B.exec
  have hb := B.bytes
  have hr := B.returns
  have hts := atoms_spec (ws := wsX8_clashesNearby) B.pre
  have hown : s.vm.findClass RX8 = some m.cls := findClass_of_methodNamed B.named
  have hlocks := B.notSynchronized
  have hK := hG.1
  have hN := hG.2
  have hl := lv_entry ([.ref h0, .int (nI m_), .ref (ma m_ 0)]) (n := 5) (Nat.le_of_ble_eq_true rfl)
  rw [lg_entry_eq]
  generalize (lg_sl ([.ref h0, .int (nI m_), .ref (ma m_ 0)]) ++ List.replicate (5 - (lg_sl ([.ref h0, .int (nI m_), .ref (ma m_ 0)])).length) Slot.unset).toArray = ls at hl ⊢
  have hl : lv_has ls 5 [(0, .ref h0), (1, .int (nI m_)), (2, .ref (ma m_ 0))] := hl
  refine lv_iconst (v := 0) hx hb dX8_clashesNearby_0 (by decide) ?_
  refine lv_istore_n (lv' := [(3, .int 0), (0, .ref h0), (1, .int (nI m_)), (2, .ref (ma m_ 0))]) hx hb dX8_clashesNearby_1 rfl hl (by decide) rfl (fun ls hl => ?_)
  have hPl := hP.part (cx := [(h0, .inr (8, [.ref (a 1), .ref (a 2), .ref (a 3), .ref (a 4), .ref (a 5), .ref (a 6), .ref (a 7), .ref (a 8), .int (iv 0), .int (iv 1), .int (iv 2), .int (iv 3)])), (a 2, .inl (cM, 10, .inr (.inr (.inr (.inr fM))))), (a 8, .inr (3, [.ref (a 15), .int (iv 19)])), (a 15, .inl (cI, 8, .inl (av 15)))]) [0, 1, 2, 3] rfl
  refine lf_X8_cn hx hb hml hts hown hG hPl hn0 hfM h_n hm_ e19 hb9 (n0 + 1) 0 (Nat.zero_le _) lt_0 (by omega) _ (lv_sub hl [0, 1, 2, 3] rfl) (fun  ls e_1_0 hl => ?_) (fun  ls e_2_0 hl => ?_)
  · refine lv_iconst (v := 0) hx hb dX8_clashesNearby_63 (by decide) ?_
    exact W.zret (v := 0) hx hb hr rfl (fun t ht hW => ⟨0, rfl, (Or.inr ⟨rfl, fun ⟨k, q1, q2⟩ => e_1_0 k q1 q2⟩), ht⟩) (fun _ h => by cases h) dX8_clashesNearby_64
  refine lv_iconst (v := 1) hx hb dX8_clashesNearby_55 (by decide) ?_
  exact W.zret (v := 1) hx hb hr rfl (fun t ht hW => ⟨1, rfl, (Or.inl ⟨rfl, e_2_0⟩), ht⟩) (fun _ h => by cases h) dX8_clashesNearby_56
set_option maxHeartbeats 4000000 in
set_option maxRecDepth 100000 in
/-- X8_clashesWithin: the loop at 14 -/
theorem lf_X8_cwI {p : Program} {l : Launch} {e : Env} {s : State} {m : MethodId} {args : Array Value} {below : List Frame} {meth : Method} {c : Code} {Q : State → Prop} {D : va_G} {cI cJ cZ cM : Nat} {h0 : Nat} {a : Nat → Nat} {iv : Nat → Int32} {av : Nat → Nat → Int32} {ma : Nat → Nat → Nat} {mv : Nat → Nat → Int32} {mso : Nat → Nat → Int64} {mrs : Nat → Nat → Int32} {n0 : Nat} {fM : Nat → Option Nat} {x1 : Int32} {i_ : Nat} {sq_ : Nat} {H : Heap} (hx : p.tables.exec = Jvm.exec) (hb : c.code = cX8_clashesWithin) (hml : c.maxLocals = 6) (hts : ∀ w ∈ wsX8_clashesWithin, w.before args s = true) (hown : s.vm.findClass RX8 = some m.cls) (hG : GK D cI cJ cZ cM s) (hP : va_P D vwCl ([(h0, .inr (8, [.ref (a 1), .ref (a 2), .ref (a 3), .ref (a 4), .ref (a 5), .ref (a 6), .ref (a 7), .ref (a 8), .int (iv 0), .int (iv 1), .int (iv 2), .int (iv 3)])), (a 2, .inl (cM, 10, .inr (.inr (.inr (.inr fM)))))] ++ MG cI cJ ma mv mso mrs n0) H) (hn0 : n0 ≤ 10) (hfM : ∀ i, i < 10 → (i < n0 → fM i = some (ma i 0)) ∧ (n0 ≤ i → fM i = none)) (h_n : iv 0 = nI n0) (hi_ : i_ < n0) (esq : mv i_ 14 = nI sq_) (hsq : sq_ ≤ 8) :
    ∀ (k9 : Nat) (k_ : Nat), (k_ ≤ n0) → (i_ < k_) → (∀ k, k < k_ → i_ < k → ¬ cwC x1 mv mrs i_ k) → n0 - k_ < k9 → ∀ (ls : Array Slot), lv_has ls 6 [(3, .int (nI k_)), (2, .int (nI i_)), (0, .ref h0), (1, .int x1)] → (∀  (ls : Array Slot), (∀ k, k < n0 → i_ < k → ¬ cwC x1 mv mrs i_ k) → lv_has ls 6 [(2, .int (nI i_)), (0, .ref h0), (1, .int x1)] → W p l e (headSpec wsX8_clashesWithin ({ frames := 2, cells := 0, slots := 0, locals := 45 } : Room)).room s m args below meth c H [] 0 0 Q (F0 m 81 ls [])) → (∀  (ls : Array Slot), (∃ i k, i < k ∧ k < n0 ∧ cwC x1 mv mrs i k) → lv_has ls 6 [(0, .ref h0)] → W p l e (headSpec wsX8_clashesWithin ({ frames := 2, cells := 0, slots := 0, locals := 45 } : Room)).room s m args below meth c H [] 0 0 Q (F0 m 73 ls [])) → W p l e (headSpec wsX8_clashesWithin ({ frames := 2, cells := 0, slots := 0, locals := 45 } : Room)).room s m args below meth c H [] 0 0 Q (F0 m 14 ls []) := by
  have hK := hG.1
  have hN := hG.2
  intro k9
  induction k9 with
  | zero => intro k_ hk hik hno hfu; exact absurd hfu (Nat.not_lt_zero _)
  | succ k9 ih =>
    intro k_ hk hik hno hfu ls hl kk0 kk1
    rcases Nat.lt_or_ge k_ n0 with hlt | hge
    · refine lv_iload_n hx hb dX8_clashesWithin_14 rfl (lv_at hl 0 rfl) ?_
      refine lv_aload_n hx hb dX8_clashesWithin_15 rfl (lv_at hl 2 rfl) ?_
      refine va_get (D := D) (ci := 8) (v := .int (iv 0)) (C := RX8) (T := TX8) (N := 12) hx hb hts (fun _ h9 => List.mem_cons_of_mem _ (List.mem_append_left _ (List.mem_append_left _ (List.mem_append_right _ h9)))) hown hK hP 0 rfl rfl 8 (by decide) (hts (.fieldLink RX8 69 "BuoyTender" "markCount" "I") (by decide +kernel)) (fun _ h9 => h9) rfl dX8_clashesWithin_16 ?_
      refine lv_topi (fun z_1 ez_1 => ?_)
      obtain rfl : z_1 = nI n0 := ez_1.trans h_n
      refine lv_icmp_ge (tgt := 81) hx hb dX8_clashesWithin_19 (by decide) (fun c_2 => absurd c_2 (nI_ge hlt (by omega))) (fun c_2 => ?_)
      refine lv_aload_n hx hb dX8_clashesWithin_22 rfl (lv_at hl 2 rfl) ?_
      refine lv_iload_n hx hb dX8_clashesWithin_23 rfl (lv_at hl 1 rfl) ?_
      have hPc := hP.sub (ws' := [(h0, .inr (8, [.ref (a 1), .ref (a 2), .ref (a 3), .ref (a 4), .ref (a 5), .ref (a 6), .ref (a 7), .ref (a 8), .int (iv 0), .int (iv 1), .int (iv 2), .int (iv 3)])), (a 2, .inl (cM, 10, .inr (.inr (.inr (.inr fM)))))]) [0, 1] rfl
      refine va_csq (va_Run.run (va_runV (As := [.int (nI i_)]) (rest := []) ⟨hx, hb, hml, hown, hts⟩ (k_X8_known_y l D cI cJ cZ cM h0 a iv ma n0 fM hn0 hfM h_n i_ hi_) (cwV 1 hts gX8_clashesWithin_X8_known rfl rfl rfl (by decide +kernel) ⟨Nat.le_of_ble_eq_true rfl, Nat.le_of_ble_eq_true rfl⟩) (ro_V hG hPc (va_recv hK hPc (ci := 8) (q0 := 0) rfl rfl)) rfl rfl hl.1 rfl (lv_room (Nat.le_of_ble_eq_true rfl)) dX8_clashesWithin_24 ⟨Nat.le_of_ble_eq_true rfl, Nat.le_of_ble_eq_true rfl⟩)) (fun r_3 h_3 => ?_)
      obtain rfl : r_3 = some (ma i_ 0) := h_3
      refine W.eq (g2 := F0 m 27 ls [.ref (ma i_ 0)]) rfl ?_
      refine lv_astore (lv' := [(4, .ref (ma i_ 0)), (3, .int (nI k_)), (2, .int (nI i_)), (0, .ref h0), (1, .int x1)]) hx hb dX8_clashesWithin_27 hl (by decide) rfl (fun ls hl => ?_)
      refine lv_aload_n hx hb dX8_clashesWithin_29 rfl (lv_at hl 3 rfl) ?_
      refine lv_iload_n hx hb dX8_clashesWithin_30 rfl (lv_at hl 1 rfl) ?_
      have hPc := hP.sub (ws' := [(h0, .inr (8, [.ref (a 1), .ref (a 2), .ref (a 3), .ref (a 4), .ref (a 5), .ref (a 6), .ref (a 7), .ref (a 8), .int (iv 0), .int (iv 1), .int (iv 2), .int (iv 3)])), (a 2, .inl (cM, 10, .inr (.inr (.inr (.inr fM)))))]) [0, 1] rfl
      refine va_csq (va_Run.run (va_runV (As := [.int (nI k_)]) (rest := []) ⟨hx, hb, hml, hown, hts⟩ (k_X8_known_y l D cI cJ cZ cM h0 a iv ma n0 fM hn0 hfM h_n k_ hlt) (cwV 1 hts gX8_clashesWithin_X8_known rfl rfl rfl (by decide +kernel) ⟨Nat.le_of_ble_eq_true rfl, Nat.le_of_ble_eq_true rfl⟩) (ro_V hG hPc (va_recv hK hPc (ci := 8) (q0 := 0) rfl rfl)) rfl rfl hl.1 rfl (lv_room (Nat.le_of_ble_eq_true rfl)) dX8_clashesWithin_31 ⟨Nat.le_of_ble_eq_true rfl, Nat.le_of_ble_eq_true rfl⟩)) (fun r_4 h_4 => ?_)
      obtain rfl : r_4 = some (ma k_ 0) := h_4
      refine W.eq (g2 := F0 m 34 ls [.ref (ma k_ 0)]) rfl ?_
      refine lv_astore (lv' := [(5, .ref (ma k_ 0)), (4, .ref (ma i_ 0)), (3, .int (nI k_)), (2, .int (nI i_)), (0, .ref h0), (1, .int x1)]) hx hb dX8_clashesWithin_34 hl (by decide) rfl (fun ls hl => ?_)
      refine lv_aload hx hb dX8_clashesWithin_36 (lv_at hl 1 rfl) ?_
      refine lv_ifnull hx hb dX8_clashesWithin_38 ?_
      refine lv_aload hx hb dX8_clashesWithin_41 (lv_at hl 0 rfl) ?_
      refine lv_ifnull hx hb dX8_clashesWithin_43 ?_
      refine lv_aload hx hb dX8_clashesWithin_46 (lv_at hl 1 rfl) ?_
      refine lv_aload hx hb dX8_clashesWithin_48 (lv_at hl 0 rfl) ?_
      refine lv_iload_n hx hb dX8_clashesWithin_50 rfl (lv_at hl 5 rfl) ?_
      have hq0 : va_P D vwCl [(ma i_ 0, .inr (1, [.int (mv i_ 0), .int (mv i_ 1), .int (mv i_ 2), .ref (ma i_ 1), .ref (ma i_ 3), .ref (ma i_ 4), .int (mv i_ 3), .int (mv i_ 4), .int (mv i_ 5)]))] _ := vaP_1 (k := (2 + (6 * i_ + 0))) hP (mg_x0 rfl hi_)
      have hq1 : va_P D vwCl [(ma k_ 0, .inr (1, [.int (mv k_ 0), .int (mv k_ 1), .int (mv k_ 2), .ref (ma k_ 1), .ref (ma k_ 3), .ref (ma k_ 4), .int (mv k_ 3), .int (mv k_ 4), .int (mv k_ 5)]))] _ := vaP_1 (k := (2 + (6 * k_ + 0))) hP (mg_x0 rfl hlt)
      have hPc := (va_P.app hq0 hq1)
      have hPc : va_P D vwCl [(ma i_ 0, .inr (1, [.int (mv i_ 0), .int (mv i_ 1), .int (mv i_ 2), .ref (ma i_ 1), .ref (ma i_ 3), .ref (ma i_ 4), .int (mv i_ 3), .int (mv i_ 4), .int (mv i_ 5)])), (ma k_ 0, .inr (1, [.int (mv k_ 0), .int (mv k_ 1), .int (mv k_ 2), .ref (ma k_ 1), .ref (ma k_ 3), .ref (ma k_ 4), .int (mv k_ 3), .int (mv k_ 4), .int (mv k_ 5)]))] _ := hPc
      refine vp_callSi (va_Run.run (va_runVN (As := [.ref (ma k_ 0), .int x1]) (rest := []) ⟨hx, hb, hml, hown, hts⟩ (k_X1_isNear l D cI cJ cZ cM (ma i_ 0) (mv i_) (ma i_) (ma k_ 0) (mv k_) (ma k_) x1) ⟨(va_cnB 2 hts gX8_clashesWithin_X1_isNear_n295 rfl rfl rfl (hN.2.1 (RX8, 295, yX1_isNear, "BuoyTender") (by decide +kernel)) (hts (.initialized RX1) (by decide +kernel)) (by decide +kernel) ⟨Nat.le_of_ble_eq_true rfl, Nat.le_of_ble_eq_true rfl⟩), hts (.instanceMethod yX1_isNear) (by decide +kernel), hts (.selects RX1 yX1_isNear yX1_isNear) (by decide +kernel)⟩ (ro_V hG hPc (va_recv hK hPc (ci := 1) (q0 := 0) rfl rfl)) rfl rfl hl.1 rfl (lv_room (Nat.le_of_ble_eq_true rfl)) dX8_clashesWithin_51 ⟨Nat.le_of_ble_eq_true rfl, Nat.le_of_ble_eq_true rfl⟩)) (fun r_5 h_5 => ?_)
      rcases h_5 with ⟨rfl, h_5⟩ | ⟨rfl, h_5⟩
      · refine lv_if_eq (tgt := 75) hx hb dX8_clashesWithin_54 (by decide) (fun c_6 => False.elim (by revert c_6; decide)) (fun _ => ?_)
        refine lv_aload hx hb dX8_clashesWithin_57 (lv_at hl 1 rfl) ?_
        refine va_getN (D := D) (ci := 1) (v := .ref (ma i_ 4)) (C := RX1) (T := TX1) (N := 9) hx hb hts (fun _ h9 => List.mem_cons_of_mem _ (List.mem_append_left _ (List.mem_append_right _ h9))) hown hK hP (2 + (6 * i_ + 0)) (mg_x0 rfl hi_) rfl 5 (by decide) (va_Nw.use rfl (hN.1 (RX8, 157, "BuoyTender$Mark", "rhythm", "LBuoyTender$Rhythm;", "BuoyTender") (by decide +kernel))) (fun _ h9 => h9) rfl dX8_clashesWithin_59 ?_
        refine lv_aload hx hb dX8_clashesWithin_62 (lv_at hl 0 rfl) ?_
        refine va_getN (D := D) (ci := 1) (v := .ref (ma k_ 4)) (C := RX1) (T := TX1) (N := 9) hx hb hts (fun _ h9 => List.mem_cons_of_mem _ (List.mem_append_left _ (List.mem_append_right _ h9))) hown hK hP (2 + (6 * k_ + 0)) (mg_x0 rfl hlt) rfl 5 (by decide) (va_Nw.use rfl (hN.1 (RX8, 157, "BuoyTender$Mark", "rhythm", "LBuoyTender$Rhythm;", "BuoyTender") (by decide +kernel))) (fun _ h9 => h9) rfl dX8_clashesWithin_64 ?_
        have hq0 : va_P D vwCl [(ma i_ 4, .inr (3, [.ref (ma i_ 5), .int (mv i_ 14)]))] _ := vaP_1 (k := (2 + (6 * i_ + 4))) hP (mg_x4 rfl hi_)
        have hq1 : va_P D vwCl [(ma i_ 5, .inl (cI, 8, .inl (mrs i_)))] _ := vaP_1 (k := (2 + (6 * i_ + 5))) hP (mg_x5 rfl hi_)
        have hq2 : va_P D vwCl [(ma k_ 4, .inr (3, [.ref (ma k_ 5), .int (mv k_ 14)]))] _ := vaP_1 (k := (2 + (6 * k_ + 4))) hP (mg_x4 rfl hlt)
        have hq3 : va_P D vwCl [(ma k_ 5, .inl (cI, 8, .inl (mrs k_)))] _ := vaP_1 (k := (2 + (6 * k_ + 5))) hP (mg_x5 rfl hlt)
        have hPc := (va_P.app (va_P.app (va_P.app hq0 hq1) hq2) hq3)
        have hPc : va_P D vwCl [(ma i_ 4, .inr (3, [.ref (ma i_ 5), .int (mv i_ 14)])), (ma i_ 5, .inl (cI, 8, .inl (mrs i_))), (ma k_ 4, .inr (3, [.ref (ma k_ 5), .int (mv k_ 14)])), (ma k_ 5, .inl (cI, 8, .inl (mrs k_)))] _ := hPc
        refine vp_callSi (va_Run.run (va_runVN (As := [.ref (ma k_ 4)]) (rest := []) ⟨hx, hb, hml, hown, hts⟩ (kf_X3_matches l D cI cJ cZ cM (ma i_ 4) (ma i_ 5) (mv i_ 14) (mrs i_) (ma k_ 4) (ma k_ 5) (mv k_ 14) (mrs k_) sq_ (show mv i_ 14 = nI sq_ from esq) hsq) ⟨(va_cnB 1 hts gX8_clashesWithin_X3_matches_n185 rfl rfl rfl (hN.2.1 (RX8, 185, yX3_matches, "BuoyTender") (by decide +kernel)) (hts (.initialized RX3) (by decide +kernel)) (by decide +kernel) ⟨Nat.le_of_ble_eq_true rfl, Nat.le_of_ble_eq_true rfl⟩), hts (.instanceMethod yX3_matches) (by decide +kernel), hts (.selects RX3 yX3_matches yX3_matches) (by decide +kernel)⟩ (ro_V hG hPc (va_recv hK hPc (ci := 3) (q0 := 0) rfl rfl)) rfl rfl hl.1 rfl (lv_room (Nat.le_of_ble_eq_true rfl)) dX8_clashesWithin_67 ⟨Nat.le_of_ble_eq_true rfl, Nat.le_of_ble_eq_true rfl⟩)) (fun r_7 h_7 => ?_)
        rcases h_7 with ⟨rfl, h_7⟩ | ⟨rfl, h_7⟩
        · refine lv_if_eq (tgt := 75) hx hb dX8_clashesWithin_70 (by decide) (fun c_8 => False.elim (by revert c_8; decide)) (fun _ => ?_)
          exact kk1  _ ⟨i_, k_, hik, hlt, h_5, h_7⟩ (lv_sub hl [4] rfl)
        refine lv_if_eq (tgt := 75) hx hb dX8_clashesWithin_70 (by decide) (fun _ => ?_) (fun c_9 => False.elim (by revert c_9; decide))
        refine lv_iinc (v := nI (k_ + 1)) (lv' := [(3, .int (nI (k_ + 1))), (5, .ref (ma k_ 0)), (4, .ref (ma i_ 0)), (2, .int (nI i_)), (0, .ref h0), (1, .int x1)]) hx hb dX8_clashesWithin_75 hl (k := 2) rfl (nI_add k_ 1) (by decide) rfl (fun ls hl => ?_)
        refine lv_goto (tgt := 14) hx hb dX8_clashesWithin_78 (by decide) ?_
        exact ih (k_ + 1) (by omega) (by omega) (lt_s hno (fun _ => (fun q => h_7 q.2))) (by omega) _ (lv_sub hl [0, 3, 4, 5] rfl) kk0 kk1
      refine lv_if_eq (tgt := 75) hx hb dX8_clashesWithin_54 (by decide) (fun _ => ?_) (fun c_10 => False.elim (by revert c_10; decide))
      refine lv_iinc (v := nI (k_ + 1)) (lv' := [(3, .int (nI (k_ + 1))), (5, .ref (ma k_ 0)), (4, .ref (ma i_ 0)), (2, .int (nI i_)), (0, .ref h0), (1, .int x1)]) hx hb dX8_clashesWithin_75 hl (k := 2) rfl (nI_add k_ 1) (by decide) rfl (fun ls hl => ?_)
      refine lv_goto (tgt := 14) hx hb dX8_clashesWithin_78 (by decide) ?_
      exact ih (k_ + 1) (by omega) (by omega) (lt_s hno (fun _ => (fun q => h_5 q.1))) (by omega) _ (lv_sub hl [0, 3, 4, 5] rfl) kk0 kk1
    · refine lv_iload_n hx hb dX8_clashesWithin_14 rfl (lv_at hl 0 rfl) ?_
      refine lv_aload_n hx hb dX8_clashesWithin_15 rfl (lv_at hl 2 rfl) ?_
      refine va_get (D := D) (ci := 8) (v := .int (iv 0)) (C := RX8) (T := TX8) (N := 12) hx hb hts (fun _ h9 => List.mem_cons_of_mem _ (List.mem_append_left _ (List.mem_append_left _ (List.mem_append_right _ h9)))) hown hK hP 0 rfl rfl 8 (by decide) (hts (.fieldLink RX8 69 "BuoyTender" "markCount" "I") (by decide +kernel)) (fun _ h9 => h9) rfl dX8_clashesWithin_16 ?_
      refine lv_topi (fun z_11 ez_11 => ?_)
      obtain rfl : z_11 = nI n0 := ez_11.trans h_n
      refine lv_icmp_ge (tgt := 81) hx hb dX8_clashesWithin_19 (by decide) (fun c_12 => ?_) (fun c_12 => absurd (nI_le hge (by omega)) c_12)
      exact kk0  _ (fun k q => hno k (by omega)) (lv_sub hl [1, 2, 3] rfl)
set_option maxHeartbeats 4000000 in
set_option maxRecDepth 100000 in
/-- X8_clashesWithin: the loop at 2 -/
theorem lf_X8_cwO {p : Program} {l : Launch} {e : Env} {s : State} {m : MethodId} {args : Array Value} {below : List Frame} {meth : Method} {c : Code} {Q : State → Prop} {D : va_G} {cI cJ cZ cM : Nat} {h0 : Nat} {a : Nat → Nat} {iv : Nat → Int32} {av : Nat → Nat → Int32} {ma : Nat → Nat → Nat} {mv : Nat → Nat → Int32} {mso : Nat → Nat → Int64} {mrs : Nat → Nat → Int32} {n0 : Nat} {fM : Nat → Option Nat} {x1 : Int32} {H : Heap} (hx : p.tables.exec = Jvm.exec) (hb : c.code = cX8_clashesWithin) (hml : c.maxLocals = 6) (hts : ∀ w ∈ wsX8_clashesWithin, w.before args s = true) (hown : s.vm.findClass RX8 = some m.cls) (hG : GK D cI cJ cZ cM s) (hP : va_P D vwCl ([(h0, .inr (8, [.ref (a 1), .ref (a 2), .ref (a 3), .ref (a 4), .ref (a 5), .ref (a 6), .ref (a 7), .ref (a 8), .int (iv 0), .int (iv 1), .int (iv 2), .int (iv 3)])), (a 2, .inl (cM, 10, .inr (.inr (.inr (.inr fM)))))] ++ MG cI cJ ma mv mso mrs n0) H) (hn0 : n0 ≤ 10) (hfM : ∀ i, i < 10 → (i < n0 → fM i = some (ma i 0)) ∧ (n0 ≤ i → fM i = none)) (h_n : iv 0 = nI n0) (hrm : ∀ i, i < n0 → ∃ q, q ≤ 8 ∧ mv i 14 = nI q) :
    ∀ (k9 : Nat) (i_ : Nat), (i_ ≤ n0) → (∀ i, i < i_ → ∀ k, k < n0 → i < k → ¬ cwC x1 mv mrs i k) → n0 - i_ < k9 → ∀ (ls : Array Slot), lv_has ls 6 [(2, .int (nI i_)), (0, .ref h0), (1, .int x1)] → (∀  (ls : Array Slot), (∀ i, i < n0 → ∀ k, k < n0 → i < k → ¬ cwC x1 mv mrs i k) → lv_has ls 6 [(0, .ref h0), (1, .int x1)] → W p l e (headSpec wsX8_clashesWithin ({ frames := 2, cells := 0, slots := 0, locals := 45 } : Room)).room s m args below meth c H [] 0 0 Q (F0 m 87 ls [])) → (∀  (ls : Array Slot), (∃ i k, i < k ∧ k < n0 ∧ cwC x1 mv mrs i k) → lv_has ls 6 [(0, .ref h0)] → W p l e (headSpec wsX8_clashesWithin ({ frames := 2, cells := 0, slots := 0, locals := 45 } : Room)).room s m args below meth c H [] 0 0 Q (F0 m 73 ls [])) → W p l e (headSpec wsX8_clashesWithin ({ frames := 2, cells := 0, slots := 0, locals := 45 } : Room)).room s m args below meth c H [] 0 0 Q (F0 m 2 ls []) := by
  have hK := hG.1
  have hN := hG.2
  intro k9
  induction k9 with
  | zero => intro i_ hi hno hfu; exact absurd hfu (Nat.not_lt_zero _)
  | succ k9 ih =>
    intro i_ hi hno hfu ls hl kk0 kk1
    rcases Nat.lt_or_ge i_ n0 with hlt | hge
    · refine lv_iload_n hx hb dX8_clashesWithin_2 rfl (lv_at hl 0 rfl) ?_
      refine lv_aload_n hx hb dX8_clashesWithin_3 rfl (lv_at hl 1 rfl) ?_
      refine va_get (D := D) (ci := 8) (v := .int (iv 0)) (C := RX8) (T := TX8) (N := 12) hx hb hts (fun _ h9 => List.mem_cons_of_mem _ (List.mem_append_left _ (List.mem_append_left _ (List.mem_append_right _ h9)))) hown hK hP 0 rfl rfl 8 (by decide) (hts (.fieldLink RX8 69 "BuoyTender" "markCount" "I") (by decide +kernel)) (fun _ h9 => h9) rfl dX8_clashesWithin_4 ?_
      refine lv_topi (fun z_1 ez_1 => ?_)
      obtain rfl : z_1 = nI n0 := ez_1.trans h_n
      refine lv_icmp_ge (tgt := 87) hx hb dX8_clashesWithin_7 (by decide) (fun c_2 => absurd c_2 (nI_ge hlt (by omega))) (fun c_2 => ?_)
      refine lv_iload_n hx hb dX8_clashesWithin_10 rfl (lv_at hl 0 rfl) ?_
      refine lv_iconst (v := 1) hx hb dX8_clashesWithin_11 (by decide) ?_
      refine lv_iadd hx hb dX8_clashesWithin_12 ?_
      refine lv_topi (fun z_3 ez_3 => ?_)
      obtain rfl : z_3 = nI (i_ + 1) := ez_3.trans (nI_add i_ 1)
      refine lv_istore_n (lv' := [(3, .int (nI (i_ + 1))), (2, .int (nI i_)), (0, .ref h0), (1, .int x1)]) hx hb dX8_clashesWithin_13 rfl hl (by decide) rfl (fun ls hl => ?_)
      obtain ⟨sq_, hsq, esq⟩ := hrm i_ hlt
      have hPl := hP.part (cx := [(h0, .inr (8, [.ref (a 1), .ref (a 2), .ref (a 3), .ref (a 4), .ref (a 5), .ref (a 6), .ref (a 7), .ref (a 8), .int (iv 0), .int (iv 1), .int (iv 2), .int (iv 3)])), (a 2, .inl (cM, 10, .inr (.inr (.inr (.inr fM)))))]) [0, 1] rfl
      refine lf_X8_cwI (av := av) hx hb hml hts hown hG hPl hn0 hfM h_n hlt esq hsq (n0 + 1) (i_ + 1) (by omega) (by omega) (fun k q1 q2 => absurd q1 (by omega)) (by omega) _ (lv_sub hl [0, 1, 2, 3] rfl) (fun  ls e_4_0 hl => ?_) (fun  ls e_5_0 hl => ?_)
      · refine lv_iinc (v := nI (i_ + 1)) (lv' := [(2, .int (nI (i_ + 1))), (0, .ref h0), (1, .int x1)]) hx hb dX8_clashesWithin_81 hl (k := 0) rfl (nI_add i_ 1) (by decide) rfl (fun ls hl => ?_)
        refine lv_goto (tgt := 2) hx hb dX8_clashesWithin_84 (by decide) ?_
        exact ih (i_ + 1) (by omega) (lt_s hno e_4_0) (by omega) _ (lv_sub hl [0, 1, 2] rfl) kk0 kk1
      exact kk1  _ e_5_0 (lv_sub hl [0] rfl)
    · refine lv_iload_n hx hb dX8_clashesWithin_2 rfl (lv_at hl 0 rfl) ?_
      refine lv_aload_n hx hb dX8_clashesWithin_3 rfl (lv_at hl 1 rfl) ?_
      refine va_get (D := D) (ci := 8) (v := .int (iv 0)) (C := RX8) (T := TX8) (N := 12) hx hb hts (fun _ h9 => List.mem_cons_of_mem _ (List.mem_append_left _ (List.mem_append_left _ (List.mem_append_right _ h9)))) hown hK hP 0 rfl rfl 8 (by decide) (hts (.fieldLink RX8 69 "BuoyTender" "markCount" "I") (by decide +kernel)) (fun _ h9 => h9) rfl dX8_clashesWithin_4 ?_
      refine lv_topi (fun z_6 ez_6 => ?_)
      obtain rfl : z_6 = nI n0 := ez_6.trans h_n
      refine lv_icmp_ge (tgt := 87) hx hb dX8_clashesWithin_7 (by decide) (fun c_7 => ?_) (fun c_7 => absurd (nI_le hge (by omega)) c_7)
      exact kk0  _ (fun i q => hno i (by omega)) (lv_sub hl [1, 2] rfl)
set_option maxHeartbeats 4000000 in
set_option maxRecDepth 100000 in
/-- X8_clashesWithin -/
theorem kf_X8_clashesWithin (l : Launch) (D : va_G) (cI cJ cZ cM : Nat) (h0 : Nat) (a : Nat → Nat) (iv : Nat → Int32) (av : Nat → Nat → Int32) (ma : Nat → Nat → Nat) (mv : Nat → Nat → Int32) (mso : Nat → Nat → Int64) (mrs : Nat → Nat → Int32) (n0 : Nat) (fM : Nat → Option Nat) (hn0 : n0 ≤ 10) (hfM : ∀ i, i < 10 → (i < n0 → fM i = some (ma i 0)) ∧ (n0 ≤ i → fM i = none)) (h_n : iv 0 = nI n0) (hrm : ∀ i, i < n0 → ∃ q, q ≤ 8 ∧ mv i 14 = nI q) (x1 : Int32) : Met l yX8_clashesWithin wsX8_clashesWithin ({ frames := 2, cells := 0, slots := 0, locals := 45 } : Room) (RO D cI cJ cZ cM [.ref h0, .int x1] ([(h0, .inr (8, [.ref (a 1), .ref (a 2), .ref (a 3), .ref (a 4), .ref (a 5), .ref (a 6), .ref (a 7), .ref (a 8), .int (iv 0), .int (iv 1), .int (iv 2), .int (iv 3)])), (a 2, .inl (cM, 10, .inr (.inr (.inr (.inr fM)))))] ++ MG cI cJ ma mv mso mrs n0)) (vp_Si (fun r => okI 1 0 (∃ i k, i < k ∧ k < n0 ∧ cwC x1 mv mrs i k) r)) 0 0 (fun _ => False) := by
  refine Met.ofW (cc := cX8_clashesWithin) (maxL := 6) (ret := (some .boolean)) (by decide) rfl ?_
  intro p e s m args below meth c s₁ B hml hv
  obtain ⟨rfl, hG, hP⟩ := hv
  have hx := B.exec
  have hb := B.bytes
  have hr := B.returns
  have hts := atoms_spec (ws := wsX8_clashesWithin) B.pre
  have hown : s.vm.findClass RX8 = some m.cls := findClass_of_methodNamed B.named
  have hlocks := B.notSynchronized
  have hK := hG.1
  have hN := hG.2
  have hl := lv_entry ([.ref h0, .int x1]) (n := 6) (Nat.le_of_ble_eq_true rfl)
  rw [lg_entry_eq]
  generalize (lg_sl ([.ref h0, .int x1]) ++ List.replicate (6 - (lg_sl ([.ref h0, .int x1])).length) Slot.unset).toArray = ls at hl ⊢
  have hl : lv_has ls 6 [(0, .ref h0), (1, .int x1)] := hl
  refine lv_iconst (v := 0) hx hb dX8_clashesWithin_0 (by decide) ?_
  refine lv_istore_n (lv' := [(2, .int 0), (0, .ref h0), (1, .int x1)]) hx hb dX8_clashesWithin_1 rfl hl (by decide) rfl (fun ls hl => ?_)
  have hPl := hP.part (cx := [(h0, .inr (8, [.ref (a 1), .ref (a 2), .ref (a 3), .ref (a 4), .ref (a 5), .ref (a 6), .ref (a 7), .ref (a 8), .int (iv 0), .int (iv 1), .int (iv 2), .int (iv 3)])), (a 2, .inl (cM, 10, .inr (.inr (.inr (.inr fM)))))]) [0, 1] rfl
  refine lf_X8_cwO (av := av) hx hb hml hts hown hG hPl hn0 hfM h_n hrm (n0 + 1) 0 (Nat.zero_le _) lt_0 (by omega) _ (lv_sub hl [0, 1, 2] rfl) (fun  ls e_1_0 hl => ?_) (fun  ls e_2_0 hl => ?_)
  · refine lv_iconst (v := 0) hx hb dX8_clashesWithin_87 (by decide) ?_
    exact W.zret (v := 0) hx hb hr rfl (fun t ht hW => ⟨0, rfl, (Or.inr ⟨rfl, fun ⟨i, k, q1, q2, q3⟩ => e_1_0 i (by omega) k q2 q1 q3⟩), ht⟩) (fun _ h => by cases h) dX8_clashesWithin_88
  refine lv_iconst (v := 1) hx hb dX8_clashesWithin_73 (by decide) ?_
  exact W.zret (v := 1) hx hb hr rfl (fun t ht hW => ⟨1, rfl, (Or.inl ⟨rfl, e_2_0⟩), ht⟩) (fun _ h => by cases h) dX8_clashesWithin_74
