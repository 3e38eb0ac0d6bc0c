def okM (n0 : Nat) (mi : Nat → Int32) (mav : Nat → Nat → Int32) (S m : Nat) : Prop := m < n0 ∧ ¬ (mav 23) m = 0 ∧ S.testBit m = false ∧ ¬ mi 29 < (mav 41) (S ||| 2 ^ m)
theorem wayN_le {n0 : Nat} {mi : Nat → Int32} {mav : Nat → Nat → Int32} {px py pm : Nat → Nat} {sx sy pc lst : Nat} (hmp : MPok n0 mi mav px py pm sx sy pc lst) (a b : Option Nat) (ha : ∀ i, a = some i → i < n0) (hb : ∀ i, b = some i → i < n0) : wayN px py sx sy pc a b ≤ 2340 := by
  obtain ⟨hn0, h_n, h_sx, h_sy, h_pc, h_la, b_sx, b_sy, b_pc, b_la, h_mk⟩ := hmp
  have q1 : ∀ o : Option Nat, (∀ i, o = some i → i < n0) → xo px sx o ≤ 39 := fun o h => by
    cases o with
    | none => exact b_sx
    | some i => exact (h_mk i (h i rfl)).2.2.2.1
  have q2 : ∀ o : Option Nat, (∀ i, o = some i → i < n0) → xo py sy o ≤ 39 := fun o h => by
    cases o with
    | none => exact b_sy
    | some i => exact (h_mk i (h i rfl)).2.2.2.2.1
  have e1 := ad_le (q1 a ha) (q1 b hb)
  have e2 := ad_le (q2 a ha) (q2 b hb)
  unfold wayN
  have e3 : max (ad (xo px sx a) (xo px sx b)) (ad (xo py sy a) (xo py sy b)) ≤ 39 := by omega
  exact Nat.le_trans (Nat.mul_le_mul b_pc e3) (by decide)
set_option maxHeartbeats 4000000 in
set_option maxRecDepth 100000 in
/-- when a mark is done, if it comes next -/
theorem k_X9_does (l : Launch) (D : va_G) (cI cJ cZ cM : Nat) (h0 : Nat) (n : Nat → Nat) (mi : Nat → Int32) (mq : Nat → Int32) (mav : Nat → Nat → Int32) (n0 : Nat) (px : Nat → Nat) (py : Nat → Nat) (pm : Nat → Nat) (sx : Nat) (sy : Nat) (pc : Nat) (lst : Nat) (hmp : MPok n0 mi mav px py pm sx sy pc lst) (S : Nat) (hS : S < 2 ^ n0) (a : Option Nat) (ha_a : ∀ i, a = some i → i < n0) (t : Nat) (ht_ : t ≤ 1440) (k : Nat) (hk : k < n0) : Met l yX9_does wsX9_does ({ frames := 2, cells := 0, slots := 0, locals := 45 } : Room) (RO D cI cJ cZ cM [.ref h0, .int (nI S), .int (encO a), .int (nI t), .int (nI k)] [(h0, .inr (9, [.ref (n 0), .int (mi 1), .ref (n 2), .ref (n 3), .ref (n 4), .ref (n 5), .ref (n 6), .int (mi 7), .ref (n 8), .ref (n 9), .ref (n 10), .ref (n 11), .ref (n 12), .ref (n 13), .ref (n 14), .int (mi 15), .int (mi 16), .ref (n 17), .ref (n 18), .ref (n 19), .ref (n 20), .ref (n 21), .ref (n 22), .ref (n 23), .ref (n 24), .ref (n 25), .int (mi 26), .int (mi 27), .int (mi 28), .int (mi 29), .int (mi 30), .int (mi 31), .int (mi 32), .int (mi 33), .ref (n 34), .ref (n 35), .int (mq 36), .int (mq 37), .int (mq 38), .ref (n 39), .ref (n 40), .ref (n 41), .ref (n 42), .int (mq 43), .int (mq 44), .int (mq 45)])), (n 0, .inl (cI, 1600, .inl (mav 0))), (n 2, .inl (cI, 10, .inl (mav 2))), (n 3, .inl (cI, 10, .inl (mav 3))), (n 21, .inl (cI, 10, .inl (mav 21))), (n 23, .inl (cI, 10, .inl (mav 23))), (n 24, .inl (cI, 24, .inl (mav 24))), (n 25, .inl (cI, 24, .inl (mav 25))), (n 41, .inl (cI, 1024, .inl (mav 41)))]) (vp_Si (fun r => r = encO ((dzF (okM n0 mi mav) (opM_ mi mav px py) (fun a m => wayN px py sx sy pc a (some m)) pm lst) S a t k))) 0 0 (fun _ => False) := by
  refine Met.ofW (cc := cX9_does) (maxL := 6) (ret := (some .int)) (by decide) rfl ?_
  intro p e s m args below meth c s₁ B hml hv
  obtain ⟨rfl, hG, hP⟩ := hv
  have hx := B.exec
  have hb := B.bytes
  have hr := B.returns
  have hts := atoms_spec (ws := wsX9_does) B.pre
  have hown : s.vm.findClass RX9 = some m.cls := findClass_of_methodNamed B.named
  have hlocks := B.notSynchronized
  have hK := hG.1
  have hN := hG.2
  have hl := lv_entry ([.ref h0, .int (nI S), .int (encO a), .int (nI t), .int (nI k)]) (n := 6) (Nat.le_of_ble_eq_true rfl)
  rw [lg_entry_eq]
  generalize (lg_sl ([.ref h0, .int (nI S), .int (encO a), .int (nI t), .int (nI k)]) ++ List.replicate (6 - (lg_sl ([.ref h0, .int (nI S), .int (encO a), .int (nI t), .int (nI k)])).length) Slot.unset).toArray = ls at hl ⊢
  have hl : lv_has ls 6 [(0, .ref h0), (1, .int (nI S)), (2, .int (encO a)), (3, .int (nI t)), (4, .int (nI k))] := hl
  obtain ⟨hn0, h_n, h_sx, h_sy, h_pc, h_la, b_sx, b_sy, b_pc, b_la, h_mk⟩ := id hmp
  obtain ⟨hx_k, hy_k, hm_k, bx_k, by_k, bm_k⟩ := h_mk k hk
  have hp10 : 2 ^ n0 ≤ 1024 := Nat.pow_le_pow_right (n := 2) (by decide) hn0
  have hor := or_lt hS hk
  refine lv_aload_n hx hb dX9_does_0 rfl (lv_at hl 0 rfl) ?_
  refine va_get (D := D) (ci := 9) (v := .ref (n 23)) (C := RX9) (T := TX9) (N := 46) hx hb hts (fun _ h9 => List.mem_cons_of_mem _ (List.mem_append_right _ h9)) hown hK hP 0 rfl rfl 23 (by decide) (hts (.fieldLink RX9 68 "BuoyTenderModel" "weight" "[I") (by decide +kernel)) (fun _ h9 => h9) rfl dX9_does_1 ?_
  refine lv_iload hx hb dX9_does_4 (lv_at hl 4 rfl) ?_
  refine va_iald hx hb hK hP 5 0 rfl rfl (vp_in_nI (by omega) (by decide)) dX9_does_6 ?_
  refine lv_topi (fun z_1 ez_1 => ?_)
  obtain rfl : z_1 = (mav 23) k := ez_1.trans (congrArg (mav 23) (nI_clamp (by omega)))
  refine lv_if_eq (tgt := 38) hx hb dX9_does_7 (by decide) (fun c_2 => ?_) (fun c_2 => ?_)
  · refine lv_iconst (v := (-1)) hx hb dX9_does_38 (by decide) ?_
    exact W.iret (v := (-1)) hx hb hr (fun t ht hW => ⟨(-1), rfl, (by rw [dzF_no1 (fun q => q.2.1 c_2)]; rfl), ht⟩) (fun _ h => by cases h) dX9_does_39
  refine lv_iload_n hx hb dX9_does_10 rfl (lv_at hl 1 rfl) ?_
  refine lv_iload hx hb dX9_does_11 (lv_at hl 4 rfl) ?_
  refine lv_ishr hx hb dX9_does_13 ?_
  refine lv_iconst (v := 1) hx hb dX9_does_14 (by decide) ?_
  refine lv_iand hx hb dX9_does_15 ?_
  refine lv_topi (fun z_3 ez_3 => ?_)
  obtain rfl : z_3 = nI (S / 2 ^ k % 2) := ez_3.trans (nx_bit2 (by omega) (by omega))
  refine lv_iconst (v := 1) hx hb dX9_does_16 (by decide) ?_
  refine lv_icmp_eq (tgt := 38) hx hb dX9_does_17 (by decide) (fun c_4 => ?_) (fun c_4 => ?_)
  · refine lv_iconst (v := (-1)) hx hb dX9_does_38 (by decide) ?_
    exact W.iret (v := (-1)) hx hb hr (fun t ht hW => ⟨(-1), rfl, (by rw [dzF_no1 (fun q => by have z := bit_t c_4; rw [q.2.2.1] at z; cases z)]; rfl), ht⟩) (fun _ h => by cases h) dX9_does_39
  refine lv_aload_n hx hb dX9_does_20 rfl (lv_at hl 0 rfl) ?_
  refine va_get (D := D) (ci := 9) (v := .ref (n 41)) (C := RX9) (T := TX9) (N := 46) hx hb hts (fun _ h9 => List.mem_cons_of_mem _ (List.mem_append_right _ h9)) hown hK hP 0 rfl rfl 41 (by decide) (hts (.fieldLink RX9 99 "BuoyTenderModel" "loadOf" "[I") (by decide +kernel)) (fun _ h9 => h9) rfl dX9_does_21 ?_
  refine lv_iload_n hx hb dX9_does_24 rfl (lv_at hl 1 rfl) ?_
  refine lv_iconst (v := 1) hx hb dX9_does_25 (by decide) ?_
  refine lv_iload hx hb dX9_does_26 (lv_at hl 4 rfl) ?_
  refine lv_ishl hx hb dX9_does_28 ?_
  refine lv_topi (fun z_5 ez_5 => ?_)
  obtain rfl : z_5 = nI (2 ^ k) := ez_5.trans (nx_shl1 (by omega))
  refine lv_ior hx hb dX9_does_29 ?_
  refine lv_topi (fun z_6 ez_6 => ?_)
  obtain rfl : z_6 = nI (S ||| (2 ^ k)) := ez_6.trans (nx_or S (2 ^ k))
  refine va_iald hx hb hK hP 8 0 rfl rfl (vp_in_nI (by omega) (by decide)) dX9_does_30 ?_
  refine lv_topi (fun z_7 ez_7 => ?_)
  obtain rfl : z_7 = (mav 41) (S ||| (2 ^ k)) := ez_7.trans (congrArg (mav 41) (nI_clamp (by omega)))
  refine lv_aload_n hx hb dX9_does_31 rfl (lv_at hl 0 rfl) ?_
  refine va_get (D := D) (ci := 9) (v := .int (mi 29)) (C := RX9) (T := TX9) (N := 46) hx hb hts (fun _ h9 => List.mem_cons_of_mem _ (List.mem_append_right _ h9)) hown hK hP 0 rfl rfl 29 (by decide) (hts (.fieldLink RX9 155 "BuoyTenderModel" "carries" "I") (by decide +kernel)) (fun _ h9 => h9) rfl dX9_does_32 ?_
  refine lv_icmp_le (tgt := 40) hx hb dX9_does_35 (by decide) (fun c_8 => ?_) (fun c_8 => ?_)
  · refine lv_aload_n hx hb dX9_does_40 rfl (lv_at hl 0 rfl) ?_
    refine lv_iload hx hb dX9_does_41 (lv_at hl 4 rfl) ?_
    refine lv_iload_n hx hb dX9_does_43 rfl (lv_at hl 3 rfl) ?_
    refine lv_aload_n hx hb dX9_does_44 rfl (lv_at hl 0 rfl) ?_
    refine lv_iload_n hx hb dX9_does_45 rfl (lv_at hl 2 rfl) ?_
    refine lv_iload hx hb dX9_does_46 (lv_at hl 4 rfl) ?_
    have hPc := hP.sub (ws' := [(h0, .inr (9, [.ref (n 0), .int (mi 1), .ref (n 2), .ref (n 3), .ref (n 4), .ref (n 5), .ref (n 6), .int (mi 7), .ref (n 8), .ref (n 9), .ref (n 10), .ref (n 11), .ref (n 12), .ref (n 13), .ref (n 14), .int (mi 15), .int (mi 16), .ref (n 17), .ref (n 18), .ref (n 19), .ref (n 20), .ref (n 21), .ref (n 22), .ref (n 23), .ref (n 24), .ref (n 25), .int (mi 26), .int (mi 27), .int (mi 28), .int (mi 29), .int (mi 30), .int (mi 31), .int (mi 32), .int (mi 33), .ref (n 34), .ref (n 35), .int (mq 36), .int (mq 37), .int (mq 38), .ref (n 39), .ref (n 40), .ref (n 41), .ref (n 42), .int (mq 43), .int (mq 44), .int (mq 45)])), (n 2, .inl (cI, 10, .inl (mav 2))), (n 3, .inl (cI, 10, .inl (mav 3)))]) [0, 2, 3] rfl
    refine vp_callSi (va_Run.run (va_runV (As := [.int (encO a), .int (nI k)]) (rest := [.int (nI t), .int (nI k), .ref h0]) ⟨hx, hb, hml, hown, hts⟩ (k_X9_way l D cI cJ cZ cM h0 n mi mq mav n0 px py pm sx sy pc lst hmp a (some k) (by exact ha_a) (by intro i hi; cases hi; omega)) (cwV 2 hts gX9_does_X9_way rfl rfl rfl (by decide +kernel) ⟨Nat.le_of_ble_eq_true rfl, Nat.le_of_ble_eq_true rfl⟩) (ro_V hG hPc (va_recv hK hPc (ci := 9) (q0 := 0) rfl rfl)) rfl rfl hl.1 rfl (lv_room (Nat.le_of_ble_eq_true rfl)) dX9_does_48 ⟨Nat.le_of_ble_eq_true rfl, Nat.le_of_ble_eq_true rfl⟩)) (fun r_9 h_9 => ?_)
    obtain rfl : r_9 = nI (wayN px py sx sy pc a (some k)) := h_9
    refine lv_iadd hx hb dX9_does_51 ?_
    refine lv_topi (fun z_10 ez_10 => ?_)
    obtain rfl : z_10 = nI (t + (wayN px py sx sy pc a (some k))) := ez_10.trans (nI_add t (wayN px py sx sy pc a (some k)))
    have hPc := hP.sub (ws' := [(h0, .inr (9, [.ref (n 0), .int (mi 1), .ref (n 2), .ref (n 3), .ref (n 4), .ref (n 5), .ref (n 6), .int (mi 7), .ref (n 8), .ref (n 9), .ref (n 10), .ref (n 11), .ref (n 12), .ref (n 13), .ref (n 14), .int (mi 15), .int (mi 16), .ref (n 17), .ref (n 18), .ref (n 19), .ref (n 20), .ref (n 21), .ref (n 22), .ref (n 23), .ref (n 24), .ref (n 25), .int (mi 26), .int (mi 27), .int (mi 28), .int (mi 29), .int (mi 30), .int (mi 31), .int (mi 32), .int (mi 33), .ref (n 34), .ref (n 35), .int (mq 36), .int (mq 37), .int (mq 38), .ref (n 39), .ref (n 40), .ref (n 41), .ref (n 42), .int (mq 43), .int (mq 44), .int (mq 45)])), (n 0, .inl (cI, 1600, .inl (mav 0))), (n 2, .inl (cI, 10, .inl (mav 2))), (n 3, .inl (cI, 10, .inl (mav 3))), (n 24, .inl (cI, 24, .inl (mav 24))), (n 25, .inl (cI, 24, .inl (mav 25)))]) [0, 1, 2, 3, 6, 7] rfl
    refine vp_callSi (va_Run.run (va_runV (As := [.int (nI k), .int (nI (t + (wayN px py sx sy pc a (some k))))]) (rest := []) ⟨hx, hb, hml, hown, hts⟩ (k_X9_begins l D cI cJ cZ cM h0 n mi mq mav n0 px py pm sx sy pc lst hmp k (by omega) (t + (wayN px py sx sy pc a (some k))) (by have := wayN_le hmp a (some k) ha_a (fun i hi => by cases hi; omega); omega)) (cwV 2 hts gX9_does_X9_begins rfl rfl rfl (by decide +kernel) ⟨Nat.le_of_ble_eq_true rfl, Nat.le_of_ble_eq_true rfl⟩) (ro_V hG hPc (va_recv hK hPc (ci := 9) (q0 := 0) rfl rfl)) rfl rfl hl.1 rfl (lv_room (Nat.le_of_ble_eq_true rfl)) dX9_does_52 ⟨Nat.le_of_ble_eq_true rfl, Nat.le_of_ble_eq_true rfl⟩)) (fun r_11 h_11 => ?_)
    rcases Option.eq_none_or_eq_some (bgF (opM_ mi mav px py) k (t + (wayN px py sx sy pc a (some k)))) with hbg | ⟨b_11, hbg⟩
    · obtain rfl : r_11 = (-1) := h_11.trans (by rw [hbg]; rfl)
      refine lv_istore (lv' := [(5, .int (-1)), (0, .ref h0), (1, .int (nI S)), (2, .int (encO a)), (3, .int (nI t)), (4, .int (nI k))]) hx hb dX9_does_55 hl (by decide) rfl (fun ls hl => ?_)
      refine lv_iload hx hb dX9_does_57 (lv_at hl 0 rfl) ?_
      refine lv_if_lt (tgt := 79) hx hb dX9_does_59 (by decide) (fun _ => ?_) (fun c_12 => False.elim (by revert c_12; decide))
      refine lv_iconst (v := (-1)) hx hb dX9_does_79 (by decide) ?_
      refine lv_goto (tgt := 93) hx hb dX9_does_80 (by decide) ?_
      exact W.iret (v := (-1)) hx hb hr (fun t ht hW => ⟨(-1), rfl, (by rw [dzF_no2 ⟨hk, c_2, bit_f c_4, fun q => Int32.not_lt.mpr c_8 q⟩ hbg]; rfl), ht⟩) (fun _ h => by cases h) dX9_does_93
    obtain rfl : r_11 = nI b_11 := h_11.trans (by rw [hbg]; rfl)
    have hbl := bgF_lt hbg
    refine lv_istore (lv' := [(5, .int (nI b_11)), (0, .ref h0), (1, .int (nI S)), (2, .int (encO a)), (3, .int (nI t)), (4, .int (nI k))]) hx hb dX9_does_55 hl (by decide) rfl (fun ls hl => ?_)
    refine lv_iload hx hb dX9_does_57 (lv_at hl 0 rfl) ?_
    refine lv_if_lt (tgt := 79) hx hb dX9_does_59 (by decide) (fun c_13 => absurd c_13 (nI_pos (by omega))) (fun c_13 => ?_)
    refine lv_iload hx hb dX9_does_62 (lv_at hl 0 rfl) ?_
    refine lv_aload_n hx hb dX9_does_64 rfl (lv_at hl 1 rfl) ?_
    refine va_get (D := D) (ci := 9) (v := .ref (n 21)) (C := RX9) (T := TX9) (N := 46) hx hb hts (fun _ h9 => List.mem_cons_of_mem _ (List.mem_append_right _ h9)) hown hK hP 0 rfl rfl 21 (by decide) (hts (.fieldLink RX9 62 "BuoyTenderModel" "minutes" "[I") (by decide +kernel)) (fun _ h9 => h9) rfl dX9_does_65 ?_
    refine lv_iload hx hb dX9_does_68 (lv_at hl 5 rfl) ?_
    refine va_iald hx hb hK hP 4 0 rfl rfl (vp_in_nI (by omega) (by decide)) dX9_does_70 ?_
    refine lv_topi (fun z_14 ez_14 => ?_)
    obtain rfl : z_14 = (mav 21) k := ez_14.trans (congrArg (mav 21) (nI_clamp (by omega)))
    refine lv_topi (fun z_15 ez_15 => ?_)
    obtain rfl : z_15 = nI (pm k) := ez_15.trans hm_k
    refine lv_iadd hx hb dX9_does_71 ?_
    refine lv_topi (fun z_16 ez_16 => ?_)
    obtain rfl : z_16 = nI (b_11 + (pm k)) := ez_16.trans (nI_add b_11 (pm k))
    refine lv_aload_n hx hb dX9_does_72 rfl (lv_at hl 1 rfl) ?_
    refine va_get (D := D) (ci := 9) (v := .int (mi 33)) (C := RX9) (T := TX9) (N := 46) hx hb hts (fun _ h9 => List.mem_cons_of_mem _ (List.mem_append_right _ h9)) hown hK hP 0 rfl rfl 33 (by decide) (hts (.fieldLink RX9 84 "BuoyTenderModel" "last" "I") (by decide +kernel)) (fun _ h9 => h9) rfl dX9_does_73 ?_
    refine lv_topi (fun z_17 ez_17 => ?_)
    obtain rfl : z_17 = nI lst := ez_17.trans h_la
    refine lv_icmp_le (tgt := 83) hx hb dX9_does_76 (by decide) (fun c_18 => ?_) (fun c_18 => ?_)
    · refine lv_iload hx hb dX9_does_83 (lv_at hl 0 rfl) ?_
      refine lv_aload_n hx hb dX9_does_85 rfl (lv_at hl 1 rfl) ?_
      refine va_get (D := D) (ci := 9) (v := .ref (n 21)) (C := RX9) (T := TX9) (N := 46) hx hb hts (fun _ h9 => List.mem_cons_of_mem _ (List.mem_append_right _ h9)) hown hK hP 0 rfl rfl 21 (by decide) (hts (.fieldLink RX9 62 "BuoyTenderModel" "minutes" "[I") (by decide +kernel)) (fun _ h9 => h9) rfl dX9_does_86 ?_
      refine lv_iload hx hb dX9_does_89 (lv_at hl 5 rfl) ?_
      refine va_iald hx hb hK hP 4 0 rfl rfl (vp_in_nI (by omega) (by decide)) dX9_does_91 ?_
      refine lv_topi (fun z_19 ez_19 => ?_)
      obtain rfl : z_19 = (mav 21) k := ez_19.trans (congrArg (mav 21) (nI_clamp (by omega)))
      refine lv_topi (fun z_20 ez_20 => ?_)
      obtain rfl : z_20 = nI (pm k) := ez_20.trans hm_k
      refine lv_iadd hx hb dX9_does_92 ?_
      refine lv_topi (fun z_21 ez_21 => ?_)
      obtain rfl : z_21 = nI (b_11 + (pm k)) := ez_21.trans (nI_add b_11 (pm k))
      exact W.iret (v := (nI (b_11 + (pm k)))) hx hb hr (fun t ht hW => ⟨(nI (b_11 + (pm k))), rfl, (by rw [dzF_is ⟨hk, c_2, bit_f c_4, fun q => Int32.not_lt.mpr c_8 q⟩ hbg ((nI_leI (by omega) (by omega)).mp c_18)]; rfl), ht⟩) (fun _ h => by cases h) dX9_does_93
    refine lv_iconst (v := (-1)) hx hb dX9_does_79 (by decide) ?_
    refine lv_goto (tgt := 93) hx hb dX9_does_80 (by decide) ?_
    exact W.iret (v := (-1)) hx hb hr (fun t ht hW => ⟨(-1), rfl, (by rw [dzF_no3 ⟨hk, c_2, bit_f c_4, fun q => Int32.not_lt.mpr c_8 q⟩ hbg (fun q => c_18 (nI_le q (by omega)))]; rfl), ht⟩) (fun _ h => by cases h) dX9_does_93
  refine lv_iconst (v := (-1)) hx hb dX9_does_38 (by decide) ?_
  exact W.iret (v := (-1)) hx hb hr (fun t ht hW => ⟨(-1), rfl, (by rw [dzF_no1 (fun q => q.2.2.2 (Int32.not_le.mp c_8))]; rfl), ht⟩) (fun _ h => by cases h) dX9_does_39
