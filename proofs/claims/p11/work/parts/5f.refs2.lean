set_option maxHeartbeats 4000000 in
set_option maxRecDepth 100000 in
/-- X9_lies: the loop at 30 -/
theorem lp_X9_lies {p : Program} {l : Launch} {e : Env} {s : State} {m : MethodId} {args : Array Value} {below : List Frame} {meth : Method} {c : Code} {Q : State → Prop} {D : va_G} {cI cJ cZ cM : Nat} {h0 : Nat} {n : Nat → Nat} {mi : Nat → Int32} {mq : Nat → Int32} {mav : Nat → Nat → Int32} {m_ : Nat} {x2 : Int32} {H : Heap} (hx : p.tables.exec = Jvm.exec) (hb : c.code = cX9_lies) (hml : c.maxLocals = 12) (hts : ∀ w ∈ wsX9_lies, w.before args s = true) (hown : s.vm.findClass RX9 = some m.cls) (hG : GK D cI cJ cZ cM s) (hP : va_P D vwCl [(h0, .inr (9, [.ref (n 0), .int (mi 1), .ref (n 2), .ref (n 3), .ref (n 4), .ref (n 5), .ref (n 6), .int (mi 7), .ref (n 8), .ref (n 9), .ref (n 10), .ref (n 11), .ref (n 12), .ref (n 13), .ref (n 14), .int (mi 15), .int (mi 16), .ref (n 17), .ref (n 18), .ref (n 19), .ref (n 20), .ref (n 21), .ref (n 22), .ref (n 23), .ref (n 24), .ref (n 25), .int (mi 26), .int (mi 27), .int (mi 28), .int (mi 29), .int (mi 30), .int (mi 31), .int (mi 32), .int (mi 33), .ref (n 34), .ref (n 35), .int (mq 36), .int (mq 37), .int (mq 38), .ref (n 39), .ref (n 40), .ref (n 41), .ref (n 42), .int (mq 43), .int (mq 44), .int (mq 45)])), (n 2, .inl (cI, 10, .inl (mav 2))), (n 3, .inl (cI, 10, .inl (mav 3))), (n 4, .inl (cI, 10, .inl (mav 4))), (n 5, .inl (cZ, 16000, .inl (mav 5))), (n 6, .inl (cZ, 10, .inl (mav 6)))] H) (hm_ : m_ < 10) :
    ∀ (k9 : Nat) (k_ : Nat) (z3 : Int32) (z4 : Int32) (z5 : Int32) (z6 : Int32) (z7 : Int32) (z8 : Int32), (k_ ≤ 1600) → 1600 - k_ < k9 → ∀ (ls : Array Slot), lv_has ls 12 [(9, .int (nI k_)), (3, .int z3), (4, .int z4), (5, .int z5), (6, .int z6), (7, .int z7), (8, .int z8), (0, .ref h0), (1, .int (nI m_)), (2, .int x2)] → (∀ (z3 : Int32) (z4 : Int32) (z5 : Int32) (z6 : Int32) (z7 : Int32) (z8 : Int32) (ls : Array Slot), lv_has ls 12 [(3, .int z3), (4, .int z4), (5, .int z5), (6, .int z6), (7, .int z7), (8, .int z8), (0, .ref h0), (1, .int (nI m_)), (2, .int x2)] → W p l e (headSpec wsX9_lies ({ frames := 2, cells := 0, slots := 0, locals := 43 } : Room)).room s m args below meth c H [] 0 0 Q (F0 m 182 ls [])) → W p l e (headSpec wsX9_lies ({ frames := 2, cells := 0, slots := 0, locals := 43 } : Room)).room s m args below meth c H [] 0 0 Q (F0 m 30 ls []) := by
  have hK := hG.1
  have hN := hG.2
  intro k9
  induction k9 with
  | zero => intro k_ z3 z4 z5 z6 z7 z8 hk hfu; exact absurd hfu (Nat.not_lt_zero _)
  | succ k9 ih =>
    intro k_ z3 z4 z5 z6 z7 z8 hk hfu ls hl kk0
    rcases Nat.lt_or_ge k_ 1600 with hlt | hge
    · refine lv_iload hx hb dX9_lies_30 (lv_at hl 0 rfl) ?_
      refine lv_sipush (v := 1600) hx hb dX9_lies_32 (by decide) ?_
      refine lv_icmp_ge (tgt := 182) hx hb dX9_lies_35 (by decide) (fun c_1 => absurd c_1 (nI_ge hlt (by decide))) (fun c_1 => ?_)
      refine lv_aload_n hx hb dX9_lies_38 rfl (lv_at hl 7 rfl) ?_
      refine va_get (D := D) (ci := 9) (v := .ref (n 5)) (C := RX9) (T := TX9) (N := 46) hx hb hts (fun _ h9 => List.mem_cons_of_mem _ (List.mem_append_right _ h9)) hown hK hP 0 rfl rfl 5 (by decide) (hts (.fieldLink RX9 22 "BuoyTenderModel" "isOut" "[Z") (by decide +kernel)) (fun _ h9 => h9) rfl dX9_lies_39 ?_
      refine lv_sipush (v := 1600) hx hb dX9_lies_42 (by decide) ?_
      refine lv_iload_n hx hb dX9_lies_45 rfl (lv_at hl 8 rfl) ?_
      refine lv_imul hx hb dX9_lies_46 ?_
      refine lv_topi (fun z_2 ez_2 => ?_)
      obtain rfl : z_2 = nI (1600 * m_) := ez_2.trans (pk_mul 1600 m_)
      refine lv_iload hx hb dX9_lies_47 (lv_at hl 0 rfl) ?_
      refine lv_iadd hx hb dX9_lies_49 ?_
      refine lv_topi (fun z_3 ez_3 => ?_)
      obtain rfl : z_3 = nI ((1600 * m_) + k_) := ez_3.trans (nI_add (1600 * m_) k_)
      refine va_zald hx hb hK hP 4 2 rfl rfl (vp_in_nI (by omega) (by decide)) dX9_lies_50 ?_
      refine lv_topi (fun z_4 ez_4 => ?_)
      obtain rfl : z_4 = (mav 5) ((1600 * m_) + k_) := ez_4.trans (congrArg (mav 5) (nI_clamp (by omega)))
      refine lv_if_eq (tgt := 57) hx hb dX9_lies_51 (by decide) (fun c_5 => ?_) (fun c_5 => ?_)
      · refine lv_iload hx hb dX9_lies_57 (lv_at hl 0 rfl) ?_
        refine lv_bipush (v := 40) hx hb dX9_lies_59 (by decide) ?_
        refine lv_idiv hx hb dX9_lies_61 (by decide) ?_
        refine lv_topi (fun z_6 ez_6 => ?_)
        obtain rfl : z_6 = nI (k_ / 40) := ez_6.trans (pk_div (by omega) (by decide) (by decide))
        refine lv_istore (lv' := [(10, .int (nI (k_ / 40))), (9, .int (nI k_)), (3, .int z3), (4, .int z4), (5, .int z5), (6, .int z6), (7, .int z7), (8, .int z8), (0, .ref h0), (1, .int (nI m_)), (2, .int x2)]) hx hb dX9_lies_62 hl (by decide) rfl (fun ls hl => ?_)
        refine lv_iload hx hb dX9_lies_64 (lv_at hl 1 rfl) ?_
        refine lv_bipush (v := 40) hx hb dX9_lies_66 (by decide) ?_
        refine lv_irem hx hb dX9_lies_68 (by decide) ?_
        refine lv_topi (fun z_7 ez_7 => ?_)
        obtain rfl : z_7 = nI (k_ % 40) := ez_7.trans (pk_rem (by omega) (by decide) (by decide))
        refine lv_istore (lv' := [(11, .int (nI (k_ % 40))), (10, .int (nI (k_ / 40))), (9, .int (nI k_)), (3, .int z3), (4, .int z4), (5, .int z5), (6, .int z6), (7, .int z7), (8, .int z8), (0, .ref h0), (1, .int (nI m_)), (2, .int x2)]) hx hb dX9_lies_69 hl (by decide) rfl (fun ls hl => ?_)
        refine lv_iinc (v := (z3 + 1)) (lv' := [(3, .int (z3 + 1)), (11, .int (nI (k_ % 40))), (10, .int (nI (k_ / 40))), (9, .int (nI k_)), (4, .int z4), (5, .int z5), (6, .int z6), (7, .int z7), (8, .int z8), (0, .ref h0), (1, .int (nI m_)), (2, .int x2)]) hx hb dX9_lies_71 hl (k := 3) rfl rfl (by decide) rfl (fun ls hl => ?_)
        refine lv_iload hx hb dX9_lies_74 (lv_at hl 4 rfl) ?_
        refine lv_iload hx hb dX9_lies_76 (lv_at hl 2 rfl) ?_
        refine lv_aload_n hx hb dX9_lies_78 rfl (lv_at hl 9 rfl) ?_
        refine va_get (D := D) (ci := 9) (v := .ref (n 2)) (C := RX9) (T := TX9) (N := 46) hx hb hts (fun _ h9 => List.mem_cons_of_mem _ (List.mem_append_right _ h9)) hown hK hP 0 rfl rfl 2 (by decide) (hts (.fieldLink RX9 13 "BuoyTenderModel" "stationX" "[I") (by decide +kernel)) (fun _ h9 => h9) rfl dX9_lies_79 ?_
        refine lv_iload_n hx hb dX9_lies_82 rfl (lv_at hl 10 rfl) ?_
        refine va_iald hx hb hK hP 1 0 rfl rfl (vp_in_nI (by omega) (by decide)) dX9_lies_83 ?_
        refine lv_topi (fun z_9 ez_9 => ?_)
        obtain rfl : z_9 = (mav 2) m_ := ez_9.trans (congrArg (mav 2) (nI_clamp (by omega)))
        refine lv_isub hx hb dX9_lies_84 ?_
        refine lv_iload hx hb dX9_lies_85 (lv_at hl 1 rfl) ?_
        refine lv_aload_n hx hb dX9_lies_87 rfl (lv_at hl 9 rfl) ?_
        refine va_get (D := D) (ci := 9) (v := .ref (n 3)) (C := RX9) (T := TX9) (N := 46) hx hb hts (fun _ h9 => List.mem_cons_of_mem _ (List.mem_append_right _ h9)) hown hK hP 0 rfl rfl 3 (by decide) (hts (.fieldLink RX9 16 "BuoyTenderModel" "stationY" "[I") (by decide +kernel)) (fun _ h9 => h9) rfl dX9_lies_88 ?_
        refine lv_iload_n hx hb dX9_lies_91 rfl (lv_at hl 10 rfl) ?_
        refine va_iald hx hb hK hP 2 0 rfl rfl (vp_in_nI (by omega) (by decide)) dX9_lies_92 ?_
        refine lv_topi (fun z_10 ez_10 => ?_)
        obtain rfl : z_10 = (mav 3) m_ := ez_10.trans (congrArg (mav 3) (nI_clamp (by omega)))
        refine lv_isub hx hb dX9_lies_93 ?_
        refine vp_callSi (va_Run.run (va_runS (As := [.int ((nI (k_ / 40)) - ((mav 2) m_)), .int ((nI (k_ % 40)) - ((mav 3) m_))]) (rest := [.int z4]) ⟨hx, hb, hml, hown, hts⟩ (k_X9_square l ((nI (k_ / 40)) - ((mav 2) m_)) ((nI (k_ % 40)) - ((mav 3) m_))) (va_cwS 2 hts gX9_lies_X9_square rfl rfl rfl (by decide +kernel) ⟨Nat.le_of_ble_eq_true rfl, Nat.le_of_ble_eq_true rfl⟩) preEq rfl rfl hl.1 rfl (lv_room (Nat.le_of_ble_eq_true rfl)) dX9_lies_94 ⟨Nat.le_of_ble_eq_true rfl, Nat.le_of_ble_eq_true rfl⟩)) (fun r_11 h_11 => ?_)
        obtain rfl : r_11 = ((nI (k_ / 40)) - ((mav 2) m_)) * ((nI (k_ / 40)) - ((mav 2) m_)) + ((nI (k_ % 40)) - ((mav 3) m_)) * ((nI (k_ % 40)) - ((mav 3) m_)) := h_11
        refine lv_aload_n hx hb dX9_lies_97 rfl (lv_at hl 9 rfl) ?_
        refine va_get (D := D) (ci := 9) (v := .ref (n 4)) (C := RX9) (T := TX9) (N := 46) hx hb hts (fun _ h9 => List.mem_cons_of_mem _ (List.mem_append_right _ h9)) hown hK hP 0 rfl rfl 4 (by decide) (hts (.fieldLink RX9 19 "BuoyTenderModel" "radius" "[I") (by decide +kernel)) (fun _ h9 => h9) rfl dX9_lies_98 ?_
        refine lv_iload_n hx hb dX9_lies_101 rfl (lv_at hl 10 rfl) ?_
        refine va_iald hx hb hK hP 3 0 rfl rfl (vp_in_nI (by omega) (by decide)) dX9_lies_102 ?_
        refine lv_topi (fun z_12 ez_12 => ?_)
        obtain rfl : z_12 = (mav 4) m_ := ez_12.trans (congrArg (mav 4) (nI_clamp (by omega)))
        refine lv_aload_n hx hb dX9_lies_103 rfl (lv_at hl 9 rfl) ?_
        refine va_get (D := D) (ci := 9) (v := .ref (n 4)) (C := RX9) (T := TX9) (N := 46) hx hb hts (fun _ h9 => List.mem_cons_of_mem _ (List.mem_append_right _ h9)) hown hK hP 0 rfl rfl 4 (by decide) (hts (.fieldLink RX9 19 "BuoyTenderModel" "radius" "[I") (by decide +kernel)) (fun _ h9 => h9) rfl dX9_lies_104 ?_
        refine lv_iload_n hx hb dX9_lies_107 rfl (lv_at hl 10 rfl) ?_
        refine va_iald hx hb hK hP 3 0 rfl rfl (vp_in_nI (by omega) (by decide)) dX9_lies_108 ?_
        refine lv_topi (fun z_13 ez_13 => ?_)
        obtain rfl : z_13 = (mav 4) m_ := ez_13.trans (congrArg (mav 4) (nI_clamp (by omega)))
        refine lv_imul hx hb dX9_lies_109 ?_
        refine lv_icmp_gt (tgt := 117) hx hb dX9_lies_110 (by decide) (fun c_14 => ?_) (fun c_14 => ?_)
        · refine lv_iconst (v := 0) hx hb dX9_lies_117 (by decide) ?_
          refine lv_iadd hx hb dX9_lies_118 ?_
          refine lv_istore (lv' := [(4, .int (z4 + 0)), (3, .int (z3 + 1)), (11, .int (nI (k_ % 40))), (10, .int (nI (k_ / 40))), (9, .int (nI k_)), (5, .int z5), (6, .int z6), (7, .int z7), (8, .int z8), (0, .ref h0), (1, .int (nI m_)), (2, .int x2)]) hx hb dX9_lies_119 hl (by decide) rfl (fun ls hl => ?_)
          refine lv_iload hx hb dX9_lies_121 (lv_at hl 5 rfl) ?_
          refine lv_if_ge (tgt := 131) hx hb dX9_lies_123 (by decide) (fun c_15 => ?_) (fun c_15 => ?_)
          · refine lv_iload hx hb dX9_lies_131 (lv_at hl 5 rfl) ?_
            refine lv_istore (lv' := [(5, .int z5), (4, .int (z4 + 0)), (3, .int (z3 + 1)), (11, .int (nI (k_ % 40))), (10, .int (nI (k_ / 40))), (9, .int (nI k_)), (6, .int z6), (7, .int z7), (8, .int z8), (0, .ref h0), (1, .int (nI m_)), (2, .int x2)]) hx hb dX9_lies_133 hl (by decide) rfl (fun ls hl => ?_)
            refine lv_iload hx hb dX9_lies_135 (lv_at hl 4 rfl) ?_
            refine lv_istore (lv' := [(7, .int (nI (k_ / 40))), (5, .int z5), (4, .int (z4 + 0)), (3, .int (z3 + 1)), (11, .int (nI (k_ % 40))), (10, .int (nI (k_ / 40))), (9, .int (nI k_)), (6, .int z6), (8, .int z8), (0, .ref h0), (1, .int (nI m_)), (2, .int x2)]) hx hb dX9_lies_137 hl (by decide) rfl (fun ls hl => ?_)
            refine lv_iload hx hb dX9_lies_139 (lv_at hl 7 rfl) ?_
            refine lv_if_lt (tgt := 151) hx hb dX9_lies_141 (by decide) (fun c_16 => ?_) (fun c_16 => ?_)
            · refine lv_iload hx hb dX9_lies_151 (lv_at hl 4 rfl) ?_
              refine lv_goto (tgt := 158) hx hb dX9_lies_153 (by decide) ?_
              refine lv_istore (lv' := [(6, .int (nI (k_ % 40))), (7, .int (nI (k_ / 40))), (5, .int z5), (4, .int (z4 + 0)), (3, .int (z3 + 1)), (11, .int (nI (k_ % 40))), (10, .int (nI (k_ / 40))), (9, .int (nI k_)), (8, .int z8), (0, .ref h0), (1, .int (nI m_)), (2, .int x2)]) hx hb dX9_lies_158 hl (by decide) rfl (fun ls hl => ?_)
              refine lv_iload hx hb dX9_lies_160 (lv_at hl 5 rfl) ?_
              refine lv_iload hx hb dX9_lies_162 (lv_at hl 8 rfl) ?_
              refine lv_icmp_le (tgt := 172) hx hb dX9_lies_164 (by decide) (fun c_17 => ?_) (fun c_17 => ?_)
              · refine lv_iload hx hb dX9_lies_172 (lv_at hl 8 rfl) ?_
                refine lv_istore (lv' := [(8, .int z8), (6, .int (nI (k_ % 40))), (7, .int (nI (k_ / 40))), (5, .int z5), (4, .int (z4 + 0)), (3, .int (z3 + 1)), (11, .int (nI (k_ % 40))), (10, .int (nI (k_ / 40))), (9, .int (nI k_)), (0, .ref h0), (1, .int (nI m_)), (2, .int x2)]) hx hb dX9_lies_174 hl (by decide) rfl (fun ls hl => ?_)
                refine lv_iinc (v := nI (k_ + 1)) (lv' := [(9, .int (nI (k_ + 1))), (8, .int z8), (6, .int (nI (k_ % 40))), (7, .int (nI (k_ / 40))), (5, .int z5), (4, .int (z4 + 0)), (3, .int (z3 + 1)), (11, .int (nI (k_ % 40))), (10, .int (nI (k_ / 40))), (0, .ref h0), (1, .int (nI m_)), (2, .int x2)]) hx hb dX9_lies_176 hl (k := 8) rfl (nI_add k_ 1) (by decide) rfl (fun ls hl => ?_)
                refine lv_goto (tgt := 30) hx hb dX9_lies_179 (by decide) ?_
                exact ih (k_ + 1) (z3 + 1) (z4 + 0) z5 (nI (k_ % 40)) (nI (k_ / 40)) z8 (by omega) (by omega) _ (lv_sub hl [0, 6, 5, 4, 2, 3, 1, 9, 10, 11] rfl) kk0
              refine lv_iload hx hb dX9_lies_167 (lv_at hl 5 rfl) ?_
              refine lv_goto (tgt := 174) hx hb dX9_lies_169 (by decide) ?_
              refine lv_istore (lv' := [(8, .int (nI (k_ % 40))), (6, .int (nI (k_ % 40))), (7, .int (nI (k_ / 40))), (5, .int z5), (4, .int (z4 + 0)), (3, .int (z3 + 1)), (11, .int (nI (k_ % 40))), (10, .int (nI (k_ / 40))), (9, .int (nI k_)), (0, .ref h0), (1, .int (nI m_)), (2, .int x2)]) hx hb dX9_lies_174 hl (by decide) rfl (fun ls hl => ?_)
              refine lv_iinc (v := nI (k_ + 1)) (lv' := [(9, .int (nI (k_ + 1))), (8, .int (nI (k_ % 40))), (6, .int (nI (k_ % 40))), (7, .int (nI (k_ / 40))), (5, .int z5), (4, .int (z4 + 0)), (3, .int (z3 + 1)), (11, .int (nI (k_ % 40))), (10, .int (nI (k_ / 40))), (0, .ref h0), (1, .int (nI m_)), (2, .int x2)]) hx hb dX9_lies_176 hl (k := 8) rfl (nI_add k_ 1) (by decide) rfl (fun ls hl => ?_)
              refine lv_goto (tgt := 30) hx hb dX9_lies_179 (by decide) ?_
              exact ih (k_ + 1) (z3 + 1) (z4 + 0) z5 (nI (k_ % 40)) (nI (k_ / 40)) (nI (k_ % 40)) (by omega) (by omega) _ (lv_sub hl [0, 6, 5, 4, 2, 3, 1, 9, 10, 11] rfl) kk0
            refine lv_iload hx hb dX9_lies_144 (lv_at hl 4 rfl) ?_
            refine lv_iload hx hb dX9_lies_146 (lv_at hl 7 rfl) ?_
            refine lv_icmp_ge (tgt := 156) hx hb dX9_lies_148 (by decide) (fun c_18 => ?_) (fun c_18 => ?_)
            · refine lv_iload hx hb dX9_lies_156 (lv_at hl 7 rfl) ?_
              refine lv_istore (lv' := [(6, .int z6), (7, .int (nI (k_ / 40))), (5, .int z5), (4, .int (z4 + 0)), (3, .int (z3 + 1)), (11, .int (nI (k_ % 40))), (10, .int (nI (k_ / 40))), (9, .int (nI k_)), (8, .int z8), (0, .ref h0), (1, .int (nI m_)), (2, .int x2)]) hx hb dX9_lies_158 hl (by decide) rfl (fun ls hl => ?_)
              refine lv_iload hx hb dX9_lies_160 (lv_at hl 5 rfl) ?_
              refine lv_iload hx hb dX9_lies_162 (lv_at hl 8 rfl) ?_
              refine lv_icmp_le (tgt := 172) hx hb dX9_lies_164 (by decide) (fun c_19 => ?_) (fun c_19 => ?_)
              · refine lv_iload hx hb dX9_lies_172 (lv_at hl 8 rfl) ?_
                refine lv_istore (lv' := [(8, .int z8), (6, .int z6), (7, .int (nI (k_ / 40))), (5, .int z5), (4, .int (z4 + 0)), (3, .int (z3 + 1)), (11, .int (nI (k_ % 40))), (10, .int (nI (k_ / 40))), (9, .int (nI k_)), (0, .ref h0), (1, .int (nI m_)), (2, .int x2)]) hx hb dX9_lies_174 hl (by decide) rfl (fun ls hl => ?_)
                refine lv_iinc (v := nI (k_ + 1)) (lv' := [(9, .int (nI (k_ + 1))), (8, .int z8), (6, .int z6), (7, .int (nI (k_ / 40))), (5, .int z5), (4, .int (z4 + 0)), (3, .int (z3 + 1)), (11, .int (nI (k_ % 40))), (10, .int (nI (k_ / 40))), (0, .ref h0), (1, .int (nI m_)), (2, .int x2)]) hx hb dX9_lies_176 hl (k := 8) rfl (nI_add k_ 1) (by decide) rfl (fun ls hl => ?_)
                refine lv_goto (tgt := 30) hx hb dX9_lies_179 (by decide) ?_
                exact ih (k_ + 1) (z3 + 1) (z4 + 0) z5 z6 (nI (k_ / 40)) z8 (by omega) (by omega) _ (lv_sub hl [0, 6, 5, 4, 2, 3, 1, 9, 10, 11] rfl) kk0
              refine lv_iload hx hb dX9_lies_167 (lv_at hl 5 rfl) ?_
              refine lv_goto (tgt := 174) hx hb dX9_lies_169 (by decide) ?_
              refine lv_istore (lv' := [(8, .int (nI (k_ % 40))), (6, .int z6), (7, .int (nI (k_ / 40))), (5, .int z5), (4, .int (z4 + 0)), (3, .int (z3 + 1)), (11, .int (nI (k_ % 40))), (10, .int (nI (k_ / 40))), (9, .int (nI k_)), (0, .ref h0), (1, .int (nI m_)), (2, .int x2)]) hx hb dX9_lies_174 hl (by decide) rfl (fun ls hl => ?_)
              refine lv_iinc (v := nI (k_ + 1)) (lv' := [(9, .int (nI (k_ + 1))), (8, .int (nI (k_ % 40))), (6, .int z6), (7, .int (nI (k_ / 40))), (5, .int z5), (4, .int (z4 + 0)), (3, .int (z3 + 1)), (11, .int (nI (k_ % 40))), (10, .int (nI (k_ / 40))), (0, .ref h0), (1, .int (nI m_)), (2, .int x2)]) hx hb dX9_lies_176 hl (k := 8) rfl (nI_add k_ 1) (by decide) rfl (fun ls hl => ?_)
              refine lv_goto (tgt := 30) hx hb dX9_lies_179 (by decide) ?_
              exact ih (k_ + 1) (z3 + 1) (z4 + 0) z5 z6 (nI (k_ / 40)) (nI (k_ % 40)) (by omega) (by omega) _ (lv_sub hl [0, 6, 5, 4, 2, 3, 1, 9, 10, 11] rfl) kk0
            refine lv_iload hx hb dX9_lies_151 (lv_at hl 4 rfl) ?_
            refine lv_goto (tgt := 158) hx hb dX9_lies_153 (by decide) ?_
            refine lv_istore (lv' := [(6, .int (nI (k_ % 40))), (7, .int (nI (k_ / 40))), (5, .int z5), (4, .int (z4 + 0)), (3, .int (z3 + 1)), (11, .int (nI (k_ % 40))), (10, .int (nI (k_ / 40))), (9, .int (nI k_)), (8, .int z8), (0, .ref h0), (1, .int (nI m_)), (2, .int x2)]) hx hb dX9_lies_158 hl (by decide) rfl (fun ls hl => ?_)
            refine lv_iload hx hb dX9_lies_160 (lv_at hl 5 rfl) ?_
            refine lv_iload hx hb dX9_lies_162 (lv_at hl 8 rfl) ?_
            refine lv_icmp_le (tgt := 172) hx hb dX9_lies_164 (by decide) (fun c_20 => ?_) (fun c_20 => ?_)
            · refine lv_iload hx hb dX9_lies_172 (lv_at hl 8 rfl) ?_
              refine lv_istore (lv' := [(8, .int z8), (6, .int (nI (k_ % 40))), (7, .int (nI (k_ / 40))), (5, .int z5), (4, .int (z4 + 0)), (3, .int (z3 + 1)), (11, .int (nI (k_ % 40))), (10, .int (nI (k_ / 40))), (9, .int (nI k_)), (0, .ref h0), (1, .int (nI m_)), (2, .int x2)]) hx hb dX9_lies_174 hl (by decide) rfl (fun ls hl => ?_)
              refine lv_iinc (v := nI (k_ + 1)) (lv' := [(9, .int (nI (k_ + 1))), (8, .int z8), (6, .int (nI (k_ % 40))), (7, .int (nI (k_ / 40))), (5, .int z5), (4, .int (z4 + 0)), (3, .int (z3 + 1)), (11, .int (nI (k_ % 40))), (10, .int (nI (k_ / 40))), (0, .ref h0), (1, .int (nI m_)), (2, .int x2)]) hx hb dX9_lies_176 hl (k := 8) rfl (nI_add k_ 1) (by decide) rfl (fun ls hl => ?_)
              refine lv_goto (tgt := 30) hx hb dX9_lies_179 (by decide) ?_
              exact ih (k_ + 1) (z3 + 1) (z4 + 0) z5 (nI (k_ % 40)) (nI (k_ / 40)) z8 (by omega) (by omega) _ (lv_sub hl [0, 6, 5, 4, 2, 3, 1, 9, 10, 11] rfl) kk0
            refine lv_iload hx hb dX9_lies_167 (lv_at hl 5 rfl) ?_
            refine lv_goto (tgt := 174) hx hb dX9_lies_169 (by decide) ?_
            refine lv_istore (lv' := [(8, .int (nI (k_ % 40))), (6, .int (nI (k_ % 40))), (7, .int (nI (k_ / 40))), (5, .int z5), (4, .int (z4 + 0)), (3, .int (z3 + 1)), (11, .int (nI (k_ % 40))), (10, .int (nI (k_ / 40))), (9, .int (nI k_)), (0, .ref h0), (1, .int (nI m_)), (2, .int x2)]) hx hb dX9_lies_174 hl (by decide) rfl (fun ls hl => ?_)
            refine lv_iinc (v := nI (k_ + 1)) (lv' := [(9, .int (nI (k_ + 1))), (8, .int (nI (k_ % 40))), (6, .int (nI (k_ % 40))), (7, .int (nI (k_ / 40))), (5, .int z5), (4, .int (z4 + 0)), (3, .int (z3 + 1)), (11, .int (nI (k_ % 40))), (10, .int (nI (k_ / 40))), (0, .ref h0), (1, .int (nI m_)), (2, .int x2)]) hx hb dX9_lies_176 hl (k := 8) rfl (nI_add k_ 1) (by decide) rfl (fun ls hl => ?_)
            refine lv_goto (tgt := 30) hx hb dX9_lies_179 (by decide) ?_
            exact ih (k_ + 1) (z3 + 1) (z4 + 0) z5 (nI (k_ % 40)) (nI (k_ / 40)) (nI (k_ % 40)) (by omega) (by omega) _ (lv_sub hl [0, 6, 5, 4, 2, 3, 1, 9, 10, 11] rfl) kk0
          refine lv_iload hx hb dX9_lies_126 (lv_at hl 3 rfl) ?_
          refine lv_goto (tgt := 133) hx hb dX9_lies_128 (by decide) ?_
          refine lv_istore (lv' := [(5, .int (nI (k_ / 40))), (4, .int (z4 + 0)), (3, .int (z3 + 1)), (11, .int (nI (k_ % 40))), (10, .int (nI (k_ / 40))), (9, .int (nI k_)), (6, .int z6), (7, .int z7), (8, .int z8), (0, .ref h0), (1, .int (nI m_)), (2, .int x2)]) hx hb dX9_lies_133 hl (by decide) rfl (fun ls hl => ?_)
          refine lv_iload hx hb dX9_lies_135 (lv_at hl 4 rfl) ?_
          refine lv_istore (lv' := [(7, .int (nI (k_ / 40))), (5, .int (nI (k_ / 40))), (4, .int (z4 + 0)), (3, .int (z3 + 1)), (11, .int (nI (k_ % 40))), (10, .int (nI (k_ / 40))), (9, .int (nI k_)), (6, .int z6), (8, .int z8), (0, .ref h0), (1, .int (nI m_)), (2, .int x2)]) hx hb dX9_lies_137 hl (by decide) rfl (fun ls hl => ?_)
          refine lv_iload hx hb dX9_lies_139 (lv_at hl 7 rfl) ?_
          refine lv_if_lt (tgt := 151) hx hb dX9_lies_141 (by decide) (fun c_21 => ?_) (fun c_21 => ?_)
          · refine lv_iload hx hb dX9_lies_151 (lv_at hl 4 rfl) ?_
            refine lv_goto (tgt := 158) hx hb dX9_lies_153 (by decide) ?_
            refine lv_istore (lv' := [(6, .int (nI (k_ % 40))), (7, .int (nI (k_ / 40))), (5, .int (nI (k_ / 40))), (4, .int (z4 + 0)), (3, .int (z3 + 1)), (11, .int (nI (k_ % 40))), (10, .int (nI (k_ / 40))), (9, .int (nI k_)), (8, .int z8), (0, .ref h0), (1, .int (nI m_)), (2, .int x2)]) hx hb dX9_lies_158 hl (by decide) rfl (fun ls hl => ?_)
            refine lv_iload hx hb dX9_lies_160 (lv_at hl 5 rfl) ?_
            refine lv_iload hx hb dX9_lies_162 (lv_at hl 8 rfl) ?_
            refine lv_icmp_le (tgt := 172) hx hb dX9_lies_164 (by decide) (fun c_22 => ?_) (fun c_22 => ?_)
            · refine lv_iload hx hb dX9_lies_172 (lv_at hl 8 rfl) ?_
              refine lv_istore (lv' := [(8, .int z8), (6, .int (nI (k_ % 40))), (7, .int (nI (k_ / 40))), (5, .int (nI (k_ / 40))), (4, .int (z4 + 0)), (3, .int (z3 + 1)), (11, .int (nI (k_ % 40))), (10, .int (nI (k_ / 40))), (9, .int (nI k_)), (0, .ref h0), (1, .int (nI m_)), (2, .int x2)]) hx hb dX9_lies_174 hl (by decide) rfl (fun ls hl => ?_)
              refine lv_iinc (v := nI (k_ + 1)) (lv' := [(9, .int (nI (k_ + 1))), (8, .int z8), (6, .int (nI (k_ % 40))), (7, .int (nI (k_ / 40))), (5, .int (nI (k_ / 40))), (4, .int (z4 + 0)), (3, .int (z3 + 1)), (11, .int (nI (k_ % 40))), (10, .int (nI (k_ / 40))), (0, .ref h0), (1, .int (nI m_)), (2, .int x2)]) hx hb dX9_lies_176 hl (k := 8) rfl (nI_add k_ 1) (by decide) rfl (fun ls hl => ?_)
              refine lv_goto (tgt := 30) hx hb dX9_lies_179 (by decide) ?_
              exact ih (k_ + 1) (z3 + 1) (z4 + 0) (nI (k_ / 40)) (nI (k_ % 40)) (nI (k_ / 40)) z8 (by omega) (by omega) _ (lv_sub hl [0, 6, 5, 4, 2, 3, 1, 9, 10, 11] rfl) kk0
            refine lv_iload hx hb dX9_lies_167 (lv_at hl 5 rfl) ?_
            refine lv_goto (tgt := 174) hx hb dX9_lies_169 (by decide) ?_
            refine lv_istore (lv' := [(8, .int (nI (k_ % 40))), (6, .int (nI (k_ % 40))), (7, .int (nI (k_ / 40))), (5, .int (nI (k_ / 40))), (4, .int (z4 + 0)), (3, .int (z3 + 1)), (11, .int (nI (k_ % 40))), (10, .int (nI (k_ / 40))), (9, .int (nI k_)), (0, .ref h0), (1, .int (nI m_)), (2, .int x2)]) hx hb dX9_lies_174 hl (by decide) rfl (fun ls hl => ?_)
            refine lv_iinc (v := nI (k_ + 1)) (lv' := [(9, .int (nI (k_ + 1))), (8, .int (nI (k_ % 40))), (6, .int (nI (k_ % 40))), (7, .int (nI (k_ / 40))), (5, .int (nI (k_ / 40))), (4, .int (z4 + 0)), (3, .int (z3 + 1)), (11, .int (nI (k_ % 40))), (10, .int (nI (k_ / 40))), (0, .ref h0), (1, .int (nI m_)), (2, .int x2)]) hx hb dX9_lies_176 hl (k := 8) rfl (nI_add k_ 1) (by decide) rfl (fun ls hl => ?_)
            refine lv_goto (tgt := 30) hx hb dX9_lies_179 (by decide) ?_
            exact ih (k_ + 1) (z3 + 1) (z4 + 0) (nI (k_ / 40)) (nI (k_ % 40)) (nI (k_ / 40)) (nI (k_ % 40)) (by omega) (by omega) _ (lv_sub hl [0, 6, 5, 4, 2, 3, 1, 9, 10, 11] rfl) kk0
          refine lv_iload hx hb dX9_lies_144 (lv_at hl 4 rfl) ?_
          refine lv_iload hx hb dX9_lies_146 (lv_at hl 7 rfl) ?_
          refine lv_icmp_ge (tgt := 156) hx hb dX9_lies_148 (by decide) (fun c_23 => ?_) (fun c_23 => ?_)
          · refine lv_iload hx hb dX9_lies_156 (lv_at hl 7 rfl) ?_
            refine lv_istore (lv' := [(6, .int z6), (7, .int (nI (k_ / 40))), (5, .int (nI (k_ / 40))), (4, .int (z4 + 0)), (3, .int (z3 + 1)), (11, .int (nI (k_ % 40))), (10, .int (nI (k_ / 40))), (9, .int (nI k_)), (8, .int z8), (0, .ref h0), (1, .int (nI m_)), (2, .int x2)]) hx hb dX9_lies_158 hl (by decide) rfl (fun ls hl => ?_)
            refine lv_iload hx hb dX9_lies_160 (lv_at hl 5 rfl) ?_
            refine lv_iload hx hb dX9_lies_162 (lv_at hl 8 rfl) ?_
            refine lv_icmp_le (tgt := 172) hx hb dX9_lies_164 (by decide) (fun c_24 => ?_) (fun c_24 => ?_)
            · refine lv_iload hx hb dX9_lies_172 (lv_at hl 8 rfl) ?_
              refine lv_istore (lv' := [(8, .int z8), (6, .int z6), (7, .int (nI (k_ / 40))), (5, .int (nI (k_ / 40))), (4, .int (z4 + 0)), (3, .int (z3 + 1)), (11, .int (nI (k_ % 40))), (10, .int (nI (k_ / 40))), (9, .int (nI k_)), (0, .ref h0), (1, .int (nI m_)), (2, .int x2)]) hx hb dX9_lies_174 hl (by decide) rfl (fun ls hl => ?_)
              refine lv_iinc (v := nI (k_ + 1)) (lv' := [(9, .int (nI (k_ + 1))), (8, .int z8), (6, .int z6), (7, .int (nI (k_ / 40))), (5, .int (nI (k_ / 40))), (4, .int (z4 + 0)), (3, .int (z3 + 1)), (11, .int (nI (k_ % 40))), (10, .int (nI (k_ / 40))), (0, .ref h0), (1, .int (nI m_)), (2, .int x2)]) hx hb dX9_lies_176 hl (k := 8) rfl (nI_add k_ 1) (by decide) rfl (fun ls hl => ?_)
              refine lv_goto (tgt := 30) hx hb dX9_lies_179 (by decide) ?_
              exact ih (k_ + 1) (z3 + 1) (z4 + 0) (nI (k_ / 40)) z6 (nI (k_ / 40)) z8 (by omega) (by omega) _ (lv_sub hl [0, 6, 5, 4, 2, 3, 1, 9, 10, 11] rfl) kk0
            refine lv_iload hx hb dX9_lies_167 (lv_at hl 5 rfl) ?_
            refine lv_goto (tgt := 174) hx hb dX9_lies_169 (by decide) ?_
            refine lv_istore (lv' := [(8, .int (nI (k_ % 40))), (6, .int z6), (7, .int (nI (k_ / 40))), (5, .int (nI (k_ / 40))), (4, .int (z4 + 0)), (3, .int (z3 + 1)), (11, .int (nI (k_ % 40))), (10, .int (nI (k_ / 40))), (9, .int (nI k_)), (0, .ref h0), (1, .int (nI m_)), (2, .int x2)]) hx hb dX9_lies_174 hl (by decide) rfl (fun ls hl => ?_)
            refine lv_iinc (v := nI (k_ + 1)) (lv' := [(9, .int (nI (k_ + 1))), (8, .int (nI (k_ % 40))), (6, .int z6), (7, .int (nI (k_ / 40))), (5, .int (nI (k_ / 40))), (4, .int (z4 + 0)), (3, .int (z3 + 1)), (11, .int (nI (k_ % 40))), (10, .int (nI (k_ / 40))), (0, .ref h0), (1, .int (nI m_)), (2, .int x2)]) hx hb dX9_lies_176 hl (k := 8) rfl (nI_add k_ 1) (by decide) rfl (fun ls hl => ?_)
            refine lv_goto (tgt := 30) hx hb dX9_lies_179 (by decide) ?_
            exact ih (k_ + 1) (z3 + 1) (z4 + 0) (nI (k_ / 40)) z6 (nI (k_ / 40)) (nI (k_ % 40)) (by omega) (by omega) _ (lv_sub hl [0, 6, 5, 4, 2, 3, 1, 9, 10, 11] rfl) kk0
          refine lv_iload hx hb dX9_lies_151 (lv_at hl 4 rfl) ?_
          refine lv_goto (tgt := 158) hx hb dX9_lies_153 (by decide) ?_
          refine lv_istore (lv' := [(6, .int (nI (k_ % 40))), (7, .int (nI (k_ / 40))), (5, .int (nI (k_ / 40))), (4, .int (z4 + 0)), (3, .int (z3 + 1)), (11, .int (nI (k_ % 40))), (10, .int (nI (k_ / 40))), (9, .int (nI k_)), (8, .int z8), (0, .ref h0), (1, .int (nI m_)), (2, .int x2)]) hx hb dX9_lies_158 hl (by decide) rfl (fun ls hl => ?_)
          refine lv_iload hx hb dX9_lies_160 (lv_at hl 5 rfl) ?_
          refine lv_iload hx hb dX9_lies_162 (lv_at hl 8 rfl) ?_
          refine lv_icmp_le (tgt := 172) hx hb dX9_lies_164 (by decide) (fun c_25 => ?_) (fun c_25 => ?_)
          · refine lv_iload hx hb dX9_lies_172 (lv_at hl 8 rfl) ?_
            refine lv_istore (lv' := [(8, .int z8), (6, .int (nI (k_ % 40))), (7, .int (nI (k_ / 40))), (5, .int (nI (k_ / 40))), (4, .int (z4 + 0)), (3, .int (z3 + 1)), (11, .int (nI (k_ % 40))), (10, .int (nI (k_ / 40))), (9, .int (nI k_)), (0, .ref h0), (1, .int (nI m_)), (2, .int x2)]) hx hb dX9_lies_174 hl (by decide) rfl (fun ls hl => ?_)
            refine lv_iinc (v := nI (k_ + 1)) (lv' := [(9, .int (nI (k_ + 1))), (8, .int z8), (6, .int (nI (k_ % 40))), (7, .int (nI (k_ / 40))), (5, .int (nI (k_ / 40))), (4, .int (z4 + 0)), (3, .int (z3 + 1)), (11, .int (nI (k_ % 40))), (10, .int (nI (k_ / 40))), (0, .ref h0), (1, .int (nI m_)), (2, .int x2)]) hx hb dX9_lies_176 hl (k := 8) rfl (nI_add k_ 1) (by decide) rfl (fun ls hl => ?_)
            refine lv_goto (tgt := 30) hx hb dX9_lies_179 (by decide) ?_
            exact ih (k_ + 1) (z3 + 1) (z4 + 0) (nI (k_ / 40)) (nI (k_ % 40)) (nI (k_ / 40)) z8 (by omega) (by omega) _ (lv_sub hl [0, 6, 5, 4, 2, 3, 1, 9, 10, 11] rfl) kk0
          refine lv_iload hx hb dX9_lies_167 (lv_at hl 5 rfl) ?_
          refine lv_goto (tgt := 174) hx hb dX9_lies_169 (by decide) ?_
          refine lv_istore (lv' := [(8, .int (nI (k_ % 40))), (6, .int (nI (k_ % 40))), (7, .int (nI (k_ / 40))), (5, .int (nI (k_ / 40))), (4, .int (z4 + 0)), (3, .int (z3 + 1)), (11, .int (nI (k_ % 40))), (10, .int (nI (k_ / 40))), (9, .int (nI k_)), (0, .ref h0), (1, .int (nI m_)), (2, .int x2)]) hx hb dX9_lies_174 hl (by decide) rfl (fun ls hl => ?_)
          refine lv_iinc (v := nI (k_ + 1)) (lv' := [(9, .int (nI (k_ + 1))), (8, .int (nI (k_ % 40))), (6, .int (nI (k_ % 40))), (7, .int (nI (k_ / 40))), (5, .int (nI (k_ / 40))), (4, .int (z4 + 0)), (3, .int (z3 + 1)), (11, .int (nI (k_ % 40))), (10, .int (nI (k_ / 40))), (0, .ref h0), (1, .int (nI m_)), (2, .int x2)]) hx hb dX9_lies_176 hl (k := 8) rfl (nI_add k_ 1) (by decide) rfl (fun ls hl => ?_)
          refine lv_goto (tgt := 30) hx hb dX9_lies_179 (by decide) ?_
          exact ih (k_ + 1) (z3 + 1) (z4 + 0) (nI (k_ / 40)) (nI (k_ % 40)) (nI (k_ / 40)) (nI (k_ % 40)) (by omega) (by omega) _ (lv_sub hl [0, 6, 5, 4, 2, 3, 1, 9, 10, 11] rfl) kk0
        refine lv_iconst (v := 1) hx hb dX9_lies_113 (by decide) ?_
        refine lv_goto (tgt := 118) hx hb dX9_lies_114 (by decide) ?_
        refine lv_iadd hx hb dX9_lies_118 ?_
        refine lv_istore (lv' := [(4, .int (z4 + 1)), (3, .int (z3 + 1)), (11, .int (nI (k_ % 40))), (10, .int (nI (k_ / 40))), (9, .int (nI k_)), (5, .int z5), (6, .int z6), (7, .int z7), (8, .int z8), (0, .ref h0), (1, .int (nI m_)), (2, .int x2)]) hx hb dX9_lies_119 hl (by decide) rfl (fun ls hl => ?_)
        refine lv_iload hx hb dX9_lies_121 (lv_at hl 5 rfl) ?_
        refine lv_if_ge (tgt := 131) hx hb dX9_lies_123 (by decide) (fun c_26 => ?_) (fun c_26 => ?_)
        · refine lv_iload hx hb dX9_lies_131 (lv_at hl 5 rfl) ?_
          refine lv_istore (lv' := [(5, .int z5), (4, .int (z4 + 1)), (3, .int (z3 + 1)), (11, .int (nI (k_ % 40))), (10, .int (nI (k_ / 40))), (9, .int (nI k_)), (6, .int z6), (7, .int z7), (8, .int z8), (0, .ref h0), (1, .int (nI m_)), (2, .int x2)]) hx hb dX9_lies_133 hl (by decide) rfl (fun ls hl => ?_)
          refine lv_iload hx hb dX9_lies_135 (lv_at hl 4 rfl) ?_
          refine lv_istore (lv' := [(7, .int (nI (k_ / 40))), (5, .int z5), (4, .int (z4 + 1)), (3, .int (z3 + 1)), (11, .int (nI (k_ % 40))), (10, .int (nI (k_ / 40))), (9, .int (nI k_)), (6, .int z6), (8, .int z8), (0, .ref h0), (1, .int (nI m_)), (2, .int x2)]) hx hb dX9_lies_137 hl (by decide) rfl (fun ls hl => ?_)
          refine lv_iload hx hb dX9_lies_139 (lv_at hl 7 rfl) ?_
          refine lv_if_lt (tgt := 151) hx hb dX9_lies_141 (by decide) (fun c_27 => ?_) (fun c_27 => ?_)
          · refine lv_iload hx hb dX9_lies_151 (lv_at hl 4 rfl) ?_
            refine lv_goto (tgt := 158) hx hb dX9_lies_153 (by decide) ?_
            refine lv_istore (lv' := [(6, .int (nI (k_ % 40))), (7, .int (nI (k_ / 40))), (5, .int z5), (4, .int (z4 + 1)), (3, .int (z3 + 1)), (11, .int (nI (k_ % 40))), (10, .int (nI (k_ / 40))), (9, .int (nI k_)), (8, .int z8), (0, .ref h0), (1, .int (nI m_)), (2, .int x2)]) hx hb dX9_lies_158 hl (by decide) rfl (fun ls hl => ?_)
            refine lv_iload hx hb dX9_lies_160 (lv_at hl 5 rfl) ?_
            refine lv_iload hx hb dX9_lies_162 (lv_at hl 8 rfl) ?_
            refine lv_icmp_le (tgt := 172) hx hb dX9_lies_164 (by decide) (fun c_28 => ?_) (fun c_28 => ?_)
            · refine lv_iload hx hb dX9_lies_172 (lv_at hl 8 rfl) ?_
              refine lv_istore (lv' := [(8, .int z8), (6, .int (nI (k_ % 40))), (7, .int (nI (k_ / 40))), (5, .int z5), (4, .int (z4 + 1)), (3, .int (z3 + 1)), (11, .int (nI (k_ % 40))), (10, .int (nI (k_ / 40))), (9, .int (nI k_)), (0, .ref h0), (1, .int (nI m_)), (2, .int x2)]) hx hb dX9_lies_174 hl (by decide) rfl (fun ls hl => ?_)
              refine lv_iinc (v := nI (k_ + 1)) (lv' := [(9, .int (nI (k_ + 1))), (8, .int z8), (6, .int (nI (k_ % 40))), (7, .int (nI (k_ / 40))), (5, .int z5), (4, .int (z4 + 1)), (3, .int (z3 + 1)), (11, .int (nI (k_ % 40))), (10, .int (nI (k_ / 40))), (0, .ref h0), (1, .int (nI m_)), (2, .int x2)]) hx hb dX9_lies_176 hl (k := 8) rfl (nI_add k_ 1) (by decide) rfl (fun ls hl => ?_)
              refine lv_goto (tgt := 30) hx hb dX9_lies_179 (by decide) ?_
              exact ih (k_ + 1) (z3 + 1) (z4 + 1) z5 (nI (k_ % 40)) (nI (k_ / 40)) z8 (by omega) (by omega) _ (lv_sub hl [0, 6, 5, 4, 2, 3, 1, 9, 10, 11] rfl) kk0
            refine lv_iload hx hb dX9_lies_167 (lv_at hl 5 rfl) ?_
            refine lv_goto (tgt := 174) hx hb dX9_lies_169 (by decide) ?_
            refine lv_istore (lv' := [(8, .int (nI (k_ % 40))), (6, .int (nI (k_ % 40))), (7, .int (nI (k_ / 40))), (5, .int z5), (4, .int (z4 + 1)), (3, .int (z3 + 1)), (11, .int (nI (k_ % 40))), (10, .int (nI (k_ / 40))), (9, .int (nI k_)), (0, .ref h0), (1, .int (nI m_)), (2, .int x2)]) hx hb dX9_lies_174 hl (by decide) rfl (fun ls hl => ?_)
            refine lv_iinc (v := nI (k_ + 1)) (lv' := [(9, .int (nI (k_ + 1))), (8, .int (nI (k_ % 40))), (6, .int (nI (k_ % 40))), (7, .int (nI (k_ / 40))), (5, .int z5), (4, .int (z4 + 1)), (3, .int (z3 + 1)), (11, .int (nI (k_ % 40))), (10, .int (nI (k_ / 40))), (0, .ref h0), (1, .int (nI m_)), (2, .int x2)]) hx hb dX9_lies_176 hl (k := 8) rfl (nI_add k_ 1) (by decide) rfl (fun ls hl => ?_)
            refine lv_goto (tgt := 30) hx hb dX9_lies_179 (by decide) ?_
            exact ih (k_ + 1) (z3 + 1) (z4 + 1) z5 (nI (k_ % 40)) (nI (k_ / 40)) (nI (k_ % 40)) (by omega) (by omega) _ (lv_sub hl [0, 6, 5, 4, 2, 3, 1, 9, 10, 11] rfl) kk0
          refine lv_iload hx hb dX9_lies_144 (lv_at hl 4 rfl) ?_
          refine lv_iload hx hb dX9_lies_146 (lv_at hl 7 rfl) ?_
          refine lv_icmp_ge (tgt := 156) hx hb dX9_lies_148 (by decide) (fun c_29 => ?_) (fun c_29 => ?_)
          · refine lv_iload hx hb dX9_lies_156 (lv_at hl 7 rfl) ?_
            refine lv_istore (lv' := [(6, .int z6), (7, .int (nI (k_ / 40))), (5, .int z5), (4, .int (z4 + 1)), (3, .int (z3 + 1)), (11, .int (nI (k_ % 40))), (10, .int (nI (k_ / 40))), (9, .int (nI k_)), (8, .int z8), (0, .ref h0), (1, .int (nI m_)), (2, .int x2)]) hx hb dX9_lies_158 hl (by decide) rfl (fun ls hl => ?_)
            refine lv_iload hx hb dX9_lies_160 (lv_at hl 5 rfl) ?_
            refine lv_iload hx hb dX9_lies_162 (lv_at hl 8 rfl) ?_
            refine lv_icmp_le (tgt := 172) hx hb dX9_lies_164 (by decide) (fun c_30 => ?_) (fun c_30 => ?_)
            · refine lv_iload hx hb dX9_lies_172 (lv_at hl 8 rfl) ?_
              refine lv_istore (lv' := [(8, .int z8), (6, .int z6), (7, .int (nI (k_ / 40))), (5, .int z5), (4, .int (z4 + 1)), (3, .int (z3 + 1)), (11, .int (nI (k_ % 40))), (10, .int (nI (k_ / 40))), (9, .int (nI k_)), (0, .ref h0), (1, .int (nI m_)), (2, .int x2)]) hx hb dX9_lies_174 hl (by decide) rfl (fun ls hl => ?_)
              refine lv_iinc (v := nI (k_ + 1)) (lv' := [(9, .int (nI (k_ + 1))), (8, .int z8), (6, .int z6), (7, .int (nI (k_ / 40))), (5, .int z5), (4, .int (z4 + 1)), (3, .int (z3 + 1)), (11, .int (nI (k_ % 40))), (10, .int (nI (k_ / 40))), (0, .ref h0), (1, .int (nI m_)), (2, .int x2)]) hx hb dX9_lies_176 hl (k := 8) rfl (nI_add k_ 1) (by decide) rfl (fun ls hl => ?_)
              refine lv_goto (tgt := 30) hx hb dX9_lies_179 (by decide) ?_
              exact ih (k_ + 1) (z3 + 1) (z4 + 1) z5 z6 (nI (k_ / 40)) z8 (by omega) (by omega) _ (lv_sub hl [0, 6, 5, 4, 2, 3, 1, 9, 10, 11] rfl) kk0
            refine lv_iload hx hb dX9_lies_167 (lv_at hl 5 rfl) ?_
            refine lv_goto (tgt := 174) hx hb dX9_lies_169 (by decide) ?_
            refine lv_istore (lv' := [(8, .int (nI (k_ % 40))), (6, .int z6), (7, .int (nI (k_ / 40))), (5, .int z5), (4, .int (z4 + 1)), (3, .int (z3 + 1)), (11, .int (nI (k_ % 40))), (10, .int (nI (k_ / 40))), (9, .int (nI k_)), (0, .ref h0), (1, .int (nI m_)), (2, .int x2)]) hx hb dX9_lies_174 hl (by decide) rfl (fun ls hl => ?_)
            refine lv_iinc (v := nI (k_ + 1)) (lv' := [(9, .int (nI (k_ + 1))), (8, .int (nI (k_ % 40))), (6, .int z6), (7, .int (nI (k_ / 40))), (5, .int z5), (4, .int (z4 + 1)), (3, .int (z3 + 1)), (11, .int (nI (k_ % 40))), (10, .int (nI (k_ / 40))), (0, .ref h0), (1, .int (nI m_)), (2, .int x2)]) hx hb dX9_lies_176 hl (k := 8) rfl (nI_add k_ 1) (by decide) rfl (fun ls hl => ?_)
            refine lv_goto (tgt := 30) hx hb dX9_lies_179 (by decide) ?_
            exact ih (k_ + 1) (z3 + 1) (z4 + 1) z5 z6 (nI (k_ / 40)) (nI (k_ % 40)) (by omega) (by omega) _ (lv_sub hl [0, 6, 5, 4, 2, 3, 1, 9, 10, 11] rfl) kk0
          refine lv_iload hx hb dX9_lies_151 (lv_at hl 4 rfl) ?_
          refine lv_goto (tgt := 158) hx hb dX9_lies_153 (by decide) ?_
          refine lv_istore (lv' := [(6, .int (nI (k_ % 40))), (7, .int (nI (k_ / 40))), (5, .int z5), (4, .int (z4 + 1)), (3, .int (z3 + 1)), (11, .int (nI (k_ % 40))), (10, .int (nI (k_ / 40))), (9, .int (nI k_)), (8, .int z8), (0, .ref h0), (1, .int (nI m_)), (2, .int x2)]) hx hb dX9_lies_158 hl (by decide) rfl (fun ls hl => ?_)
          refine lv_iload hx hb dX9_lies_160 (lv_at hl 5 rfl) ?_
          refine lv_iload hx hb dX9_lies_162 (lv_at hl 8 rfl) ?_
          refine lv_icmp_le (tgt := 172) hx hb dX9_lies_164 (by decide) (fun c_31 => ?_) (fun c_31 => ?_)
          · refine lv_iload hx hb dX9_lies_172 (lv_at hl 8 rfl) ?_
            refine lv_istore (lv' := [(8, .int z8), (6, .int (nI (k_ % 40))), (7, .int (nI (k_ / 40))), (5, .int z5), (4, .int (z4 + 1)), (3, .int (z3 + 1)), (11, .int (nI (k_ % 40))), (10, .int (nI (k_ / 40))), (9, .int (nI k_)), (0, .ref h0), (1, .int (nI m_)), (2, .int x2)]) hx hb dX9_lies_174 hl (by decide) rfl (fun ls hl => ?_)
            refine lv_iinc (v := nI (k_ + 1)) (lv' := [(9, .int (nI (k_ + 1))), (8, .int z8), (6, .int (nI (k_ % 40))), (7, .int (nI (k_ / 40))), (5, .int z5), (4, .int (z4 + 1)), (3, .int (z3 + 1)), (11, .int (nI (k_ % 40))), (10, .int (nI (k_ / 40))), (0, .ref h0), (1, .int (nI m_)), (2, .int x2)]) hx hb dX9_lies_176 hl (k := 8) rfl (nI_add k_ 1) (by decide) rfl (fun ls hl => ?_)
            refine lv_goto (tgt := 30) hx hb dX9_lies_179 (by decide) ?_
            exact ih (k_ + 1) (z3 + 1) (z4 + 1) z5 (nI (k_ % 40)) (nI (k_ / 40)) z8 (by omega) (by omega) _ (lv_sub hl [0, 6, 5, 4, 2, 3, 1, 9, 10, 11] rfl) kk0
          refine lv_iload hx hb dX9_lies_167 (lv_at hl 5 rfl) ?_
          refine lv_goto (tgt := 174) hx hb dX9_lies_169 (by decide) ?_
          refine lv_istore (lv' := [(8, .int (nI (k_ % 40))), (6, .int (nI (k_ % 40))), (7, .int (nI (k_ / 40))), (5, .int z5), (4, .int (z4 + 1)), (3, .int (z3 + 1)), (11, .int (nI (k_ % 40))), (10, .int (nI (k_ / 40))), (9, .int (nI k_)), (0, .ref h0), (1, .int (nI m_)), (2, .int x2)]) hx hb dX9_lies_174 hl (by decide) rfl (fun ls hl => ?_)
          refine lv_iinc (v := nI (k_ + 1)) (lv' := [(9, .int (nI (k_ + 1))), (8, .int (nI (k_ % 40))), (6, .int (nI (k_ % 40))), (7, .int (nI (k_ / 40))), (5, .int z5), (4, .int (z4 + 1)), (3, .int (z3 + 1)), (11, .int (nI (k_ % 40))), (10, .int (nI (k_ / 40))), (0, .ref h0), (1, .int (nI m_)), (2, .int x2)]) hx hb dX9_lies_176 hl (k := 8) rfl (nI_add k_ 1) (by decide) rfl (fun ls hl => ?_)
          refine lv_goto (tgt := 30) hx hb dX9_lies_179 (by decide) ?_
          exact ih (k_ + 1) (z3 + 1) (z4 + 1) z5 (nI (k_ % 40)) (nI (k_ / 40)) (nI (k_ % 40)) (by omega) (by omega) _ (lv_sub hl [0, 6, 5, 4, 2, 3, 1, 9, 10, 11] rfl) kk0
        refine lv_iload hx hb dX9_lies_126 (lv_at hl 3 rfl) ?_
        refine lv_goto (tgt := 133) hx hb dX9_lies_128 (by decide) ?_
        refine lv_istore (lv' := [(5, .int (nI (k_ / 40))), (4, .int (z4 + 1)), (3, .int (z3 + 1)), (11, .int (nI (k_ % 40))), (10, .int (nI (k_ / 40))), (9, .int (nI k_)), (6, .int z6), (7, .int z7), (8, .int z8), (0, .ref h0), (1, .int (nI m_)), (2, .int x2)]) hx hb dX9_lies_133 hl (by decide) rfl (fun ls hl => ?_)
        refine lv_iload hx hb dX9_lies_135 (lv_at hl 4 rfl) ?_
        refine lv_istore (lv' := [(7, .int (nI (k_ / 40))), (5, .int (nI (k_ / 40))), (4, .int (z4 + 1)), (3, .int (z3 + 1)), (11, .int (nI (k_ % 40))), (10, .int (nI (k_ / 40))), (9, .int (nI k_)), (6, .int z6), (8, .int z8), (0, .ref h0), (1, .int (nI m_)), (2, .int x2)]) hx hb dX9_lies_137 hl (by decide) rfl (fun ls hl => ?_)
        refine lv_iload hx hb dX9_lies_139 (lv_at hl 7 rfl) ?_
        refine lv_if_lt (tgt := 151) hx hb dX9_lies_141 (by decide) (fun c_32 => ?_) (fun c_32 => ?_)
        · refine lv_iload hx hb dX9_lies_151 (lv_at hl 4 rfl) ?_
          refine lv_goto (tgt := 158) hx hb dX9_lies_153 (by decide) ?_
          refine lv_istore (lv' := [(6, .int (nI (k_ % 40))), (7, .int (nI (k_ / 40))), (5, .int (nI (k_ / 40))), (4, .int (z4 + 1)), (3, .int (z3 + 1)), (11, .int (nI (k_ % 40))), (10, .int (nI (k_ / 40))), (9, .int (nI k_)), (8, .int z8), (0, .ref h0), (1, .int (nI m_)), (2, .int x2)]) hx hb dX9_lies_158 hl (by decide) rfl (fun ls hl => ?_)
          refine lv_iload hx hb dX9_lies_160 (lv_at hl 5 rfl) ?_
          refine lv_iload hx hb dX9_lies_162 (lv_at hl 8 rfl) ?_
          refine lv_icmp_le (tgt := 172) hx hb dX9_lies_164 (by decide) (fun c_33 => ?_) (fun c_33 => ?_)
          · refine lv_iload hx hb dX9_lies_172 (lv_at hl 8 rfl) ?_
            refine lv_istore (lv' := [(8, .int z8), (6, .int (nI (k_ % 40))), (7, .int (nI (k_ / 40))), (5, .int (nI (k_ / 40))), (4, .int (z4 + 1)), (3, .int (z3 + 1)), (11, .int (nI (k_ % 40))), (10, .int (nI (k_ / 40))), (9, .int (nI k_)), (0, .ref h0), (1, .int (nI m_)), (2, .int x2)]) hx hb dX9_lies_174 hl (by decide) rfl (fun ls hl => ?_)
            refine lv_iinc (v := nI (k_ + 1)) (lv' := [(9, .int (nI (k_ + 1))), (8, .int z8), (6, .int (nI (k_ % 40))), (7, .int (nI (k_ / 40))), (5, .int (nI (k_ / 40))), (4, .int (z4 + 1)), (3, .int (z3 + 1)), (11, .int (nI (k_ % 40))), (10, .int (nI (k_ / 40))), (0, .ref h0), (1, .int (nI m_)), (2, .int x2)]) hx hb dX9_lies_176 hl (k := 8) rfl (nI_add k_ 1) (by decide) rfl (fun ls hl => ?_)
            refine lv_goto (tgt := 30) hx hb dX9_lies_179 (by decide) ?_
            exact ih (k_ + 1) (z3 + 1) (z4 + 1) (nI (k_ / 40)) (nI (k_ % 40)) (nI (k_ / 40)) z8 (by omega) (by omega) _ (lv_sub hl [0, 6, 5, 4, 2, 3, 1, 9, 10, 11] rfl) kk0
          refine lv_iload hx hb dX9_lies_167 (lv_at hl 5 rfl) ?_
          refine lv_goto (tgt := 174) hx hb dX9_lies_169 (by decide) ?_
          refine lv_istore (lv' := [(8, .int (nI (k_ % 40))), (6, .int (nI (k_ % 40))), (7, .int (nI (k_ / 40))), (5, .int (nI (k_ / 40))), (4, .int (z4 + 1)), (3, .int (z3 + 1)), (11, .int (nI (k_ % 40))), (10, .int (nI (k_ / 40))), (9, .int (nI k_)), (0, .ref h0), (1, .int (nI m_)), (2, .int x2)]) hx hb dX9_lies_174 hl (by decide) rfl (fun ls hl => ?_)
          refine lv_iinc (v := nI (k_ + 1)) (lv' := [(9, .int (nI (k_ + 1))), (8, .int (nI (k_ % 40))), (6, .int (nI (k_ % 40))), (7, .int (nI (k_ / 40))), (5, .int (nI (k_ / 40))), (4, .int (z4 + 1)), (3, .int (z3 + 1)), (11, .int (nI (k_ % 40))), (10, .int (nI (k_ / 40))), (0, .ref h0), (1, .int (nI m_)), (2, .int x2)]) hx hb dX9_lies_176 hl (k := 8) rfl (nI_add k_ 1) (by decide) rfl (fun ls hl => ?_)
          refine lv_goto (tgt := 30) hx hb dX9_lies_179 (by decide) ?_
          exact ih (k_ + 1) (z3 + 1) (z4 + 1) (nI (k_ / 40)) (nI (k_ % 40)) (nI (k_ / 40)) (nI (k_ % 40)) (by omega) (by omega) _ (lv_sub hl [0, 6, 5, 4, 2, 3, 1, 9, 10, 11] rfl) kk0
        refine lv_iload hx hb dX9_lies_144 (lv_at hl 4 rfl) ?_
        refine lv_iload hx hb dX9_lies_146 (lv_at hl 7 rfl) ?_
        refine lv_icmp_ge (tgt := 156) hx hb dX9_lies_148 (by decide) (fun c_34 => ?_) (fun c_34 => ?_)
        · refine lv_iload hx hb dX9_lies_156 (lv_at hl 7 rfl) ?_
          refine lv_istore (lv' := [(6, .int z6), (7, .int (nI (k_ / 40))), (5, .int (nI (k_ / 40))), (4, .int (z4 + 1)), (3, .int (z3 + 1)), (11, .int (nI (k_ % 40))), (10, .int (nI (k_ / 40))), (9, .int (nI k_)), (8, .int z8), (0, .ref h0), (1, .int (nI m_)), (2, .int x2)]) hx hb dX9_lies_158 hl (by decide) rfl (fun ls hl => ?_)
          refine lv_iload hx hb dX9_lies_160 (lv_at hl 5 rfl) ?_
          refine lv_iload hx hb dX9_lies_162 (lv_at hl 8 rfl) ?_
          refine lv_icmp_le (tgt := 172) hx hb dX9_lies_164 (by decide) (fun c_35 => ?_) (fun c_35 => ?_)
          · refine lv_iload hx hb dX9_lies_172 (lv_at hl 8 rfl) ?_
            refine lv_istore (lv' := [(8, .int z8), (6, .int z6), (7, .int (nI (k_ / 40))), (5, .int (nI (k_ / 40))), (4, .int (z4 + 1)), (3, .int (z3 + 1)), (11, .int (nI (k_ % 40))), (10, .int (nI (k_ / 40))), (9, .int (nI k_)), (0, .ref h0), (1, .int (nI m_)), (2, .int x2)]) hx hb dX9_lies_174 hl (by decide) rfl (fun ls hl => ?_)
            refine lv_iinc (v := nI (k_ + 1)) (lv' := [(9, .int (nI (k_ + 1))), (8, .int z8), (6, .int z6), (7, .int (nI (k_ / 40))), (5, .int (nI (k_ / 40))), (4, .int (z4 + 1)), (3, .int (z3 + 1)), (11, .int (nI (k_ % 40))), (10, .int (nI (k_ / 40))), (0, .ref h0), (1, .int (nI m_)), (2, .int x2)]) hx hb dX9_lies_176 hl (k := 8) rfl (nI_add k_ 1) (by decide) rfl (fun ls hl => ?_)
            refine lv_goto (tgt := 30) hx hb dX9_lies_179 (by decide) ?_
            exact ih (k_ + 1) (z3 + 1) (z4 + 1) (nI (k_ / 40)) z6 (nI (k_ / 40)) z8 (by omega) (by omega) _ (lv_sub hl [0, 6, 5, 4, 2, 3, 1, 9, 10, 11] rfl) kk0
          refine lv_iload hx hb dX9_lies_167 (lv_at hl 5 rfl) ?_
          refine lv_goto (tgt := 174) hx hb dX9_lies_169 (by decide) ?_
          refine lv_istore (lv' := [(8, .int (nI (k_ % 40))), (6, .int z6), (7, .int (nI (k_ / 40))), (5, .int (nI (k_ / 40))), (4, .int (z4 + 1)), (3, .int (z3 + 1)), (11, .int (nI (k_ % 40))), (10, .int (nI (k_ / 40))), (9, .int (nI k_)), (0, .ref h0), (1, .int (nI m_)), (2, .int x2)]) hx hb dX9_lies_174 hl (by decide) rfl (fun ls hl => ?_)
          refine lv_iinc (v := nI (k_ + 1)) (lv' := [(9, .int (nI (k_ + 1))), (8, .int (nI (k_ % 40))), (6, .int z6), (7, .int (nI (k_ / 40))), (5, .int (nI (k_ / 40))), (4, .int (z4 + 1)), (3, .int (z3 + 1)), (11, .int (nI (k_ % 40))), (10, .int (nI (k_ / 40))), (0, .ref h0), (1, .int (nI m_)), (2, .int x2)]) hx hb dX9_lies_176 hl (k := 8) rfl (nI_add k_ 1) (by decide) rfl (fun ls hl => ?_)
          refine lv_goto (tgt := 30) hx hb dX9_lies_179 (by decide) ?_
          exact ih (k_ + 1) (z3 + 1) (z4 + 1) (nI (k_ / 40)) z6 (nI (k_ / 40)) (nI (k_ % 40)) (by omega) (by omega) _ (lv_sub hl [0, 6, 5, 4, 2, 3, 1, 9, 10, 11] rfl) kk0
        refine lv_iload hx hb dX9_lies_151 (lv_at hl 4 rfl) ?_
        refine lv_goto (tgt := 158) hx hb dX9_lies_153 (by decide) ?_
        refine lv_istore (lv' := [(6, .int (nI (k_ % 40))), (7, .int (nI (k_ / 40))), (5, .int (nI (k_ / 40))), (4, .int (z4 + 1)), (3, .int (z3 + 1)), (11, .int (nI (k_ % 40))), (10, .int (nI (k_ / 40))), (9, .int (nI k_)), (8, .int z8), (0, .ref h0), (1, .int (nI m_)), (2, .int x2)]) hx hb dX9_lies_158 hl (by decide) rfl (fun ls hl => ?_)
        refine lv_iload hx hb dX9_lies_160 (lv_at hl 5 rfl) ?_
        refine lv_iload hx hb dX9_lies_162 (lv_at hl 8 rfl) ?_
        refine lv_icmp_le (tgt := 172) hx hb dX9_lies_164 (by decide) (fun c_36 => ?_) (fun c_36 => ?_)
        · refine lv_iload hx hb dX9_lies_172 (lv_at hl 8 rfl) ?_
          refine lv_istore (lv' := [(8, .int z8), (6, .int (nI (k_ % 40))), (7, .int (nI (k_ / 40))), (5, .int (nI (k_ / 40))), (4, .int (z4 + 1)), (3, .int (z3 + 1)), (11, .int (nI (k_ % 40))), (10, .int (nI (k_ / 40))), (9, .int (nI k_)), (0, .ref h0), (1, .int (nI m_)), (2, .int x2)]) hx hb dX9_lies_174 hl (by decide) rfl (fun ls hl => ?_)
          refine lv_iinc (v := nI (k_ + 1)) (lv' := [(9, .int (nI (k_ + 1))), (8, .int z8), (6, .int (nI (k_ % 40))), (7, .int (nI (k_ / 40))), (5, .int (nI (k_ / 40))), (4, .int (z4 + 1)), (3, .int (z3 + 1)), (11, .int (nI (k_ % 40))), (10, .int (nI (k_ / 40))), (0, .ref h0), (1, .int (nI m_)), (2, .int x2)]) hx hb dX9_lies_176 hl (k := 8) rfl (nI_add k_ 1) (by decide) rfl (fun ls hl => ?_)
          refine lv_goto (tgt := 30) hx hb dX9_lies_179 (by decide) ?_
          exact ih (k_ + 1) (z3 + 1) (z4 + 1) (nI (k_ / 40)) (nI (k_ % 40)) (nI (k_ / 40)) z8 (by omega) (by omega) _ (lv_sub hl [0, 6, 5, 4, 2, 3, 1, 9, 10, 11] rfl) kk0
        refine lv_iload hx hb dX9_lies_167 (lv_at hl 5 rfl) ?_
        refine lv_goto (tgt := 174) hx hb dX9_lies_169 (by decide) ?_
        refine lv_istore (lv' := [(8, .int (nI (k_ % 40))), (6, .int (nI (k_ % 40))), (7, .int (nI (k_ / 40))), (5, .int (nI (k_ / 40))), (4, .int (z4 + 1)), (3, .int (z3 + 1)), (11, .int (nI (k_ % 40))), (10, .int (nI (k_ / 40))), (9, .int (nI k_)), (0, .ref h0), (1, .int (nI m_)), (2, .int x2)]) hx hb dX9_lies_174 hl (by decide) rfl (fun ls hl => ?_)
        refine lv_iinc (v := nI (k_ + 1)) (lv' := [(9, .int (nI (k_ + 1))), (8, .int (nI (k_ % 40))), (6, .int (nI (k_ % 40))), (7, .int (nI (k_ / 40))), (5, .int (nI (k_ / 40))), (4, .int (z4 + 1)), (3, .int (z3 + 1)), (11, .int (nI (k_ % 40))), (10, .int (nI (k_ / 40))), (0, .ref h0), (1, .int (nI m_)), (2, .int x2)]) hx hb dX9_lies_176 hl (k := 8) rfl (nI_add k_ 1) (by decide) rfl (fun ls hl => ?_)
        refine lv_goto (tgt := 30) hx hb dX9_lies_179 (by decide) ?_
        exact ih (k_ + 1) (z3 + 1) (z4 + 1) (nI (k_ / 40)) (nI (k_ % 40)) (nI (k_ / 40)) (nI (k_ % 40)) (by omega) (by omega) _ (lv_sub hl [0, 6, 5, 4, 2, 3, 1, 9, 10, 11] rfl) kk0
      refine lv_goto (tgt := 176) hx hb dX9_lies_54 (by decide) ?_
      refine lv_iinc (v := nI (k_ + 1)) (lv' := [(9, .int (nI (k_ + 1))), (3, .int z3), (4, .int z4), (5, .int z5), (6, .int z6), (7, .int z7), (8, .int z8), (0, .ref h0), (1, .int (nI m_)), (2, .int x2)]) hx hb dX9_lies_176 hl (k := 0) rfl (nI_add k_ 1) (by decide) rfl (fun ls hl => ?_)
      refine lv_goto (tgt := 30) hx hb dX9_lies_179 (by decide) ?_
      exact ih (k_ + 1) z3 z4 z5 z6 z7 z8 (by omega) (by omega) _ (lv_sub hl [0, 1, 2, 3, 4, 5, 6, 7, 8, 9] rfl) kk0
    · refine lv_iload hx hb dX9_lies_30 (lv_at hl 0 rfl) ?_
      refine lv_sipush (v := 1600) hx hb dX9_lies_32 (by decide) ?_
      refine lv_icmp_ge (tgt := 182) hx hb dX9_lies_35 (by decide) (fun c_37 => ?_) (fun c_37 => absurd (nI_le hge (by omega)) c_37)
      exact kk0 z3 z4 z5 z6 z7 z8 _  (lv_sub hl [1, 2, 3, 4, 5, 6, 7, 8, 9] rfl)
set_option maxHeartbeats 4000000 in
set_option maxRecDepth 100000 in
/-- X9_lies -/
theorem k_X9_lies (l : Launch) (D : va_G) (cI cJ cZ cM : Nat) (h0 : Nat) (n : Nat → Nat) (mi : Nat → Int32) (mq : Nat → Int32) (mav : Nat → Nat → Int32) (n0 : Nat) (h_n : mi 1 = nI n0) (hn0 : n0 ≤ 10) (x1 : Int32) (x2 : Int32) : Met l yX9_lies wsX9_lies ({ frames := 2, cells := 0, slots := 0, locals := 43 } : Room) (RO D cI cJ cZ cM [.ref h0, .int x1, .int x2] [(h0, .inr (9, [.ref (n 0), .int (mi 1), .ref (n 2), .ref (n 3), .ref (n 4), .ref (n 5), .ref (n 6), .int (mi 7), .ref (n 8), .ref (n 9), .ref (n 10), .ref (n 11), .ref (n 12), .ref (n 13), .ref (n 14), .int (mi 15), .int (mi 16), .ref (n 17), .ref (n 18), .ref (n 19), .ref (n 20), .ref (n 21), .ref (n 22), .ref (n 23), .ref (n 24), .ref (n 25), .int (mi 26), .int (mi 27), .int (mi 28), .int (mi 29), .int (mi 30), .int (mi 31), .int (mi 32), .int (mi 33), .ref (n 34), .ref (n 35), .int (mq 36), .int (mq 37), .int (mq 38), .ref (n 39), .ref (n 40), .ref (n 41), .ref (n 42), .int (mq 43), .int (mq 44), .int (mq 45)])), (n 2, .inl (cI, 10, .inl (mav 2))), (n 3, .inl (cI, 10, .inl (mav 3))), (n 4, .inl (cI, 10, .inl (mav 4))), (n 5, .inl (cZ, 16000, .inl (mav 5))), (n 6, .inl (cZ, 10, .inl (mav 6)))]) (vp_Si (fun r => True)) 0 0 (fun _ => False) := by
  refine Met.ofW (cc := cX9_lies) (maxL := 12) (ret := (some .int)) (by decide) rfl ?_
  intro p e s m args below meth c s₁ B hml hv
  obtain ⟨rfl, hG, hP⟩ := hv
  have hx := B.exec
  have hb := B.bytes
  have hr := B.returns
  have hts := atoms_spec (ws := wsX9_lies) B.pre
  have hown : s.vm.findClass RX9 = some m.cls := findClass_of_methodNamed B.named
  have hlocks := B.notSynchronized
  have hK := hG.1
  have hN := hG.2
  have hl := lv_entry ([.ref h0, .int x1, .int x2]) (n := 12) (Nat.le_of_ble_eq_true rfl)
  rw [lg_entry_eq]
  generalize (lg_sl ([.ref h0, .int x1, .int x2]) ++ List.replicate (12 - (lg_sl ([.ref h0, .int x1, .int x2])).length) Slot.unset).toArray = ls at hl ⊢
  have hl : lv_has ls 12 [(0, .ref h0), (1, .int x1), (2, .int x2)] := hl
  refine lv_aload_n hx hb dX9_lies_0 rfl (lv_at hl 0 rfl) ?_
  refine lv_iload_n hx hb dX9_lies_1 rfl (lv_at hl 1 rfl) ?_
  have hPc := hP.sub (ws' := [(h0, .inr (9, [.ref (n 0), .int (mi 1), .ref (n 2), .ref (n 3), .ref (n 4), .ref (n 5), .ref (n 6), .int (mi 7), .ref (n 8), .ref (n 9), .ref (n 10), .ref (n 11), .ref (n 12), .ref (n 13), .ref (n 14), .int (mi 15), .int (mi 16), .ref (n 17), .ref (n 18), .ref (n 19), .ref (n 20), .ref (n 21), .ref (n 22), .ref (n 23), .ref (n 24), .ref (n 25), .int (mi 26), .int (mi 27), .int (mi 28), .int (mi 29), .int (mi 30), .int (mi 31), .int (mi 32), .int (mi 33), .ref (n 34), .ref (n 35), .int (mq 36), .int (mq 37), .int (mq 38), .ref (n 39), .ref (n 40), .ref (n 41), .ref (n 42), .int (mq 43), .int (mq 44), .int (mq 45)]))]) [0] rfl
  refine vp_callSi (va_Run.run (va_runV (As := [.int x1]) (rest := []) ⟨hx, hb, hml, hown, hts⟩ (k_X9_isMark l D cI cJ cZ cM h0 n mi mq mav n0 h_n hn0 x1) (cwV 1 hts gX9_lies_X9_isMark rfl rfl rfl (by decide +kernel) ⟨Nat.le_of_ble_eq_true rfl, Nat.le_of_ble_eq_true rfl⟩) (ro_V hG hPc (va_recv hK hPc (ci := 9) (q0 := 0) rfl rfl)) rfl rfl hl.1 rfl (lv_room (Nat.le_of_ble_eq_true rfl)) dX9_lies_2 ⟨Nat.le_of_ble_eq_true rfl, Nat.le_of_ble_eq_true rfl⟩)) (fun r_1 h_1 => ?_)
  rcases h_1 with ⟨rfl, m1_, hm1_, rfl⟩ | ⟨rfl, h_1⟩
  · have hl : lv_has ls 12 [(0, .ref h0), (1, .int (nI m1_)), (2, .int x2)] := hl
    refine W.eq (g2 := F0 m 5 ls [.int 1]) rfl ?_
    refine lv_if_ne (tgt := 10) hx hb dX9_lies_5 (by decide) (fun _ => ?_) (fun c_2 => False.elim (by revert c_2; decide))
    refine lv_iconst (v := 0) hx hb dX9_lies_10 (by decide) ?_
    refine lv_istore_n (lv' := [(3, .int 0), (0, .ref h0), (1, .int (nI m1_)), (2, .int x2)]) hx hb dX9_lies_11 rfl hl (by decide) rfl (fun ls hl => ?_)
    refine lv_iconst (v := 0) hx hb dX9_lies_12 (by decide) ?_
    refine lv_istore (lv' := [(4, .int 0), (3, .int 0), (0, .ref h0), (1, .int (nI m1_)), (2, .int x2)]) hx hb dX9_lies_13 hl (by decide) rfl (fun ls hl => ?_)
    refine lv_iconst (v := (-1)) hx hb dX9_lies_15 (by decide) ?_
    refine lv_istore (lv' := [(5, .int (-1)), (4, .int 0), (3, .int 0), (0, .ref h0), (1, .int (nI m1_)), (2, .int x2)]) hx hb dX9_lies_16 hl (by decide) rfl (fun ls hl => ?_)
    refine lv_iconst (v := (-1)) hx hb dX9_lies_18 (by decide) ?_
    refine lv_istore (lv' := [(6, .int (-1)), (5, .int (-1)), (4, .int 0), (3, .int 0), (0, .ref h0), (1, .int (nI m1_)), (2, .int x2)]) hx hb dX9_lies_19 hl (by decide) rfl (fun ls hl => ?_)
    refine lv_iconst (v := (-1)) hx hb dX9_lies_21 (by decide) ?_
    refine lv_istore (lv' := [(7, .int (-1)), (6, .int (-1)), (5, .int (-1)), (4, .int 0), (3, .int 0), (0, .ref h0), (1, .int (nI m1_)), (2, .int x2)]) hx hb dX9_lies_22 hl (by decide) rfl (fun ls hl => ?_)
    refine lv_iconst (v := (-1)) hx hb dX9_lies_24 (by decide) ?_
    refine lv_istore (lv' := [(8, .int (-1)), (7, .int (-1)), (6, .int (-1)), (5, .int (-1)), (4, .int 0), (3, .int 0), (0, .ref h0), (1, .int (nI m1_)), (2, .int x2)]) hx hb dX9_lies_25 hl (by decide) rfl (fun ls hl => ?_)
    refine lv_iconst (v := 0) hx hb dX9_lies_27 (by decide) ?_
    refine lv_istore (lv' := [(9, .int 0), (8, .int (-1)), (7, .int (-1)), (6, .int (-1)), (5, .int (-1)), (4, .int 0), (3, .int 0), (0, .ref h0), (1, .int (nI m1_)), (2, .int x2)]) hx hb dX9_lies_28 hl (by decide) rfl (fun ls hl => ?_)
    have hPl := hP.sub (ws' := [(h0, .inr (9, [.ref (n 0), .int (mi 1), .ref (n 2), .ref (n 3), .ref (n 4), .ref (n 5), .ref (n 6), .int (mi 7), .ref (n 8), .ref (n 9), .ref (n 10), .ref (n 11), .ref (n 12), .ref (n 13), .ref (n 14), .int (mi 15), .int (mi 16), .ref (n 17), .ref (n 18), .ref (n 19), .ref (n 20), .ref (n 21), .ref (n 22), .ref (n 23), .ref (n 24), .ref (n 25), .int (mi 26), .int (mi 27), .int (mi 28), .int (mi 29), .int (mi 30), .int (mi 31), .int (mi 32), .int (mi 33), .ref (n 34), .ref (n 35), .int (mq 36), .int (mq 37), .int (mq 38), .ref (n 39), .ref (n 40), .ref (n 41), .ref (n 42), .int (mq 43), .int (mq 44), .int (mq 45)])), (n 2, .inl (cI, 10, .inl (mav 2))), (n 3, .inl (cI, 10, .inl (mav 3))), (n 4, .inl (cI, 10, .inl (mav 4))), (n 5, .inl (cZ, 16000, .inl (mav 5))), (n 6, .inl (cZ, 10, .inl (mav 6)))]) [0, 1, 2, 3, 4, 5] rfl
    refine lp_X9_lies hx hb hml hts hown hG hPl (by omega) (1600 + 1) 0 0 0 (-1) (-1) (-1) (-1) (by omega) (by omega) _ (lv_sub hl [0, 6, 5, 4, 3, 2, 1, 7, 8, 9] rfl) (fun z3_3 z4_3 z5_3 z6_3 z7_3 z8_3 ls  hl => ?_)
    refine lv_iload_n hx hb dX9_lies_182 rfl (lv_at hl 8 rfl) ?_
    by_cases s_4 : x2 = 0
    · refine lv_tableIn (off := 49) (tgt := 232) hx hb dX9_lies_183 (by rw [s_4]; decide) (by rw [s_4]; decide) (by rw [s_4]; decide) (by decide) ?_
      refine lv_aload_n hx hb dX9_lies_232 rfl (lv_at hl 6 rfl) ?_
      refine va_get (D := D) (ci := 9) (v := .ref (n 6)) (C := RX9) (T := TX9) (N := 46) hx hb hts (fun _ h9 => List.mem_cons_of_mem _ (List.mem_append_right _ h9)) hown hK hP 0 rfl rfl 6 (by decide) (hts (.fieldLink RX9 26 "BuoyTenderModel" "isSighted" "[Z") (by decide +kernel)) (fun _ h9 => h9) rfl dX9_lies_233 ?_
      refine lv_iload_n hx hb dX9_lies_236 rfl (lv_at hl 7 rfl) ?_
      refine va_zald hx hb hK hP 5 2 rfl rfl (vp_in_nI (by omega) (by decide)) dX9_lies_237 ?_
      refine lv_topi (fun z_5 ez_5 => ?_)
      obtain rfl : z_5 = (mav 6) m1_ := ez_5.trans (congrArg (mav 6) (nI_clamp (by omega)))
      refine lv_if_ne (tgt := 245) hx hb dX9_lies_238 (by decide) (fun c_6 => ?_) (fun c_6 => ?_)
      · refine lv_iload_n hx hb dX9_lies_245 rfl (lv_at hl 0 rfl) ?_
        refine lv_if_ne (tgt := 253) hx hb dX9_lies_246 (by decide) (fun c_7 => ?_) (fun c_7 => ?_)
        · refine lv_iload hx hb dX9_lies_253 (lv_at hl 1 rfl) ?_
          refine lv_iload_n hx hb dX9_lies_255 rfl (lv_at hl 0 rfl) ?_
          refine lv_icmp_ne (tgt := 263) hx hb dX9_lies_256 (by decide) (fun c_8 => ?_) (fun c_8 => ?_)
          · refine lv_iload hx hb dX9_lies_263 (lv_at hl 1 rfl) ?_
            refine lv_if_ne (tgt := 272) hx hb dX9_lies_265 (by decide) (fun c_9 => ?_) (fun c_9 => ?_)
            · refine lv_iconst (v := 0) hx hb dX9_lies_272 (by decide) ?_
              exact W.iret (v := 0) hx hb hr (fun t ht hW => ⟨0, rfl, trivial, ht⟩) (fun _ h => by cases h) dX9_lies_273
            refine lv_iconst (v := 2) hx hb dX9_lies_268 (by decide) ?_
            refine lv_goto (tgt := 273) hx hb dX9_lies_269 (by decide) ?_
            exact W.iret (v := 2) hx hb hr (fun t ht hW => ⟨2, rfl, trivial, ht⟩) (fun _ h => by cases h) dX9_lies_273
          refine lv_iconst (v := 1) hx hb dX9_lies_259 (by decide) ?_
          refine lv_goto (tgt := 273) hx hb dX9_lies_260 (by decide) ?_
          exact W.iret (v := 1) hx hb hr (fun t ht hW => ⟨1, rfl, trivial, ht⟩) (fun _ h => by cases h) dX9_lies_273
        refine lv_iconst (v := 3) hx hb dX9_lies_249 (by decide) ?_
        refine lv_goto (tgt := 273) hx hb dX9_lies_250 (by decide) ?_
        exact W.iret (v := 3) hx hb hr (fun t ht hW => ⟨3, rfl, trivial, ht⟩) (fun _ h => by cases h) dX9_lies_273
      refine lv_iconst (v := 0) hx hb dX9_lies_241 (by decide) ?_
      refine lv_goto (tgt := 273) hx hb dX9_lies_242 (by decide) ?_
      exact W.iret (v := 0) hx hb hr (fun t ht hW => ⟨0, rfl, trivial, ht⟩) (fun _ h => by cases h) dX9_lies_273
    by_cases s_10 : x2 = 1
    · refine lv_tableIn (off := 91) (tgt := 274) hx hb dX9_lies_183 (by rw [s_10]; decide) (by rw [s_10]; decide) (by rw [s_10]; decide) (by decide) ?_
      refine lv_iload_n hx hb dX9_lies_274 rfl (lv_at hl 0 rfl) ?_
      exact W.iret (v := z3_3) hx hb hr (fun t ht hW => ⟨z3_3, rfl, trivial, ht⟩) (fun _ h => by cases h) dX9_lies_275
    by_cases s_11 : x2 = 2
    · refine lv_tableIn (off := 93) (tgt := 276) hx hb dX9_lies_183 (by rw [s_11]; decide) (by rw [s_11]; decide) (by rw [s_11]; decide) (by decide) ?_
      refine lv_iload hx hb dX9_lies_276 (lv_at hl 2 rfl) ?_
      exact W.iret (v := z5_3) hx hb hr (fun t ht hW => ⟨z5_3, rfl, trivial, ht⟩) (fun _ h => by cases h) dX9_lies_278
    by_cases s_12 : x2 = 3
    · refine lv_tableIn (off := 96) (tgt := 279) hx hb dX9_lies_183 (by rw [s_12]; decide) (by rw [s_12]; decide) (by rw [s_12]; decide) (by decide) ?_
      refine lv_iload hx hb dX9_lies_279 (lv_at hl 3 rfl) ?_
      exact W.iret (v := z6_3) hx hb hr (fun t ht hW => ⟨z6_3, rfl, trivial, ht⟩) (fun _ h => by cases h) dX9_lies_281
    by_cases s_13 : x2 = 4
    · refine lv_tableIn (off := 99) (tgt := 282) hx hb dX9_lies_183 (by rw [s_13]; decide) (by rw [s_13]; decide) (by rw [s_13]; decide) (by decide) ?_
      refine lv_iload hx hb dX9_lies_282 (lv_at hl 4 rfl) ?_
      exact W.iret (v := z7_3) hx hb hr (fun t ht hW => ⟨z7_3, rfl, trivial, ht⟩) (fun _ h => by cases h) dX9_lies_284
    by_cases s_14 : x2 = 5
    · refine lv_tableIn (off := 102) (tgt := 285) hx hb dX9_lies_183 (by rw [s_14]; decide) (by rw [s_14]; decide) (by rw [s_14]; decide) (by decide) ?_
      refine lv_iload hx hb dX9_lies_285 (lv_at hl 5 rfl) ?_
      exact W.iret (v := z8_3) hx hb hr (fun t ht hW => ⟨z8_3, rfl, trivial, ht⟩) (fun _ h => by cases h) dX9_lies_287
    by_cases s_15 : x2 = 6
    · refine lv_tableIn (off := 105) (tgt := 288) hx hb dX9_lies_183 (by rw [s_15]; decide) (by rw [s_15]; decide) (by rw [s_15]; decide) (by decide) ?_
      refine lv_aload_n hx hb dX9_lies_288 rfl (lv_at hl 6 rfl) ?_
      refine va_get (D := D) (ci := 9) (v := .ref (n 2)) (C := RX9) (T := TX9) (N := 46) hx hb hts (fun _ h9 => List.mem_cons_of_mem _ (List.mem_append_right _ h9)) hown hK hP 0 rfl rfl 2 (by decide) (hts (.fieldLink RX9 13 "BuoyTenderModel" "stationX" "[I") (by decide +kernel)) (fun _ h9 => h9) rfl dX9_lies_289 ?_
      refine lv_iload_n hx hb dX9_lies_292 rfl (lv_at hl 7 rfl) ?_
      refine va_iald hx hb hK hP 1 0 rfl rfl (vp_in_nI (by omega) (by decide)) dX9_lies_293 ?_
      refine lv_topi (fun z_16 ez_16 => ?_)
      obtain rfl : z_16 = (mav 2) m1_ := ez_16.trans (congrArg (mav 2) (nI_clamp (by omega)))
      exact W.iret (v := ((mav 2) m1_)) hx hb hr (fun t ht hW => ⟨((mav 2) m1_), rfl, trivial, ht⟩) (fun _ h => by cases h) dX9_lies_294
    by_cases s_17 : x2 = 7
    · refine lv_tableIn (off := 112) (tgt := 295) hx hb dX9_lies_183 (by rw [s_17]; decide) (by rw [s_17]; decide) (by rw [s_17]; decide) (by decide) ?_
      refine lv_aload_n hx hb dX9_lies_295 rfl (lv_at hl 6 rfl) ?_
      refine va_get (D := D) (ci := 9) (v := .ref (n 3)) (C := RX9) (T := TX9) (N := 46) hx hb hts (fun _ h9 => List.mem_cons_of_mem _ (List.mem_append_right _ h9)) hown hK hP 0 rfl rfl 3 (by decide) (hts (.fieldLink RX9 16 "BuoyTenderModel" "stationY" "[I") (by decide +kernel)) (fun _ h9 => h9) rfl dX9_lies_296 ?_
      refine lv_iload_n hx hb dX9_lies_299 rfl (lv_at hl 7 rfl) ?_
      refine va_iald hx hb hK hP 2 0 rfl rfl (vp_in_nI (by omega) (by decide)) dX9_lies_300 ?_
      refine lv_topi (fun z_18 ez_18 => ?_)
      obtain rfl : z_18 = (mav 3) m1_ := ez_18.trans (congrArg (mav 3) (nI_clamp (by omega)))
      exact W.iret (v := ((mav 3) m1_)) hx hb hr (fun t ht hW => ⟨((mav 3) m1_), rfl, trivial, ht⟩) (fun _ h => by cases h) dX9_lies_301
    by_cases s_19 : x2 = 8
    · refine lv_tableIn (off := 119) (tgt := 302) hx hb dX9_lies_183 (by rw [s_19]; decide) (by rw [s_19]; decide) (by rw [s_19]; decide) (by decide) ?_
      refine lv_aload_n hx hb dX9_lies_302 rfl (lv_at hl 6 rfl) ?_
      refine va_get (D := D) (ci := 9) (v := .ref (n 4)) (C := RX9) (T := TX9) (N := 46) hx hb hts (fun _ h9 => List.mem_cons_of_mem _ (List.mem_append_right _ h9)) hown hK hP 0 rfl rfl 4 (by decide) (hts (.fieldLink RX9 19 "BuoyTenderModel" "radius" "[I") (by decide +kernel)) (fun _ h9 => h9) rfl dX9_lies_303 ?_
      refine lv_iload_n hx hb dX9_lies_306 rfl (lv_at hl 7 rfl) ?_
      refine va_iald hx hb hK hP 3 0 rfl rfl (vp_in_nI (by omega) (by decide)) dX9_lies_307 ?_
      refine lv_topi (fun z_20 ez_20 => ?_)
      obtain rfl : z_20 = (mav 4) m1_ := ez_20.trans (congrArg (mav 4) (nI_clamp (by omega)))
      exact W.iret (v := ((mav 4) m1_)) hx hb hr (fun t ht hW => ⟨((mav 4) m1_), rfl, trivial, ht⟩) (fun _ h => by cases h) dX9_lies_308
    refine lv_tableOut (tgt := 309) hx hb dX9_lies_183 (my_out (hi := 8) (fun z hz => by rcases (show z = 0 ∨ z = 1 ∨ z = 2 ∨ z = 3 ∨ z = 4 ∨ z = 5 ∨ z = 6 ∨ z = 7 ∨ z = 8 by omega) with rfl | rfl | rfl | rfl | rfl | rfl | rfl | rfl | rfl <;> assumption) (by decide)) (by decide) ?_
    refine lv_iconst (v := (-1)) hx hb dX9_lies_309 (by decide) ?_
    exact W.iret (v := (-1)) hx hb hr (fun t ht hW => ⟨(-1), rfl, trivial, ht⟩) (fun _ h => by cases h) dX9_lies_310
  refine lv_if_ne (tgt := 10) hx hb dX9_lies_5 (by decide) (fun c_21 => False.elim (by revert c_21; decide)) (fun _ => ?_)
  refine lv_iconst (v := (-1)) hx hb dX9_lies_8 (by decide) ?_
  exact W.iret (v := (-1)) hx hb hr (fun t ht hW => ⟨(-1), rfl, trivial, ht⟩) (fun _ h => by cases h) dX9_lies_9
set_option maxHeartbeats 4000000 in
set_option maxRecDepth 100000 in
/-- X9_chain -/
theorem k_X9_chain (l : Launch) (D : va_G) (cI cJ cZ cM : Nat) (h0 : Nat) (n : Nat → Nat) (mi : Nat → Int32) (mq : Nat → Int32) (mav : Nat → Nat → Int32) (n0 : Nat) (h_n : mi 1 = nI n0) (hn0 : n0 ≤ 10) (T : Nat) (h_T : mi 7 = nI T) (hT : T ≤ 10000) (x1 : Int32) (x2 : Int32) (x3 : Int32) (x4 : Int32) (sz : Nat) : Met l yX9_chain wsX9_chain ({ frames := 2, cells := 0, slots := 0, locals := 43 } : Room) (RW D cI cJ cZ cM [.ref h0, .int x1, .int x2, .int x3, .int x4] [(h0, .inr (9, [.ref (n 0), .int (mi 1), .ref (n 2), .ref (n 3), .ref (n 4), .ref (n 5), .ref (n 6), .int (mi 7), .ref (n 8), .ref (n 9), .ref (n 10), .ref (n 11), .ref (n 12), .ref (n 13), .ref (n 14), .int (mi 15), .int (mi 16), .ref (n 17), .ref (n 18), .ref (n 19), .ref (n 20), .ref (n 21), .ref (n 22), .ref (n 23), .ref (n 24), .ref (n 25), .int (mi 26), .int (mi 27), .int (mi 28), .int (mi 29), .int (mi 30), .int (mi 31), .int (mi 32), .int (mi 33), .ref (n 34), .ref (n 35), .int (mq 36), .int (mq 37), .int (mq 38), .ref (n 39), .ref (n 40), .ref (n 41), .ref (n 42), .int (mq 43), .int (mq 44), .int (mq 45)])), (n 8, .inl (cI, 10, .inl (mav 8))), (n 9, .inl (cI, 10, .inl (mav 9))), (n 10, .inl (cI, 10, .inl (mav 10))), (n 11, .inl (cI, 10, .inl (mav 11)))] sz) (va_Qi (S := (Nat → Int32) × (Nat → Int32) × (Nat → Int32) × (Nat → Int32)) (fun r u => (r = 1 ∧ (isM n0 x1 ∧ (1 ≤ x2 ∧ x2 ≤ 1000) ∧ (0 ≤ x3 ∧ x3 ≤ x2) ∧ (0 ≤ x4 ∧ x4 ≤ 3)) ∧ ∃ i, i < n0 ∧ x1 = nI i ∧ u = (upd (mav 8) i (nI (T / 30)), upd (mav 9) i x2, upd (mav 10) i x3, upd (mav 11) i x4)) ∨ (r = 0 ∧ ¬ (isM n0 x1 ∧ (1 ≤ x2 ∧ x2 ≤ 1000) ∧ (0 ≤ x3 ∧ x3 ≤ x2) ∧ (0 ≤ x4 ∧ x4 ≤ 3)) ∧ u = (mav 8, mav 9, mav 10, mav 11))) (BB D (fun u => [(h0, .inr (9, [.ref (n 0), .int (mi 1), .ref (n 2), .ref (n 3), .ref (n 4), .ref (n 5), .ref (n 6), .int (mi 7), .ref (n 8), .ref (n 9), .ref (n 10), .ref (n 11), .ref (n 12), .ref (n 13), .ref (n 14), .int (mi 15), .int (mi 16), .ref (n 17), .ref (n 18), .ref (n 19), .ref (n 20), .ref (n 21), .ref (n 22), .ref (n 23), .ref (n 24), .ref (n 25), .int (mi 26), .int (mi 27), .int (mi 28), .int (mi 29), .int (mi 30), .int (mi 31), .int (mi 32), .int (mi 33), .ref (n 34), .ref (n 35), .int (mq 36), .int (mq 37), .int (mq 38), .ref (n 39), .ref (n 40), .ref (n 41), .ref (n 42), .int (mq 43), .int (mq 44), .int (mq 45)])), (n 8, .inl (cI, 10, .inl u.1)), (n 9, .inl (cI, 10, .inl u.2.1)), (n 10, .inl (cI, 10, .inl u.2.2.1)), (n 11, .inl (cI, 10, .inl u.2.2.2))]) (va_A [(h0, .inr (9, [.ref (n 0), .int (mi 1), .ref (n 2), .ref (n 3), .ref (n 4), .ref (n 5), .ref (n 6), .int (mi 7), .ref (n 8), .ref (n 9), .ref (n 10), .ref (n 11), .ref (n 12), .ref (n 13), .ref (n 14), .int (mi 15), .int (mi 16), .ref (n 17), .ref (n 18), .ref (n 19), .ref (n 20), .ref (n 21), .ref (n 22), .ref (n 23), .ref (n 24), .ref (n 25), .int (mi 26), .int (mi 27), .int (mi 28), .int (mi 29), .int (mi 30), .int (mi 31), .int (mi 32), .int (mi 33), .ref (n 34), .ref (n 35), .int (mq 36), .int (mq 37), .int (mq 38), .ref (n 39), .ref (n 40), .ref (n 41), .ref (n 42), .int (mq 43), .int (mq 44), .int (mq 45)])), (n 8, .inl (cI, 10, .inl (mav 8))), (n 9, .inl (cI, 10, .inl (mav 9))), (n 10, .inl (cI, 10, .inl (mav 10))), (n 11, .inl (cI, 10, .inl (mav 11)))] sz)) (va_A [(h0, .inr (9, [.ref (n 0), .int (mi 1), .ref (n 2), .ref (n 3), .ref (n 4), .ref (n 5), .ref (n 6), .int (mi 7), .ref (n 8), .ref (n 9), .ref (n 10), .ref (n 11), .ref (n 12), .ref (n 13), .ref (n 14), .int (mi 15), .int (mi 16), .ref (n 17), .ref (n 18), .ref (n 19), .ref (n 20), .ref (n 21), .ref (n 22), .ref (n 23), .ref (n 24), .ref (n 25), .int (mi 26), .int (mi 27), .int (mi 28), .int (mi 29), .int (mi 30), .int (mi 31), .int (mi 32), .int (mi 33), .ref (n 34), .ref (n 35), .int (mq 36), .int (mq 37), .int (mq 38), .ref (n 39), .ref (n 40), .ref (n 41), .ref (n 42), .int (mq 43), .int (mq 44), .int (mq 45)])), (n 8, .inl (cI, 10, .inl (mav 8))), (n 9, .inl (cI, 10, .inl (mav 9))), (n 10, .inl (cI, 10, .inl (mav 10))), (n 11, .inl (cI, 10, .inl (mav 11)))] sz)) 0 0 (va_A [(h0, .inr (9, [.ref (n 0), .int (mi 1), .ref (n 2), .ref (n 3), .ref (n 4), .ref (n 5), .ref (n 6), .int (mi 7), .ref (n 8), .ref (n 9), .ref (n 10), .ref (n 11), .ref (n 12), .ref (n 13), .ref (n 14), .int (mi 15), .int (mi 16), .ref (n 17), .ref (n 18), .ref (n 19), .ref (n 20), .ref (n 21), .ref (n 22), .ref (n 23), .ref (n 24), .ref (n 25), .int (mi 26), .int (mi 27), .int (mi 28), .int (mi 29), .int (mi 30), .int (mi 31), .int (mi 32), .int (mi 33), .ref (n 34), .ref (n 35), .int (mq 36), .int (mq 37), .int (mq 38), .ref (n 39), .ref (n 40), .ref (n 41), .ref (n 42), .int (mq 43), .int (mq 44), .int (mq 45)])), (n 8, .inl (cI, 10, .inl (mav 8))), (n 9, .inl (cI, 10, .inl (mav 9))), (n 10, .inl (cI, 10, .inl (mav 10))), (n 11, .inl (cI, 10, .inl (mav 11)))] sz) := by
  refine Met.ofW (cc := cX9_chain) (maxL := 5) (ret := (some .boolean)) (by decide) rfl ?_
  intro p e s m args below meth c s₁ B hml hv
  obtain ⟨rfl, hsz, hG, hP, hD0⟩ := hv
  have hx := B.exec
  have hb := B.bytes
  have hr := B.returns
  have hts := atoms_spec (ws := wsX9_chain) B.pre
  have hown : s.vm.findClass RX9 = some m.cls := findClass_of_methodNamed B.named
  have hlocks := B.notSynchronized
  have hK := hG.1
  have hN := hG.2
  subst hsz
  have hD := hD0.self (sz := s.heap.size)
  generalize hAe : va_A [(h0, .inr (9, [.ref (n 0), .int (mi 1), .ref (n 2), .ref (n 3), .ref (n 4), .ref (n 5), .ref (n 6), .int (mi 7), .ref (n 8), .ref (n 9), .ref (n 10), .ref (n 11), .ref (n 12), .ref (n 13), .ref (n 14), .int (mi 15), .int (mi 16), .ref (n 17), .ref (n 18), .ref (n 19), .ref (n 20), .ref (n 21), .ref (n 22), .ref (n 23), .ref (n 24), .ref (n 25), .int (mi 26), .int (mi 27), .int (mi 28), .int (mi 29), .int (mi 30), .int (mi 31), .int (mi 32), .int (mi 33), .ref (n 34), .ref (n 35), .int (mq 36), .int (mq 37), .int (mq 38), .ref (n 39), .ref (n 40), .ref (n 41), .ref (n 42), .int (mq 43), .int (mq 44), .int (mq 45)])), (n 8, .inl (cI, 10, .inl (mav 8))), (n 9, .inl (cI, 10, .inl (mav 9))), (n 10, .inl (cI, 10, .inl (mav 10))), (n 11, .inl (cI, 10, .inl (mav 11)))] s.heap.size = A at hD ⊢
  have hA : ∀ q : Nat, s.heap.size ≤ q → A q := fun q h => by rw [← hAe]; exact Or.inr h
  have hS : va_S A s.heap s.heap [] := va_S.rf
  have hP : va_P D vwCl [(h0, .inr (9, [.ref (n 0), .int (mi 1), .ref (n 2), .ref (n 3), .ref (n 4), .ref (n 5), .ref (n 6), .int (mi 7), .ref (n 8), .ref (n 9), .ref (n 10), .ref (n 11), .ref (n 12), .ref (n 13), .ref (n 14), .int (mi 15), .int (mi 16), .ref (n 17), .ref (n 18), .ref (n 19), .ref (n 20), .ref (n 21), .ref (n 22), .ref (n 23), .ref (n 24), .ref (n 25), .int (mi 26), .int (mi 27), .int (mi 28), .int (mi 29), .int (mi 30), .int (mi 31), .int (mi 32), .int (mi 33), .ref (n 34), .ref (n 35), .int (mq 36), .int (mq 37), .int (mq 38), .ref (n 39), .ref (n 40), .ref (n 41), .ref (n 42), .int (mq 43), .int (mq 44), .int (mq 45)])), (n 8, .inl (cI, 10, .inl (mav 8))), (n 9, .inl (cI, 10, .inl (mav 9))), (n 10, .inl (cI, 10, .inl (mav 10))), (n 11, .inl (cI, 10, .inl (mav 11)))] s.heap := hP
  have hl := lv_entry ([.ref h0, .int x1, .int x2, .int x3, .int x4]) (n := 5) (Nat.le_of_ble_eq_true rfl)
  rw [lg_entry_eq]
  generalize (lg_sl ([.ref h0, .int x1, .int x2, .int x3, .int x4]) ++ List.replicate (5 - (lg_sl ([.ref h0, .int x1, .int x2, .int x3, .int x4])).length) Slot.unset).toArray = ls at hl ⊢
  have hl : lv_has ls 5 [(0, .ref h0), (1, .int x1), (2, .int x2), (3, .int x3), (4, .int x4)] := hl
  refine lv_aload_n hx hb dX9_chain_0 rfl (lv_at hl 0 rfl) ?_
  refine lv_iload_n hx hb dX9_chain_1 rfl (lv_at hl 1 rfl) ?_
  have hPc := hP.sub (ws' := [(h0, .inr (9, [.ref (n 0), .int (mi 1), .ref (n 2), .ref (n 3), .ref (n 4), .ref (n 5), .ref (n 6), .int (mi 7), .ref (n 8), .ref (n 9), .ref (n 10), .ref (n 11), .ref (n 12), .ref (n 13), .ref (n 14), .int (mi 15), .int (mi 16), .ref (n 17), .ref (n 18), .ref (n 19), .ref (n 20), .ref (n 21), .ref (n 22), .ref (n 23), .ref (n 24), .ref (n 25), .int (mi 26), .int (mi 27), .int (mi 28), .int (mi 29), .int (mi 30), .int (mi 31), .int (mi 32), .int (mi 33), .ref (n 34), .ref (n 35), .int (mq 36), .int (mq 37), .int (mq 38), .ref (n 39), .ref (n 40), .ref (n 41), .ref (n 42), .int (mq 43), .int (mq 44), .int (mq 45)]))]) [0] rfl
  refine vp_callSi (va_Run.run (va_runV (As := [.int x1]) (rest := []) ⟨hx, hb, hml, hown, hts⟩ (k_X9_isMark l D cI cJ cZ cM h0 n mi mq mav n0 h_n hn0 x1) (cwV 1 hts gX9_chain_X9_isMark rfl rfl rfl (by decide +kernel) ⟨Nat.le_of_ble_eq_true rfl, Nat.le_of_ble_eq_true rfl⟩) (ro_V hG hPc (va_recv hK hPc (ci := 9) (q0 := 0) rfl rfl)) rfl rfl hl.1 rfl (lv_room (Nat.le_of_ble_eq_true rfl)) dX9_chain_2 ⟨Nat.le_of_ble_eq_true rfl, Nat.le_of_ble_eq_true rfl⟩)) (fun r_1 h_1 => ?_)
  rcases h_1 with ⟨rfl, m1_, hm1_, rfl⟩ | ⟨rfl, h_1⟩
  · have hl : lv_has ls 5 [(0, .ref h0), (1, .int (nI m1_)), (2, .int x2), (3, .int x3), (4, .int x4)] := hl
    refine W.eq (g2 := F0 m 5 ls [.int 1]) rfl ?_
    refine lv_if_eq (tgt := 38) hx hb dX9_chain_5 (by decide) (fun c_2 => False.elim (by revert c_2; decide)) (fun _ => ?_)
    refine lv_iload_n hx hb dX9_chain_8 rfl (lv_at hl 2 rfl) ?_
    refine lv_iconst (v := 1) hx hb dX9_chain_9 (by decide) ?_
    refine lv_sipush (v := 1000) hx hb dX9_chain_10 (by decide) ?_
    refine vp_callSi (va_Run.run (va_runS (As := [.int x2, .int 1, .int 1000]) (rest := []) ⟨hx, hb, hml, hown, hts⟩ (k_X9_in l x2 1 1000) (va_cwS 3 hts gX9_chain_X9_in rfl rfl rfl (by decide +kernel) ⟨Nat.le_of_ble_eq_true rfl, Nat.le_of_ble_eq_true rfl⟩) preEq rfl rfl hl.1 rfl (lv_room (Nat.le_of_ble_eq_true rfl)) dX9_chain_13 ⟨Nat.le_of_ble_eq_true rfl, Nat.le_of_ble_eq_true rfl⟩)) (fun r_3 h_3 => ?_)
    rcases h_3 with ⟨rfl, h_3⟩ | ⟨rfl, h_3⟩
    · refine lv_if_eq (tgt := 38) hx hb dX9_chain_16 (by decide) (fun c_4 => False.elim (by revert c_4; decide)) (fun _ => ?_)
      refine lv_iload_n hx hb dX9_chain_19 rfl (lv_at hl 3 rfl) ?_
      refine lv_iconst (v := 0) hx hb dX9_chain_20 (by decide) ?_
      refine lv_iload_n hx hb dX9_chain_21 rfl (lv_at hl 2 rfl) ?_
      refine vp_callSi (va_Run.run (va_runS (As := [.int x3, .int 0, .int x2]) (rest := []) ⟨hx, hb, hml, hown, hts⟩ (k_X9_in l x3 0 x2) (va_cwS 3 hts gX9_chain_X9_in rfl rfl rfl (by decide +kernel) ⟨Nat.le_of_ble_eq_true rfl, Nat.le_of_ble_eq_true rfl⟩) preEq rfl rfl hl.1 rfl (lv_room (Nat.le_of_ble_eq_true rfl)) dX9_chain_22 ⟨Nat.le_of_ble_eq_true rfl, Nat.le_of_ble_eq_true rfl⟩)) (fun r_5 h_5 => ?_)
      rcases h_5 with ⟨rfl, h_5⟩ | ⟨rfl, h_5⟩
      · refine lv_if_eq (tgt := 38) hx hb dX9_chain_25 (by decide) (fun c_6 => False.elim (by revert c_6; decide)) (fun _ => ?_)
        refine lv_iload hx hb dX9_chain_28 (lv_at hl 4 rfl) ?_
        refine lv_iconst (v := 0) hx hb dX9_chain_30 (by decide) ?_
        refine lv_iconst (v := 3) hx hb dX9_chain_31 (by decide) ?_
        refine vp_callSi (va_Run.run (va_runS (As := [.int x4, .int 0, .int 3]) (rest := []) ⟨hx, hb, hml, hown, hts⟩ (k_X9_in l x4 0 3) (va_cwS 3 hts gX9_chain_X9_in rfl rfl rfl (by decide +kernel) ⟨Nat.le_of_ble_eq_true rfl, Nat.le_of_ble_eq_true rfl⟩) preEq rfl rfl hl.1 rfl (lv_room (Nat.le_of_ble_eq_true rfl)) dX9_chain_32 ⟨Nat.le_of_ble_eq_true rfl, Nat.le_of_ble_eq_true rfl⟩)) (fun r_7 h_7 => ?_)
        rcases h_7 with ⟨rfl, h_7⟩ | ⟨rfl, h_7⟩
        · refine lv_if_ne (tgt := 40) hx hb dX9_chain_35 (by decide) (fun _ => ?_) (fun c_8 => False.elim (by revert c_8; decide))
          refine lv_aload_n hx hb dX9_chain_40 rfl (lv_at hl 0 rfl) ?_
          refine va_get (D := D) (ci := 9) (v := .ref (n 8)) (C := RX9) (T := TX9) (N := 46) hx hb hts (fun _ h9 => List.mem_cons_of_mem _ (List.mem_append_right _ h9)) hown hK hP 0 rfl rfl 8 (by decide) (hts (.fieldLink RX9 29 "BuoyTenderModel" "chainMonth" "[I") (by decide +kernel)) (fun _ h9 => h9) rfl dX9_chain_41 ?_
          refine lv_iload_n hx hb dX9_chain_44 rfl (lv_at hl 1 rfl) ?_
          refine lv_aload_n hx hb dX9_chain_45 rfl (lv_at hl 0 rfl) ?_
          refine va_get (D := D) (ci := 9) (v := .int (mi 7)) (C := RX9) (T := TX9) (N := 46) hx hb hts (fun _ h9 => List.mem_cons_of_mem _ (List.mem_append_right _ h9)) hown hK hP 0 rfl rfl 7 (by decide) (hts (.fieldLink RX9 131 "BuoyTenderModel" "clock" "I") (by decide +kernel)) (fun _ h9 => h9) rfl dX9_chain_46 ?_
          refine lv_topi (fun z_9 ez_9 => ?_)
          obtain rfl : z_9 = nI T := ez_9.trans h_T
          refine lv_bipush (v := 30) hx hb dX9_chain_49 (by decide) ?_
          refine lv_idiv hx hb dX9_chain_51 (by decide) ?_
          refine lv_topi (fun z_10 ez_10 => ?_)
          obtain rfl : z_10 = nI (T / 30) := ez_10.trans (pk_div (by omega) (by decide) (by decide))
          refine va_iast hx hb hK hP hD hS 1 0 rfl rfl (vp_in_nI (by omega) (by decide)) dX9_chain_52 (fun H locs hP hD hS => ?_)
          rw [nI_clamp (by omega)] at hP hD
          have hP : va_P D vwCl [(h0, .inr (9, [.ref (n 0), .int (mi 1), .ref (n 2), .ref (n 3), .ref (n 4), .ref (n 5), .ref (n 6), .int (mi 7), .ref (n 8), .ref (n 9), .ref (n 10), .ref (n 11), .ref (n 12), .ref (n 13), .ref (n 14), .int (mi 15), .int (mi 16), .ref (n 17), .ref (n 18), .ref (n 19), .ref (n 20), .ref (n 21), .ref (n 22), .ref (n 23), .ref (n 24), .ref (n 25), .int (mi 26), .int (mi 27), .int (mi 28), .int (mi 29), .int (mi 30), .int (mi 31), .int (mi 32), .int (mi 33), .ref (n 34), .ref (n 35), .int (mq 36), .int (mq 37), .int (mq 38), .ref (n 39), .ref (n 40), .ref (n 41), .ref (n 42), .int (mq 43), .int (mq 44), .int (mq 45)])), (n 8, .inl (cI, 10, .inl (upd (mav 8) m1_ (nI (T / 30))))), (n 9, .inl (cI, 10, .inl (mav 9))), (n 10, .inl (cI, 10, .inl (mav 10))), (n 11, .inl (cI, 10, .inl (mav 11)))] H := hP
          have hD : va_D A [(h0, .inr (9, [.ref (n 0), .int (mi 1), .ref (n 2), .ref (n 3), .ref (n 4), .ref (n 5), .ref (n 6), .int (mi 7), .ref (n 8), .ref (n 9), .ref (n 10), .ref (n 11), .ref (n 12), .ref (n 13), .ref (n 14), .int (mi 15), .int (mi 16), .ref (n 17), .ref (n 18), .ref (n 19), .ref (n 20), .ref (n 21), .ref (n 22), .ref (n 23), .ref (n 24), .ref (n 25), .int (mi 26), .int (mi 27), .int (mi 28), .int (mi 29), .int (mi 30), .int (mi 31), .int (mi 32), .int (mi 33), .ref (n 34), .ref (n 35), .int (mq 36), .int (mq 37), .int (mq 38), .ref (n 39), .ref (n 40), .ref (n 41), .ref (n 42), .int (mq 43), .int (mq 44), .int (mq 45)])), (n 8, .inl (cI, 10, .inl (upd (mav 8) m1_ (nI (T / 30))))), (n 9, .inl (cI, 10, .inl (mav 9))), (n 10, .inl (cI, 10, .inl (mav 10))), (n 11, .inl (cI, 10, .inl (mav 11)))] := hD
          refine lv_aload_n hx hb dX9_chain_53 rfl (lv_at hl 0 rfl) ?_
          refine va_get (D := D) (ci := 9) (v := .ref (n 9)) (C := RX9) (T := TX9) (N := 46) hx hb hts (fun _ h9 => List.mem_cons_of_mem _ (List.mem_append_right _ h9)) hown hK hP 0 rfl rfl 9 (by decide) (hts (.fieldLink RX9 32 "BuoyTenderModel" "thickness" "[I") (by decide +kernel)) (fun _ h9 => h9) rfl dX9_chain_54 ?_
          refine lv_iload_n hx hb dX9_chain_57 rfl (lv_at hl 1 rfl) ?_
          refine lv_iload_n hx hb dX9_chain_58 rfl (lv_at hl 2 rfl) ?_
          refine va_iast hx hb hK hP hD hS 2 0 rfl rfl (vp_in_nI (by omega) (by decide)) dX9_chain_59 (fun H locs hP hD hS => ?_)
          rw [nI_clamp (by omega)] at hP hD
          have hP : va_P D vwCl [(h0, .inr (9, [.ref (n 0), .int (mi 1), .ref (n 2), .ref (n 3), .ref (n 4), .ref (n 5), .ref (n 6), .int (mi 7), .ref (n 8), .ref (n 9), .ref (n 10), .ref (n 11), .ref (n 12), .ref (n 13), .ref (n 14), .int (mi 15), .int (mi 16), .ref (n 17), .ref (n 18), .ref (n 19), .ref (n 20), .ref (n 21), .ref (n 22), .ref (n 23), .ref (n 24), .ref (n 25), .int (mi 26), .int (mi 27), .int (mi 28), .int (mi 29), .int (mi 30), .int (mi 31), .int (mi 32), .int (mi 33), .ref (n 34), .ref (n 35), .int (mq 36), .int (mq 37), .int (mq 38), .ref (n 39), .ref (n 40), .ref (n 41), .ref (n 42), .int (mq 43), .int (mq 44), .int (mq 45)])), (n 8, .inl (cI, 10, .inl (upd (mav 8) m1_ (nI (T / 30))))), (n 9, .inl (cI, 10, .inl (upd (mav 9) m1_ x2))), (n 10, .inl (cI, 10, .inl (mav 10))), (n 11, .inl (cI, 10, .inl (mav 11)))] H := hP
          have hD : va_D A [(h0, .inr (9, [.ref (n 0), .int (mi 1), .ref (n 2), .ref (n 3), .ref (n 4), .ref (n 5), .ref (n 6), .int (mi 7), .ref (n 8), .ref (n 9), .ref (n 10), .ref (n 11), .ref (n 12), .ref (n 13), .ref (n 14), .int (mi 15), .int (mi 16), .ref (n 17), .ref (n 18), .ref (n 19), .ref (n 20), .ref (n 21), .ref (n 22), .ref (n 23), .ref (n 24), .ref (n 25), .int (mi 26), .int (mi 27), .int (mi 28), .int (mi 29), .int (mi 30), .int (mi 31), .int (mi 32), .int (mi 33), .ref (n 34), .ref (n 35), .int (mq 36), .int (mq 37), .int (mq 38), .ref (n 39), .ref (n 40), .ref (n 41), .ref (n 42), .int (mq 43), .int (mq 44), .int (mq 45)])), (n 8, .inl (cI, 10, .inl (upd (mav 8) m1_ (nI (T / 30))))), (n 9, .inl (cI, 10, .inl (upd (mav 9) m1_ x2))), (n 10, .inl (cI, 10, .inl (mav 10))), (n 11, .inl (cI, 10, .inl (mav 11)))] := hD
          refine lv_aload_n hx hb dX9_chain_60 rfl (lv_at hl 0 rfl) ?_
          refine va_get (D := D) (ci := 9) (v := .ref (n 10)) (C := RX9) (T := TX9) (N := 46) hx hb hts (fun _ h9 => List.mem_cons_of_mem _ (List.mem_append_right _ h9)) hown hK hP 0 rfl rfl 10 (by decide) (hts (.fieldLink RX9 35 "BuoyTenderModel" "least" "[I") (by decide +kernel)) (fun _ h9 => h9) rfl dX9_chain_61 ?_
          refine lv_iload_n hx hb dX9_chain_64 rfl (lv_at hl 1 rfl) ?_
          refine lv_iload_n hx hb dX9_chain_65 rfl (lv_at hl 3 rfl) ?_
          refine va_iast hx hb hK hP hD hS 3 0 rfl rfl (vp_in_nI (by omega) (by decide)) dX9_chain_66 (fun H locs hP hD hS => ?_)
          rw [nI_clamp (by omega)] at hP hD
          have hP : va_P D vwCl [(h0, .inr (9, [.ref (n 0), .int (mi 1), .ref (n 2), .ref (n 3), .ref (n 4), .ref (n 5), .ref (n 6), .int (mi 7), .ref (n 8), .ref (n 9), .ref (n 10), .ref (n 11), .ref (n 12), .ref (n 13), .ref (n 14), .int (mi 15), .int (mi 16), .ref (n 17), .ref (n 18), .ref (n 19), .ref (n 20), .ref (n 21), .ref (n 22), .ref (n 23), .ref (n 24), .ref (n 25), .int (mi 26), .int (mi 27), .int (mi 28), .int (mi 29), .int (mi 30), .int (mi 31), .int (mi 32), .int (mi 33), .ref (n 34), .ref (n 35), .int (mq 36), .int (mq 37), .int (mq 38), .ref (n 39), .ref (n 40), .ref (n 41), .ref (n 42), .int (mq 43), .int (mq 44), .int (mq 45)])), (n 8, .inl (cI, 10, .inl (upd (mav 8) m1_ (nI (T / 30))))), (n 9, .inl (cI, 10, .inl (upd (mav 9) m1_ x2))), (n 10, .inl (cI, 10, .inl (upd (mav 10) m1_ x3))), (n 11, .inl (cI, 10, .inl (mav 11)))] H := hP
          have hD : va_D A [(h0, .inr (9, [.ref (n 0), .int (mi 1), .ref (n 2), .ref (n 3), .ref (n 4), .ref (n 5), .ref (n 6), .int (mi 7), .ref (n 8), .ref (n 9), .ref (n 10), .ref (n 11), .ref (n 12), .ref (n 13), .ref (n 14), .int (mi 15), .int (mi 16), .ref (n 17), .ref (n 18), .ref (n 19), .ref (n 20), .ref (n 21), .ref (n 22), .ref (n 23), .ref (n 24), .ref (n 25), .int (mi 26), .int (mi 27), .int (mi 28), .int (mi 29), .int (mi 30), .int (mi 31), .int (mi 32), .int (mi 33), .ref (n 34), .ref (n 35), .int (mq 36), .int (mq 37), .int (mq 38), .ref (n 39), .ref (n 40), .ref (n 41), .ref (n 42), .int (mq 43), .int (mq 44), .int (mq 45)])), (n 8, .inl (cI, 10, .inl (upd (mav 8) m1_ (nI (T / 30))))), (n 9, .inl (cI, 10, .inl (upd (mav 9) m1_ x2))), (n 10, .inl (cI, 10, .inl (upd (mav 10) m1_ x3))), (n 11, .inl (cI, 10, .inl (mav 11)))] := hD
          refine lv_aload_n hx hb dX9_chain_67 rfl (lv_at hl 0 rfl) ?_
          refine va_get (D := D) (ci := 9) (v := .ref (n 11)) (C := RX9) (T := TX9) (N := 46) hx hb hts (fun _ h9 => List.mem_cons_of_mem _ (List.mem_append_right _ h9)) hown hK hP 0 rfl rfl 11 (by decide) (hts (.fieldLink RX9 38 "BuoyTenderModel" "ground" "[I") (by decide +kernel)) (fun _ h9 => h9) rfl dX9_chain_68 ?_
          refine lv_iload_n hx hb dX9_chain_71 rfl (lv_at hl 1 rfl) ?_
          refine lv_iload hx hb dX9_chain_72 (lv_at hl 4 rfl) ?_
          refine va_iast hx hb hK hP hD hS 4 0 rfl rfl (vp_in_nI (by omega) (by decide)) dX9_chain_74 (fun H locs hP hD hS => ?_)
          rw [nI_clamp (by omega)] at hP hD
          have hP : va_P D vwCl [(h0, .inr (9, [.ref (n 0), .int (mi 1), .ref (n 2), .ref (n 3), .ref (n 4), .ref (n 5), .ref (n 6), .int (mi 7), .ref (n 8), .ref (n 9), .ref (n 10), .ref (n 11), .ref (n 12), .ref (n 13), .ref (n 14), .int (mi 15), .int (mi 16), .ref (n 17), .ref (n 18), .ref (n 19), .ref (n 20), .ref (n 21), .ref (n 22), .ref (n 23), .ref (n 24), .ref (n 25), .int (mi 26), .int (mi 27), .int (mi 28), .int (mi 29), .int (mi 30), .int (mi 31), .int (mi 32), .int (mi 33), .ref (n 34), .ref (n 35), .int (mq 36), .int (mq 37), .int (mq 38), .ref (n 39), .ref (n 40), .ref (n 41), .ref (n 42), .int (mq 43), .int (mq 44), .int (mq 45)])), (n 8, .inl (cI, 10, .inl (upd (mav 8) m1_ (nI (T / 30))))), (n 9, .inl (cI, 10, .inl (upd (mav 9) m1_ x2))), (n 10, .inl (cI, 10, .inl (upd (mav 10) m1_ x3))), (n 11, .inl (cI, 10, .inl (upd (mav 11) m1_ x4)))] H := hP
          have hD : va_D A [(h0, .inr (9, [.ref (n 0), .int (mi 1), .ref (n 2), .ref (n 3), .ref (n 4), .ref (n 5), .ref (n 6), .int (mi 7), .ref (n 8), .ref (n 9), .ref (n 10), .ref (n 11), .ref (n 12), .ref (n 13), .ref (n 14), .int (mi 15), .int (mi 16), .ref (n 17), .ref (n 18), .ref (n 19), .ref (n 20), .ref (n 21), .ref (n 22), .ref (n 23), .ref (n 24), .ref (n 25), .int (mi 26), .int (mi 27), .int (mi 28), .int (mi 29), .int (mi 30), .int (mi 31), .int (mi 32), .int (mi 33), .ref (n 34), .ref (n 35), .int (mq 36), .int (mq 37), .int (mq 38), .ref (n 39), .ref (n 40), .ref (n 41), .ref (n 42), .int (mq 43), .int (mq 44), .int (mq 45)])), (n 8, .inl (cI, 10, .inl (upd (mav 8) m1_ (nI (T / 30))))), (n 9, .inl (cI, 10, .inl (upd (mav 9) m1_ x2))), (n 10, .inl (cI, 10, .inl (upd (mav 10) m1_ x3))), (n 11, .inl (cI, 10, .inl (upd (mav 11) m1_ x4)))] := hD
          refine lv_iconst (v := 1) hx hb dX9_chain_75 (by decide) ?_
          have hP9 := hP.sub (ws' := [(h0, .inr (9, [.ref (n 0), .int (mi 1), .ref (n 2), .ref (n 3), .ref (n 4), .ref (n 5), .ref (n 6), .int (mi 7), .ref (n 8), .ref (n 9), .ref (n 10), .ref (n 11), .ref (n 12), .ref (n 13), .ref (n 14), .int (mi 15), .int (mi 16), .ref (n 17), .ref (n 18), .ref (n 19), .ref (n 20), .ref (n 21), .ref (n 22), .ref (n 23), .ref (n 24), .ref (n 25), .int (mi 26), .int (mi 27), .int (mi 28), .int (mi 29), .int (mi 30), .int (mi 31), .int (mi 32), .int (mi 33), .ref (n 34), .ref (n 35), .int (mq 36), .int (mq 37), .int (mq 38), .ref (n 39), .ref (n 40), .ref (n 41), .ref (n 42), .int (mq 43), .int (mq 44), .int (mq 45)])), (n 8, .inl (cI, 10, .inl (upd (mav 8) m1_ (nI (T / 30))))), (n 9, .inl (cI, 10, .inl (upd (mav 9) m1_ x2))), (n 10, .inl (cI, 10, .inl (upd (mav 10) m1_ x3))), (n 11, .inl (cI, 10, .inl (upd (mav 11) m1_ x4)))]) [0, 1, 2, 3, 4] rfl
          have hD9 := hD.sub (ws' := [(h0, .inr (9, [.ref (n 0), .int (mi 1), .ref (n 2), .ref (n 3), .ref (n 4), .ref (n 5), .ref (n 6), .int (mi 7), .ref (n 8), .ref (n 9), .ref (n 10), .ref (n 11), .ref (n 12), .ref (n 13), .ref (n 14), .int (mi 15), .int (mi 16), .ref (n 17), .ref (n 18), .ref (n 19), .ref (n 20), .ref (n 21), .ref (n 22), .ref (n 23), .ref (n 24), .ref (n 25), .int (mi 26), .int (mi 27), .int (mi 28), .int (mi 29), .int (mi 30), .int (mi 31), .int (mi 32), .int (mi 33), .ref (n 34), .ref (n 35), .int (mq 36), .int (mq 37), .int (mq 38), .ref (n 39), .ref (n 40), .ref (n 41), .ref (n 42), .int (mq 43), .int (mq 44), .int (mq 45)])), (n 8, .inl (cI, 10, .inl (upd (mav 8) m1_ (nI (T / 30))))), (n 9, .inl (cI, 10, .inl (upd (mav 9) m1_ x2))), (n 10, .inl (cI, 10, .inl (upd (mav 10) m1_ x3))), (n 11, .inl (cI, 10, .inl (upd (mav 11) m1_ x4)))]) [0, 1, 2, 3, 4] (by decide) rfl
          exact W.zret (v := 1) hx hb hr rfl (fun t ht hW => ⟨⟨1, ((upd (mav 8) m1_ (nI (T / 30))), (upd (mav 9) m1_ x2), (upd (mav 10) m1_ x3), (upd (mav 11) m1_ x4)), rfl, (Or.inl ⟨rfl, ⟨⟨m1_, hm1_, rfl⟩, h_3, h_5, h_7⟩, _, hm1_, rfl, rfl⟩), ⟨by rw [ht]; exact hP9, hD9⟩⟩, hS.F ht⟩) hS.2.2 dX9_chain_76
        refine lv_if_ne (tgt := 40) hx hb dX9_chain_35 (by decide) (fun c_11 => False.elim (by revert c_11; decide)) (fun _ => ?_)
        refine lv_iconst (v := 0) hx hb dX9_chain_38 (by decide) ?_
        have hP9 := hP.sub (ws' := [(h0, .inr (9, [.ref (n 0), .int (mi 1), .ref (n 2), .ref (n 3), .ref (n 4), .ref (n 5), .ref (n 6), .int (mi 7), .ref (n 8), .ref (n 9), .ref (n 10), .ref (n 11), .ref (n 12), .ref (n 13), .ref (n 14), .int (mi 15), .int (mi 16), .ref (n 17), .ref (n 18), .ref (n 19), .ref (n 20), .ref (n 21), .ref (n 22), .ref (n 23), .ref (n 24), .ref (n 25), .int (mi 26), .int (mi 27), .int (mi 28), .int (mi 29), .int (mi 30), .int (mi 31), .int (mi 32), .int (mi 33), .ref (n 34), .ref (n 35), .int (mq 36), .int (mq 37), .int (mq 38), .ref (n 39), .ref (n 40), .ref (n 41), .ref (n 42), .int (mq 43), .int (mq 44), .int (mq 45)])), (n 8, .inl (cI, 10, .inl (mav 8))), (n 9, .inl (cI, 10, .inl (mav 9))), (n 10, .inl (cI, 10, .inl (mav 10))), (n 11, .inl (cI, 10, .inl (mav 11)))]) [0, 1, 2, 3, 4] rfl
        have hD9 := hD.sub (ws' := [(h0, .inr (9, [.ref (n 0), .int (mi 1), .ref (n 2), .ref (n 3), .ref (n 4), .ref (n 5), .ref (n 6), .int (mi 7), .ref (n 8), .ref (n 9), .ref (n 10), .ref (n 11), .ref (n 12), .ref (n 13), .ref (n 14), .int (mi 15), .int (mi 16), .ref (n 17), .ref (n 18), .ref (n 19), .ref (n 20), .ref (n 21), .ref (n 22), .ref (n 23), .ref (n 24), .ref (n 25), .int (mi 26), .int (mi 27), .int (mi 28), .int (mi 29), .int (mi 30), .int (mi 31), .int (mi 32), .int (mi 33), .ref (n 34), .ref (n 35), .int (mq 36), .int (mq 37), .int (mq 38), .ref (n 39), .ref (n 40), .ref (n 41), .ref (n 42), .int (mq 43), .int (mq 44), .int (mq 45)])), (n 8, .inl (cI, 10, .inl (mav 8))), (n 9, .inl (cI, 10, .inl (mav 9))), (n 10, .inl (cI, 10, .inl (mav 10))), (n 11, .inl (cI, 10, .inl (mav 11)))]) [0, 1, 2, 3, 4] (by decide) rfl
        exact W.zret (v := 0) hx hb hr rfl (fun t ht hW => ⟨⟨0, (mav 8, mav 9, mav 10, mav 11), rfl, (Or.inr ⟨rfl, fun h9 => h_7 (h9.2.2.2), rfl⟩), ⟨by rw [ht]; exact hP9, hD9⟩⟩, hS.F ht⟩) hS.2.2 dX9_chain_39
      refine lv_if_eq (tgt := 38) hx hb dX9_chain_25 (by decide) (fun _ => ?_) (fun c_12 => False.elim (by revert c_12; decide))
      refine lv_iconst (v := 0) hx hb dX9_chain_38 (by decide) ?_
      have hP9 := hP.sub (ws' := [(h0, .inr (9, [.ref (n 0), .int (mi 1), .ref (n 2), .ref (n 3), .ref (n 4), .ref (n 5), .ref (n 6), .int (mi 7), .ref (n 8), .ref (n 9), .ref (n 10), .ref (n 11), .ref (n 12), .ref (n 13), .ref (n 14), .int (mi 15), .int (mi 16), .ref (n 17), .ref (n 18), .ref (n 19), .ref (n 20), .ref (n 21), .ref (n 22), .ref (n 23), .ref (n 24), .ref (n 25), .int (mi 26), .int (mi 27), .int (mi 28), .int (mi 29), .int (mi 30), .int (mi 31), .int (mi 32), .int (mi 33), .ref (n 34), .ref (n 35), .int (mq 36), .int (mq 37), .int (mq 38), .ref (n 39), .ref (n 40), .ref (n 41), .ref (n 42), .int (mq 43), .int (mq 44), .int (mq 45)])), (n 8, .inl (cI, 10, .inl (mav 8))), (n 9, .inl (cI, 10, .inl (mav 9))), (n 10, .inl (cI, 10, .inl (mav 10))), (n 11, .inl (cI, 10, .inl (mav 11)))]) [0, 1, 2, 3, 4] rfl
      have hD9 := hD.sub (ws' := [(h0, .inr (9, [.ref (n 0), .int (mi 1), .ref (n 2), .ref (n 3), .ref (n 4), .ref (n 5), .ref (n 6), .int (mi 7), .ref (n 8), .ref (n 9), .ref (n 10), .ref (n 11), .ref (n 12), .ref (n 13), .ref (n 14), .int (mi 15), .int (mi 16), .ref (n 17), .ref (n 18), .ref (n 19), .ref (n 20), .ref (n 21), .ref (n 22), .ref (n 23), .ref (n 24), .ref (n 25), .int (mi 26), .int (mi 27), .int (mi 28), .int (mi 29), .int (mi 30), .int (mi 31), .int (mi 32), .int (mi 33), .ref (n 34), .ref (n 35), .int (mq 36), .int (mq 37), .int (mq 38), .ref (n 39), .ref (n 40), .ref (n 41), .ref (n 42), .int (mq 43), .int (mq 44), .int (mq 45)])), (n 8, .inl (cI, 10, .inl (mav 8))), (n 9, .inl (cI, 10, .inl (mav 9))), (n 10, .inl (cI, 10, .inl (mav 10))), (n 11, .inl (cI, 10, .inl (mav 11)))]) [0, 1, 2, 3, 4] (by decide) rfl
      exact W.zret (v := 0) hx hb hr rfl (fun t ht hW => ⟨⟨0, (mav 8, mav 9, mav 10, mav 11), rfl, (Or.inr ⟨rfl, fun h9 => h_5 (h9.2.2.1), rfl⟩), ⟨by rw [ht]; exact hP9, hD9⟩⟩, hS.F ht⟩) hS.2.2 dX9_chain_39
    refine lv_if_eq (tgt := 38) hx hb dX9_chain_16 (by decide) (fun _ => ?_) (fun c_13 => False.elim (by revert c_13; decide))
    refine lv_iconst (v := 0) hx hb dX9_chain_38 (by decide) ?_
    have hP9 := hP.sub (ws' := [(h0, .inr (9, [.ref (n 0), .int (mi 1), .ref (n 2), .ref (n 3), .ref (n 4), .ref (n 5), .ref (n 6), .int (mi 7), .ref (n 8), .ref (n 9), .ref (n 10), .ref (n 11), .ref (n 12), .ref (n 13), .ref (n 14), .int (mi 15), .int (mi 16), .ref (n 17), .ref (n 18), .ref (n 19), .ref (n 20), .ref (n 21), .ref (n 22), .ref (n 23), .ref (n 24), .ref (n 25), .int (mi 26), .int (mi 27), .int (mi 28), .int (mi 29), .int (mi 30), .int (mi 31), .int (mi 32), .int (mi 33), .ref (n 34), .ref (n 35), .int (mq 36), .int (mq 37), .int (mq 38), .ref (n 39), .ref (n 40), .ref (n 41), .ref (n 42), .int (mq 43), .int (mq 44), .int (mq 45)])), (n 8, .inl (cI, 10, .inl (mav 8))), (n 9, .inl (cI, 10, .inl (mav 9))), (n 10, .inl (cI, 10, .inl (mav 10))), (n 11, .inl (cI, 10, .inl (mav 11)))]) [0, 1, 2, 3, 4] rfl
    have hD9 := hD.sub (ws' := [(h0, .inr (9, [.ref (n 0), .int (mi 1), .ref (n 2), .ref (n 3), .ref (n 4), .ref (n 5), .ref (n 6), .int (mi 7), .ref (n 8), .ref (n 9), .ref (n 10), .ref (n 11), .ref (n 12), .ref (n 13), .ref (n 14), .int (mi 15), .int (mi 16), .ref (n 17), .ref (n 18), .ref (n 19), .ref (n 20), .ref (n 21), .ref (n 22), .ref (n 23), .ref (n 24), .ref (n 25), .int (mi 26), .int (mi 27), .int (mi 28), .int (mi 29), .int (mi 30), .int (mi 31), .int (mi 32), .int (mi 33), .ref (n 34), .ref (n 35), .int (mq 36), .int (mq 37), .int (mq 38), .ref (n 39), .ref (n 40), .ref (n 41), .ref (n 42), .int (mq 43), .int (mq 44), .int (mq 45)])), (n 8, .inl (cI, 10, .inl (mav 8))), (n 9, .inl (cI, 10, .inl (mav 9))), (n 10, .inl (cI, 10, .inl (mav 10))), (n 11, .inl (cI, 10, .inl (mav 11)))]) [0, 1, 2, 3, 4] (by decide) rfl
    exact W.zret (v := 0) hx hb hr rfl (fun t ht hW => ⟨⟨0, (mav 8, mav 9, mav 10, mav 11), rfl, (Or.inr ⟨rfl, fun h9 => h_3 (h9.2.1), rfl⟩), ⟨by rw [ht]; exact hP9, hD9⟩⟩, hS.F ht⟩) hS.2.2 dX9_chain_39
  refine lv_if_eq (tgt := 38) hx hb dX9_chain_5 (by decide) (fun _ => ?_) (fun c_14 => False.elim (by revert c_14; decide))
  refine lv_iconst (v := 0) hx hb dX9_chain_38 (by decide) ?_
  have hP9 := hP.sub (ws' := [(h0, .inr (9, [.ref (n 0), .int (mi 1), .ref (n 2), .ref (n 3), .ref (n 4), .ref (n 5), .ref (n 6), .int (mi 7), .ref (n 8), .ref (n 9), .ref (n 10), .ref (n 11), .ref (n 12), .ref (n 13), .ref (n 14), .int (mi 15), .int (mi 16), .ref (n 17), .ref (n 18), .ref (n 19), .ref (n 20), .ref (n 21), .ref (n 22), .ref (n 23), .ref (n 24), .ref (n 25), .int (mi 26), .int (mi 27), .int (mi 28), .int (mi 29), .int (mi 30), .int (mi 31), .int (mi 32), .int (mi 33), .ref (n 34), .ref (n 35), .int (mq 36), .int (mq 37), .int (mq 38), .ref (n 39), .ref (n 40), .ref (n 41), .ref (n 42), .int (mq 43), .int (mq 44), .int (mq 45)])), (n 8, .inl (cI, 10, .inl (mav 8))), (n 9, .inl (cI, 10, .inl (mav 9))), (n 10, .inl (cI, 10, .inl (mav 10))), (n 11, .inl (cI, 10, .inl (mav 11)))]) [0, 1, 2, 3, 4] rfl
  have hD9 := hD.sub (ws' := [(h0, .inr (9, [.ref (n 0), .int (mi 1), .ref (n 2), .ref (n 3), .ref (n 4), .ref (n 5), .ref (n 6), .int (mi 7), .ref (n 8), .ref (n 9), .ref (n 10), .ref (n 11), .ref (n 12), .ref (n 13), .ref (n 14), .int (mi 15), .int (mi 16), .ref (n 17), .ref (n 18), .ref (n 19), .ref (n 20), .ref (n 21), .ref (n 22), .ref (n 23), .ref (n 24), .ref (n 25), .int (mi 26), .int (mi 27), .int (mi 28), .int (mi 29), .int (mi 30), .int (mi 31), .int (mi 32), .int (mi 33), .ref (n 34), .ref (n 35), .int (mq 36), .int (mq 37), .int (mq 38), .ref (n 39), .ref (n 40), .ref (n 41), .ref (n 42), .int (mq 43), .int (mq 44), .int (mq 45)])), (n 8, .inl (cI, 10, .inl (mav 8))), (n 9, .inl (cI, 10, .inl (mav 9))), (n 10, .inl (cI, 10, .inl (mav 10))), (n 11, .inl (cI, 10, .inl (mav 11)))]) [0, 1, 2, 3, 4] (by decide) rfl
  exact W.zret (v := 0) hx hb hr rfl (fun t ht hW => ⟨⟨0, (mav 8, mav 9, mav 10, mav 11), rfl, (Or.inr ⟨rfl, fun h9 => h_1 (h9.1), rfl⟩), ⟨by rw [ht]; exact hP9, hD9⟩⟩, hS.F ht⟩) hS.2.2 dX9_chain_39
set_option maxHeartbeats 4000000 in
set_option maxRecDepth 100000 in
/-- X9_chainOf: the loop at 40 -/
theorem lp_X9_chainOf {p : Program} {l : Launch} {e : Env} {s : State} {m : MethodId} {args : Array Value} {below : List Frame} {meth : Method} {c : Code} {Q : State → Prop} {D : va_G} {cI cJ cZ cM : Nat} {h0 : Nat} {n : Nat → Nat} {mi : Nat → Int32} {mq : Nat → Int32} {mav : Nat → Nat → Int32} {m_ : Nat} {x2 : Int32} {c9 : Nat} {g9 : Nat} {T : Nat} {H : Heap} (hx : p.tables.exec = Jvm.exec) (hb : c.code = cX9_chainOf) (hml : c.maxLocals = 7) (hts : ∀ w ∈ wsX9_chainOf, w.before args s = true) (hown : s.vm.findClass RX9 = some m.cls) (hG : GK D cI cJ cZ cM s) (hP : va_P D vwCl [(h0, .inr (9, [.ref (n 0), .int (mi 1), .ref (n 2), .ref (n 3), .ref (n 4), .ref (n 5), .ref (n 6), .int (mi 7), .ref (n 8), .ref (n 9), .ref (n 10), .ref (n 11), .ref (n 12), .ref (n 13), .ref (n 14), .int (mi 15), .int (mi 16), .ref (n 17), .ref (n 18), .ref (n 19), .ref (n 20), .ref (n 21), .ref (n 22), .ref (n 23), .ref (n 24), .ref (n 25), .int (mi 26), .int (mi 27), .int (mi 28), .int (mi 29), .int (mi 30), .int (mi 31), .int (mi 32), .int (mi 33), .ref (n 34), .ref (n 35), .int (mq 36), .int (mq 37), .int (mq 38), .ref (n 39), .ref (n 40), .ref (n 41), .ref (n 42), .int (mq 43), .int (mq 44), .int (mq 45)])), (n 8, .inl (cI, 10, .inl (mav 8))), (n 9, .inl (cI, 10, .inl (mav 9))), (n 10, .inl (cI, 10, .inl (mav 10))), (n 11, .inl (cI, 10, .inl (mav 11))), (n 12, .inl (cI, 48, .inl (mav 12)))] H) (hm_ : m_ < 10) (hc9 : c9 ≤ 333) (hg9 : g9 ≤ 3) (e8 : (mav 8) m_ = nI c9) (e11 : (mav 11) m_ = nI g9) (h_T : mi 7 = nI T) (hT : T ≤ 10000) :
    ∀ (k9 : Nat) (k_ : Nat) (z3 : Int32) (z4 : Int32) (z5 : Int32), (k_ ≤ c9 + 400) → (c9 + 400) - k_ < k9 → ∀ (ls : Array Slot), lv_has ls 7 [(6, .int (nI k_)), (3, .int z3), (4, .int z4), (5, .int z5), (0, .ref h0), (1, .int (nI m_)), (2, .int x2)] → (∀ (z3 : Int32) (z4 : Int32) (z5 : Int32) (ls : Array Slot), lv_has ls 7 [(3, .int z3), (4, .int z4), (5, .int z5), (0, .ref h0), (1, .int (nI m_)), (2, .int x2)] → W p l e (headSpec wsX9_chainOf ({ frames := 2, cells := 0, slots := 0, locals := 43 } : Room)).room s m args below meth c H [] 0 0 Q (F0 m 128 ls [])) → W p l e (headSpec wsX9_chainOf ({ frames := 2, cells := 0, slots := 0, locals := 43 } : Room)).room s m args below meth c H [] 0 0 Q (F0 m 40 ls []) := by
  have hK := hG.1
  have hN := hG.2
  intro k9
  induction k9 with
  | zero => intro k_ z3 z4 z5 hk hfu; exact absurd hfu (Nat.not_lt_zero _)
  | succ k9 ih =>
    intro k_ z3 z4 z5 hk hfu ls hl kk0
    rcases Nat.lt_or_ge k_ (c9 + 400) with hlt | hge
    · refine lv_iload hx hb dX9_chainOf_40 (lv_at hl 0 rfl) ?_
      refine lv_aload_n hx hb dX9_chainOf_42 rfl (lv_at hl 4 rfl) ?_
      refine va_get (D := D) (ci := 9) (v := .ref (n 8)) (C := RX9) (T := TX9) (N := 46) hx hb hts (fun _ h9 => List.mem_cons_of_mem _ (List.mem_append_right _ h9)) hown hK hP 0 rfl rfl 8 (by decide) (hts (.fieldLink RX9 29 "BuoyTenderModel" "chainMonth" "[I") (by decide +kernel)) (fun _ h9 => h9) rfl dX9_chainOf_43 ?_
      refine lv_iload_n hx hb dX9_chainOf_46 rfl (lv_at hl 5 rfl) ?_
      refine va_iald hx hb hK hP 1 0 rfl rfl (vp_in_nI (by omega) (by decide)) dX9_chainOf_47 ?_
      refine lv_topi (fun z_1 ez_1 => ?_)
      obtain rfl : z_1 = (mav 8) m_ := ez_1.trans (congrArg (mav 8) (nI_clamp (by omega)))
      refine lv_topi (fun z_2 ez_2 => ?_)
      obtain rfl : z_2 = nI c9 := ez_2.trans e8
      refine lv_sipush (v := 400) hx hb dX9_chainOf_48 (by decide) ?_
      refine lv_iadd hx hb dX9_chainOf_51 ?_
      refine lv_topi (fun z_3 ez_3 => ?_)
      obtain rfl : z_3 = nI (c9 + 400) := ez_3.trans (nI_add c9 400)
      refine lv_icmp_ge (tgt := 128) hx hb dX9_chainOf_52 (by decide) (fun c_4 => absurd c_4 (nI_ge hlt (by omega))) (fun c_4 => ?_)
      refine lv_iload_n hx hb dX9_chainOf_55 rfl (lv_at hl 1 rfl) ?_
      refine lv_aload_n hx hb dX9_chainOf_56 rfl (lv_at hl 4 rfl) ?_
      refine va_get (D := D) (ci := 9) (v := .ref (n 12)) (C := RX9) (T := TX9) (N := 46) hx hb hts (fun _ h9 => List.mem_cons_of_mem _ (List.mem_append_right _ h9)) hown hK hP 0 rfl rfl 12 (by decide) (hts (.fieldLink RX9 41 "BuoyTenderModel" "wear" "[I") (by decide +kernel)) (fun _ h9 => h9) rfl dX9_chainOf_57 ?_
      refine lv_bipush (v := 12) hx hb dX9_chainOf_60 (by decide) ?_
      refine lv_aload_n hx hb dX9_chainOf_62 rfl (lv_at hl 4 rfl) ?_
      refine va_get (D := D) (ci := 9) (v := .ref (n 11)) (C := RX9) (T := TX9) (N := 46) hx hb hts (fun _ h9 => List.mem_cons_of_mem _ (List.mem_append_right _ h9)) hown hK hP 0 rfl rfl 11 (by decide) (hts (.fieldLink RX9 38 "BuoyTenderModel" "ground" "[I") (by decide +kernel)) (fun _ h9 => h9) rfl dX9_chainOf_63 ?_
      refine lv_iload_n hx hb dX9_chainOf_66 rfl (lv_at hl 5 rfl) ?_
      refine va_iald hx hb hK hP 4 0 rfl rfl (vp_in_nI (by omega) (by decide)) dX9_chainOf_67 ?_
      refine lv_topi (fun z_5 ez_5 => ?_)
      obtain rfl : z_5 = (mav 11) m_ := ez_5.trans (congrArg (mav 11) (nI_clamp (by omega)))
      refine lv_topi (fun z_6 ez_6 => ?_)
      obtain rfl : z_6 = nI g9 := ez_6.trans e11
      refine lv_imul hx hb dX9_chainOf_68 ?_
      refine lv_topi (fun z_7 ez_7 => ?_)
      obtain rfl : z_7 = nI (12 * g9) := ez_7.trans (pk_mul 12 g9)
      refine lv_iload hx hb dX9_chainOf_69 (lv_at hl 0 rfl) ?_
      refine lv_bipush (v := 12) hx hb dX9_chainOf_71 (by decide) ?_
      refine lv_irem hx hb dX9_chainOf_73 (by decide) ?_
      refine lv_topi (fun z_8 ez_8 => ?_)
      obtain rfl : z_8 = nI (k_ % 12) := ez_8.trans (pk_rem (by omega) (by decide) (by decide))
      refine lv_iadd hx hb dX9_chainOf_74 ?_
      refine lv_topi (fun z_9 ez_9 => ?_)
      obtain rfl : z_9 = nI ((12 * g9) + (k_ % 12)) := ez_9.trans (nI_add (12 * g9) (k_ % 12))
      refine va_iald hx hb hK hP 5 0 rfl rfl (vp_in_nI (by omega) (by decide)) dX9_chainOf_75 ?_
      refine lv_topi (fun z_10 ez_10 => ?_)
      obtain rfl : z_10 = (mav 12) ((12 * g9) + (k_ % 12)) := ez_10.trans (congrArg (mav 12) (nI_clamp (by omega)))
      refine lv_isub hx hb dX9_chainOf_76 ?_
      refine lv_istore_n (lv' := [(3, .int (z3 - ((mav 12) ((12 * g9) + (k_ % 12))))), (6, .int (nI k_)), (4, .int z4), (5, .int z5), (0, .ref h0), (1, .int (nI m_)), (2, .int x2)]) hx hb dX9_chainOf_77 rfl hl (by decide) rfl (fun ls hl => ?_)
      refine lv_iload hx hb dX9_chainOf_78 (lv_at hl 2 rfl) ?_
      refine lv_if_ge (tgt := 98) hx hb dX9_chainOf_80 (by decide) (fun c_11 => ?_) (fun c_11 => ?_)
      · refine lv_iload hx hb dX9_chainOf_98 (lv_at hl 2 rfl) ?_
        refine lv_istore (lv' := [(4, .int z4), (3, .int (z3 - ((mav 12) ((12 * g9) + (k_ % 12))))), (6, .int (nI k_)), (5, .int z5), (0, .ref h0), (1, .int (nI m_)), (2, .int x2)]) hx hb dX9_chainOf_100 hl (by decide) rfl (fun ls hl => ?_)
        refine lv_iload hx hb dX9_chainOf_102 (lv_at hl 2 rfl) ?_
        refine lv_aload_n hx hb dX9_chainOf_104 rfl (lv_at hl 4 rfl) ?_
        refine va_get (D := D) (ci := 9) (v := .int (mi 7)) (C := RX9) (T := TX9) (N := 46) hx hb hts (fun _ h9 => List.mem_cons_of_mem _ (List.mem_append_right _ h9)) hown hK hP 0 rfl rfl 7 (by decide) (hts (.fieldLink RX9 131 "BuoyTenderModel" "clock" "I") (by decide +kernel)) (fun _ h9 => h9) rfl dX9_chainOf_105 ?_
        refine lv_topi (fun z_12 ez_12 => ?_)
        obtain rfl : z_12 = nI T := ez_12.trans h_T
        refine lv_bipush (v := 30) hx hb dX9_chainOf_108 (by decide) ?_
        refine lv_idiv hx hb dX9_chainOf_110 (by decide) ?_
        refine lv_topi (fun z_13 ez_13 => ?_)
        obtain rfl : z_13 = nI (T / 30) := ez_13.trans (pk_div (by omega) (by decide) (by decide))
        refine lv_icmp_ne (tgt := 118) hx hb dX9_chainOf_111 (by decide) (fun c_14 => ?_) (fun c_14 => ?_)
        · refine lv_iload hx hb dX9_chainOf_118 (lv_at hl 3 rfl) ?_
          refine lv_istore (lv' := [(5, .int z5), (4, .int z4), (3, .int (z3 - ((mav 12) ((12 * g9) + (k_ % 12))))), (6, .int (nI k_)), (0, .ref h0), (1, .int (nI m_)), (2, .int x2)]) hx hb dX9_chainOf_120 hl (by decide) rfl (fun ls hl => ?_)
          refine lv_iinc (v := nI (k_ + 1)) (lv' := [(6, .int (nI (k_ + 1))), (5, .int z5), (4, .int z4), (3, .int (z3 - ((mav 12) ((12 * g9) + (k_ % 12))))), (0, .ref h0), (1, .int (nI m_)), (2, .int x2)]) hx hb dX9_chainOf_122 hl (k := 3) rfl (nI_add k_ 1) (by decide) rfl (fun ls hl => ?_)
          refine lv_goto (tgt := 40) hx hb dX9_chainOf_125 (by decide) ?_
          exact ih (k_ + 1) (z3 - ((mav 12) ((12 * g9) + (k_ % 12)))) z4 z5 (by omega) (by omega) _ (lv_sub hl [0, 3, 2, 1, 4, 5, 6] rfl) kk0
        refine lv_iload_n hx hb dX9_chainOf_114 rfl (lv_at hl 1 rfl) ?_
        refine lv_goto (tgt := 120) hx hb dX9_chainOf_115 (by decide) ?_
        refine lv_istore (lv' := [(5, .int (z3 - ((mav 12) ((12 * g9) + (k_ % 12))))), (4, .int z4), (3, .int (z3 - ((mav 12) ((12 * g9) + (k_ % 12))))), (6, .int (nI k_)), (0, .ref h0), (1, .int (nI m_)), (2, .int x2)]) hx hb dX9_chainOf_120 hl (by decide) rfl (fun ls hl => ?_)
        refine lv_iinc (v := nI (k_ + 1)) (lv' := [(6, .int (nI (k_ + 1))), (5, .int (z3 - ((mav 12) ((12 * g9) + (k_ % 12))))), (4, .int z4), (3, .int (z3 - ((mav 12) ((12 * g9) + (k_ % 12))))), (0, .ref h0), (1, .int (nI m_)), (2, .int x2)]) hx hb dX9_chainOf_122 hl (k := 3) rfl (nI_add k_ 1) (by decide) rfl (fun ls hl => ?_)
        refine lv_goto (tgt := 40) hx hb dX9_chainOf_125 (by decide) ?_
        exact ih (k_ + 1) (z3 - ((mav 12) ((12 * g9) + (k_ % 12)))) z4 (z3 - ((mav 12) ((12 * g9) + (k_ % 12)))) (by omega) (by omega) _ (lv_sub hl [0, 3, 2, 1, 4, 5, 6] rfl) kk0
      refine lv_iload_n hx hb dX9_chainOf_83 rfl (lv_at hl 0 rfl) ?_
      refine lv_aload_n hx hb dX9_chainOf_84 rfl (lv_at hl 4 rfl) ?_
      refine va_get (D := D) (ci := 9) (v := .ref (n 10)) (C := RX9) (T := TX9) (N := 46) hx hb hts (fun _ h9 => List.mem_cons_of_mem _ (List.mem_append_right _ h9)) hown hK hP 0 rfl rfl 10 (by decide) (hts (.fieldLink RX9 35 "BuoyTenderModel" "least" "[I") (by decide +kernel)) (fun _ h9 => h9) rfl dX9_chainOf_85 ?_
      refine lv_iload_n hx hb dX9_chainOf_88 rfl (lv_at hl 5 rfl) ?_
      refine va_iald hx hb hK hP 3 0 rfl rfl (vp_in_nI (by omega) (by decide)) dX9_chainOf_89 ?_
      refine lv_topi (fun z_15 ez_15 => ?_)
      obtain rfl : z_15 = (mav 10) m_ := ez_15.trans (congrArg (mav 10) (nI_clamp (by omega)))
      refine lv_icmp_ge (tgt := 98) hx hb dX9_chainOf_90 (by decide) (fun c_16 => ?_) (fun c_16 => ?_)
      · refine lv_iload hx hb dX9_chainOf_98 (lv_at hl 2 rfl) ?_
        refine lv_istore (lv' := [(4, .int z4), (3, .int (z3 - ((mav 12) ((12 * g9) + (k_ % 12))))), (6, .int (nI k_)), (5, .int z5), (0, .ref h0), (1, .int (nI m_)), (2, .int x2)]) hx hb dX9_chainOf_100 hl (by decide) rfl (fun ls hl => ?_)
        refine lv_iload hx hb dX9_chainOf_102 (lv_at hl 2 rfl) ?_
        refine lv_aload_n hx hb dX9_chainOf_104 rfl (lv_at hl 4 rfl) ?_
        refine va_get (D := D) (ci := 9) (v := .int (mi 7)) (C := RX9) (T := TX9) (N := 46) hx hb hts (fun _ h9 => List.mem_cons_of_mem _ (List.mem_append_right _ h9)) hown hK hP 0 rfl rfl 7 (by decide) (hts (.fieldLink RX9 131 "BuoyTenderModel" "clock" "I") (by decide +kernel)) (fun _ h9 => h9) rfl dX9_chainOf_105 ?_
        refine lv_topi (fun z_17 ez_17 => ?_)
        obtain rfl : z_17 = nI T := ez_17.trans h_T
        refine lv_bipush (v := 30) hx hb dX9_chainOf_108 (by decide) ?_
        refine lv_idiv hx hb dX9_chainOf_110 (by decide) ?_
        refine lv_topi (fun z_18 ez_18 => ?_)
        obtain rfl : z_18 = nI (T / 30) := ez_18.trans (pk_div (by omega) (by decide) (by decide))
        refine lv_icmp_ne (tgt := 118) hx hb dX9_chainOf_111 (by decide) (fun c_19 => ?_) (fun c_19 => ?_)
        · refine lv_iload hx hb dX9_chainOf_118 (lv_at hl 3 rfl) ?_
          refine lv_istore (lv' := [(5, .int z5), (4, .int z4), (3, .int (z3 - ((mav 12) ((12 * g9) + (k_ % 12))))), (6, .int (nI k_)), (0, .ref h0), (1, .int (nI m_)), (2, .int x2)]) hx hb dX9_chainOf_120 hl (by decide) rfl (fun ls hl => ?_)
          refine lv_iinc (v := nI (k_ + 1)) (lv' := [(6, .int (nI (k_ + 1))), (5, .int z5), (4, .int z4), (3, .int (z3 - ((mav 12) ((12 * g9) + (k_ % 12))))), (0, .ref h0), (1, .int (nI m_)), (2, .int x2)]) hx hb dX9_chainOf_122 hl (k := 3) rfl (nI_add k_ 1) (by decide) rfl (fun ls hl => ?_)
          refine lv_goto (tgt := 40) hx hb dX9_chainOf_125 (by decide) ?_
          exact ih (k_ + 1) (z3 - ((mav 12) ((12 * g9) + (k_ % 12)))) z4 z5 (by omega) (by omega) _ (lv_sub hl [0, 3, 2, 1, 4, 5, 6] rfl) kk0
        refine lv_iload_n hx hb dX9_chainOf_114 rfl (lv_at hl 1 rfl) ?_
        refine lv_goto (tgt := 120) hx hb dX9_chainOf_115 (by decide) ?_
        refine lv_istore (lv' := [(5, .int (z3 - ((mav 12) ((12 * g9) + (k_ % 12))))), (4, .int z4), (3, .int (z3 - ((mav 12) ((12 * g9) + (k_ % 12))))), (6, .int (nI k_)), (0, .ref h0), (1, .int (nI m_)), (2, .int x2)]) hx hb dX9_chainOf_120 hl (by decide) rfl (fun ls hl => ?_)
        refine lv_iinc (v := nI (k_ + 1)) (lv' := [(6, .int (nI (k_ + 1))), (5, .int (z3 - ((mav 12) ((12 * g9) + (k_ % 12))))), (4, .int z4), (3, .int (z3 - ((mav 12) ((12 * g9) + (k_ % 12))))), (0, .ref h0), (1, .int (nI m_)), (2, .int x2)]) hx hb dX9_chainOf_122 hl (k := 3) rfl (nI_add k_ 1) (by decide) rfl (fun ls hl => ?_)
        refine lv_goto (tgt := 40) hx hb dX9_chainOf_125 (by decide) ?_
        exact ih (k_ + 1) (z3 - ((mav 12) ((12 * g9) + (k_ % 12)))) z4 (z3 - ((mav 12) ((12 * g9) + (k_ % 12)))) (by omega) (by omega) _ (lv_sub hl [0, 3, 2, 1, 4, 5, 6] rfl) kk0
      refine lv_iload hx hb dX9_chainOf_93 (lv_at hl 1 rfl) ?_
      refine lv_goto (tgt := 100) hx hb dX9_chainOf_95 (by decide) ?_
      refine lv_istore (lv' := [(4, .int (nI k_)), (3, .int (z3 - ((mav 12) ((12 * g9) + (k_ % 12))))), (6, .int (nI k_)), (5, .int z5), (0, .ref h0), (1, .int (nI m_)), (2, .int x2)]) hx hb dX9_chainOf_100 hl (by decide) rfl (fun ls hl => ?_)
      refine lv_iload hx hb dX9_chainOf_102 (lv_at hl 2 rfl) ?_
      refine lv_aload_n hx hb dX9_chainOf_104 rfl (lv_at hl 4 rfl) ?_
      refine va_get (D := D) (ci := 9) (v := .int (mi 7)) (C := RX9) (T := TX9) (N := 46) hx hb hts (fun _ h9 => List.mem_cons_of_mem _ (List.mem_append_right _ h9)) hown hK hP 0 rfl rfl 7 (by decide) (hts (.fieldLink RX9 131 "BuoyTenderModel" "clock" "I") (by decide +kernel)) (fun _ h9 => h9) rfl dX9_chainOf_105 ?_
      refine lv_topi (fun z_20 ez_20 => ?_)
      obtain rfl : z_20 = nI T := ez_20.trans h_T
      refine lv_bipush (v := 30) hx hb dX9_chainOf_108 (by decide) ?_
      refine lv_idiv hx hb dX9_chainOf_110 (by decide) ?_
      refine lv_topi (fun z_21 ez_21 => ?_)
      obtain rfl : z_21 = nI (T / 30) := ez_21.trans (pk_div (by omega) (by decide) (by decide))
      refine lv_icmp_ne (tgt := 118) hx hb dX9_chainOf_111 (by decide) (fun c_22 => ?_) (fun c_22 => ?_)
      · refine lv_iload hx hb dX9_chainOf_118 (lv_at hl 3 rfl) ?_
        refine lv_istore (lv' := [(5, .int z5), (4, .int (nI k_)), (3, .int (z3 - ((mav 12) ((12 * g9) + (k_ % 12))))), (6, .int (nI k_)), (0, .ref h0), (1, .int (nI m_)), (2, .int x2)]) hx hb dX9_chainOf_120 hl (by decide) rfl (fun ls hl => ?_)
        refine lv_iinc (v := nI (k_ + 1)) (lv' := [(6, .int (nI (k_ + 1))), (5, .int z5), (4, .int (nI k_)), (3, .int (z3 - ((mav 12) ((12 * g9) + (k_ % 12))))), (0, .ref h0), (1, .int (nI m_)), (2, .int x2)]) hx hb dX9_chainOf_122 hl (k := 3) rfl (nI_add k_ 1) (by decide) rfl (fun ls hl => ?_)
        refine lv_goto (tgt := 40) hx hb dX9_chainOf_125 (by decide) ?_
        exact ih (k_ + 1) (z3 - ((mav 12) ((12 * g9) + (k_ % 12)))) (nI k_) z5 (by omega) (by omega) _ (lv_sub hl [0, 3, 2, 1, 4, 5, 6] rfl) kk0
      refine lv_iload_n hx hb dX9_chainOf_114 rfl (lv_at hl 1 rfl) ?_
      refine lv_goto (tgt := 120) hx hb dX9_chainOf_115 (by decide) ?_
      refine lv_istore (lv' := [(5, .int (z3 - ((mav 12) ((12 * g9) + (k_ % 12))))), (4, .int (nI k_)), (3, .int (z3 - ((mav 12) ((12 * g9) + (k_ % 12))))), (6, .int (nI k_)), (0, .ref h0), (1, .int (nI m_)), (2, .int x2)]) hx hb dX9_chainOf_120 hl (by decide) rfl (fun ls hl => ?_)
      refine lv_iinc (v := nI (k_ + 1)) (lv' := [(6, .int (nI (k_ + 1))), (5, .int (z3 - ((mav 12) ((12 * g9) + (k_ % 12))))), (4, .int (nI k_)), (3, .int (z3 - ((mav 12) ((12 * g9) + (k_ % 12))))), (0, .ref h0), (1, .int (nI m_)), (2, .int x2)]) hx hb dX9_chainOf_122 hl (k := 3) rfl (nI_add k_ 1) (by decide) rfl (fun ls hl => ?_)
      refine lv_goto (tgt := 40) hx hb dX9_chainOf_125 (by decide) ?_
      exact ih (k_ + 1) (z3 - ((mav 12) ((12 * g9) + (k_ % 12)))) (nI k_) (z3 - ((mav 12) ((12 * g9) + (k_ % 12)))) (by omega) (by omega) _ (lv_sub hl [0, 3, 2, 1, 4, 5, 6] rfl) kk0
    · refine lv_iload hx hb dX9_chainOf_40 (lv_at hl 0 rfl) ?_
      refine lv_aload_n hx hb dX9_chainOf_42 rfl (lv_at hl 4 rfl) ?_
      refine va_get (D := D) (ci := 9) (v := .ref (n 8)) (C := RX9) (T := TX9) (N := 46) hx hb hts (fun _ h9 => List.mem_cons_of_mem _ (List.mem_append_right _ h9)) hown hK hP 0 rfl rfl 8 (by decide) (hts (.fieldLink RX9 29 "BuoyTenderModel" "chainMonth" "[I") (by decide +kernel)) (fun _ h9 => h9) rfl dX9_chainOf_43 ?_
      refine lv_iload_n hx hb dX9_chainOf_46 rfl (lv_at hl 5 rfl) ?_
      refine va_iald hx hb hK hP 1 0 rfl rfl (vp_in_nI (by omega) (by decide)) dX9_chainOf_47 ?_
      refine lv_topi (fun z_23 ez_23 => ?_)
      obtain rfl : z_23 = (mav 8) m_ := ez_23.trans (congrArg (mav 8) (nI_clamp (by omega)))
      refine lv_topi (fun z_24 ez_24 => ?_)
      obtain rfl : z_24 = nI c9 := ez_24.trans e8
      refine lv_sipush (v := 400) hx hb dX9_chainOf_48 (by decide) ?_
      refine lv_iadd hx hb dX9_chainOf_51 ?_
      refine lv_topi (fun z_25 ez_25 => ?_)
      obtain rfl : z_25 = nI (c9 + 400) := ez_25.trans (nI_add c9 400)
      refine lv_icmp_ge (tgt := 128) hx hb dX9_chainOf_52 (by decide) (fun c_26 => ?_) (fun c_26 => absurd (nI_le hge (by omega)) c_26)
      exact kk0 z3 z4 z5 _  (lv_sub hl [1, 2, 3, 4, 5, 6] rfl)
set_option maxHeartbeats 4000000 in
set_option maxRecDepth 100000 in
/-- X9_chainOf -/
theorem k_X9_chainOf (l : Launch) (D : va_G) (cI cJ cZ cM : Nat) (h0 : Nat) (n : Nat → Nat) (mi : Nat → Int32) (mq : Nat → Int32) (mav : Nat → Nat → Int32) (n0 : Nat) (h_n : mi 1 = nI n0) (hn0 : n0 ≤ 10) (T : Nat) (h_T : mi 7 = nI T) (hT : T ≤ 10000) (hch : ∀ i, i < 10 → mav 8 i = -1 ∨ ∃ c, c ≤ 333 ∧ mav 8 i = nI c) (hgr : ∀ i, i < 10 → ∃ g, g ≤ 3 ∧ mav 11 i = nI g) (x1 : Int32) (x2 : Int32) : Met l yX9_chainOf wsX9_chainOf ({ frames := 2, cells := 0, slots := 0, locals := 43 } : Room) (RO D cI cJ cZ cM [.ref h0, .int x1, .int x2] [(h0, .inr (9, [.ref (n 0), .int (mi 1), .ref (n 2), .ref (n 3), .ref (n 4), .ref (n 5), .ref (n 6), .int (mi 7), .ref (n 8), .ref (n 9), .ref (n 10), .ref (n 11), .ref (n 12), .ref (n 13), .ref (n 14), .int (mi 15), .int (mi 16), .ref (n 17), .ref (n 18), .ref (n 19), .ref (n 20), .ref (n 21), .ref (n 22), .ref (n 23), .ref (n 24), .ref (n 25), .int (mi 26), .int (mi 27), .int (mi 28), .int (mi 29), .int (mi 30), .int (mi 31), .int (mi 32), .int (mi 33), .ref (n 34), .ref (n 35), .int (mq 36), .int (mq 37), .int (mq 38), .ref (n 39), .ref (n 40), .ref (n 41), .ref (n 42), .int (mq 43), .int (mq 44), .int (mq 45)])), (n 8, .inl (cI, 10, .inl (mav 8))), (n 9, .inl (cI, 10, .inl (mav 9))), (n 10, .inl (cI, 10, .inl (mav 10))), (n 11, .inl (cI, 10, .inl (mav 11))), (n 12, .inl (cI, 48, .inl (mav 12)))]) (vp_Si (fun r => True)) 0 0 (fun _ => False) := by
  refine Met.ofW (cc := cX9_chainOf) (maxL := 7) (ret := (some .int)) (by decide) rfl ?_
  intro p e s m args below meth c s₁ B hml hv
  obtain ⟨rfl, hG, hP⟩ := hv
  have hx := B.exec
  have hb := B.bytes
  have hr := B.returns
  have hts := atoms_spec (ws := wsX9_chainOf) B.pre
  have hown : s.vm.findClass RX9 = some m.cls := findClass_of_methodNamed B.named
  have hlocks := B.notSynchronized
  have hK := hG.1
  have hN := hG.2
  have hl := lv_entry ([.ref h0, .int x1, .int x2]) (n := 7) (Nat.le_of_ble_eq_true rfl)
  rw [lg_entry_eq]
  generalize (lg_sl ([.ref h0, .int x1, .int x2]) ++ List.replicate (7 - (lg_sl ([.ref h0, .int x1, .int x2])).length) Slot.unset).toArray = ls at hl ⊢
  have hl : lv_has ls 7 [(0, .ref h0), (1, .int x1), (2, .int x2)] := hl
  refine lv_aload_n hx hb dX9_chainOf_0 rfl (lv_at hl 0 rfl) ?_
  refine lv_iload_n hx hb dX9_chainOf_1 rfl (lv_at hl 1 rfl) ?_
  have hPc := hP.sub (ws' := [(h0, .inr (9, [.ref (n 0), .int (mi 1), .ref (n 2), .ref (n 3), .ref (n 4), .ref (n 5), .ref (n 6), .int (mi 7), .ref (n 8), .ref (n 9), .ref (n 10), .ref (n 11), .ref (n 12), .ref (n 13), .ref (n 14), .int (mi 15), .int (mi 16), .ref (n 17), .ref (n 18), .ref (n 19), .ref (n 20), .ref (n 21), .ref (n 22), .ref (n 23), .ref (n 24), .ref (n 25), .int (mi 26), .int (mi 27), .int (mi 28), .int (mi 29), .int (mi 30), .int (mi 31), .int (mi 32), .int (mi 33), .ref (n 34), .ref (n 35), .int (mq 36), .int (mq 37), .int (mq 38), .ref (n 39), .ref (n 40), .ref (n 41), .ref (n 42), .int (mq 43), .int (mq 44), .int (mq 45)]))]) [0] rfl
  refine vp_callSi (va_Run.run (va_runV (As := [.int x1]) (rest := []) ⟨hx, hb, hml, hown, hts⟩ (k_X9_isMark l D cI cJ cZ cM h0 n mi mq mav n0 h_n hn0 x1) (cwV 1 hts gX9_chainOf_X9_isMark rfl rfl rfl (by decide +kernel) ⟨Nat.le_of_ble_eq_true rfl, Nat.le_of_ble_eq_true rfl⟩) (ro_V hG hPc (va_recv hK hPc (ci := 9) (q0 := 0) rfl rfl)) rfl rfl hl.1 rfl (lv_room (Nat.le_of_ble_eq_true rfl)) dX9_chainOf_2 ⟨Nat.le_of_ble_eq_true rfl, Nat.le_of_ble_eq_true rfl⟩)) (fun r_1 h_1 => ?_)
  rcases h_1 with ⟨rfl, m1_, hm1_, rfl⟩ | ⟨rfl, h_1⟩
  · have hl : lv_has ls 7 [(0, .ref h0), (1, .int (nI m1_)), (2, .int x2)] := hl
    refine W.eq (g2 := F0 m 5 ls [.int 1]) rfl ?_
    refine lv_if_eq (tgt := 17) hx hb dX9_chainOf_5 (by decide) (fun c_2 => False.elim (by revert c_2; decide)) (fun _ => ?_)
    refine lv_aload_n hx hb dX9_chainOf_8 rfl (lv_at hl 0 rfl) ?_
    refine va_get (D := D) (ci := 9) (v := .ref (n 8)) (C := RX9) (T := TX9) (N := 46) hx hb hts (fun _ h9 => List.mem_cons_of_mem _ (List.mem_append_right _ h9)) hown hK hP 0 rfl rfl 8 (by decide) (hts (.fieldLink RX9 29 "BuoyTenderModel" "chainMonth" "[I") (by decide +kernel)) (fun _ h9 => h9) rfl dX9_chainOf_9 ?_
    refine lv_iload_n hx hb dX9_chainOf_12 rfl (lv_at hl 1 rfl) ?_
    refine va_iald hx hb hK hP 1 0 rfl rfl (vp_in_nI (by omega) (by decide)) dX9_chainOf_13 ?_
    refine lv_topi (fun z_3 ez_3 => ?_)
    obtain rfl : z_3 = (mav 8) m1_ := ez_3.trans (congrArg (mav 8) (nI_clamp (by omega)))
    rcases hch m1_ (by omega) with e8 | ⟨c9, hc9, e8⟩
    · refine lv_topi (fun z_5 ez_5 => ?_)
      obtain rfl : z_5 = (-1) := ez_5.trans e8
      refine lv_if_ge (tgt := 19) hx hb dX9_chainOf_14 (by decide) (fun c_6 => False.elim (by revert c_6; decide)) (fun _ => ?_)
      refine lv_iconst (v := (-1)) hx hb dX9_chainOf_17 (by decide) ?_
      exact W.iret (v := (-1)) hx hb hr (fun t ht hW => ⟨(-1), rfl, trivial, ht⟩) (fun _ h => by cases h) dX9_chainOf_18
    · refine lv_topi (fun z_7 ez_7 => ?_)
      obtain rfl : z_7 = nI c9 := ez_7.trans e8
      obtain ⟨g9, hg9, e11⟩ := hgr m1_ (by omega)
      refine lv_if_ge (tgt := 19) hx hb dX9_chainOf_14 (by decide) (fun c_8 => ?_) (fun c_8 => absurd (nI_pos' (by omega)) c_8)
      refine lv_aload_n hx hb dX9_chainOf_19 rfl (lv_at hl 0 rfl) ?_
      refine va_get (D := D) (ci := 9) (v := .ref (n 9)) (C := RX9) (T := TX9) (N := 46) hx hb hts (fun _ h9 => List.mem_cons_of_mem _ (List.mem_append_right _ h9)) hown hK hP 0 rfl rfl 9 (by decide) (hts (.fieldLink RX9 32 "BuoyTenderModel" "thickness" "[I") (by decide +kernel)) (fun _ h9 => h9) rfl dX9_chainOf_20 ?_
      refine lv_iload_n hx hb dX9_chainOf_23 rfl (lv_at hl 1 rfl) ?_
      refine va_iald hx hb hK hP 2 0 rfl rfl (vp_in_nI (by omega) (by decide)) dX9_chainOf_24 ?_
      refine lv_topi (fun z_9 ez_9 => ?_)
      obtain rfl : z_9 = (mav 9) m1_ := ez_9.trans (congrArg (mav 9) (nI_clamp (by omega)))
      refine lv_istore_n (lv' := [(3, .int ((mav 9) m1_)), (0, .ref h0), (1, .int (nI m1_)), (2, .int x2)]) hx hb dX9_chainOf_25 rfl hl (by decide) rfl (fun ls hl => ?_)
      refine lv_iconst (v := (-1)) hx hb dX9_chainOf_26 (by decide) ?_
      refine lv_istore (lv' := [(4, .int (-1)), (3, .int ((mav 9) m1_)), (0, .ref h0), (1, .int (nI m1_)), (2, .int x2)]) hx hb dX9_chainOf_27 hl (by decide) rfl (fun ls hl => ?_)
      refine lv_iconst (v := 0) hx hb dX9_chainOf_29 (by decide) ?_
      refine lv_istore (lv' := [(5, .int 0), (4, .int (-1)), (3, .int ((mav 9) m1_)), (0, .ref h0), (1, .int (nI m1_)), (2, .int x2)]) hx hb dX9_chainOf_30 hl (by decide) rfl (fun ls hl => ?_)
      refine lv_aload_n hx hb dX9_chainOf_32 rfl (lv_at hl 3 rfl) ?_
      refine va_get (D := D) (ci := 9) (v := .ref (n 8)) (C := RX9) (T := TX9) (N := 46) hx hb hts (fun _ h9 => List.mem_cons_of_mem _ (List.mem_append_right _ h9)) hown hK hP 0 rfl rfl 8 (by decide) (hts (.fieldLink RX9 29 "BuoyTenderModel" "chainMonth" "[I") (by decide +kernel)) (fun _ h9 => h9) rfl dX9_chainOf_33 ?_
      refine lv_iload_n hx hb dX9_chainOf_36 rfl (lv_at hl 4 rfl) ?_
      refine va_iald hx hb hK hP 1 0 rfl rfl (vp_in_nI (by omega) (by decide)) dX9_chainOf_37 ?_
      refine lv_topi (fun z_10 ez_10 => ?_)
      obtain rfl : z_10 = (mav 8) m1_ := ez_10.trans (congrArg (mav 8) (nI_clamp (by omega)))
      refine lv_topi (fun z_11 ez_11 => ?_)
      obtain rfl : z_11 = nI c9 := ez_11.trans e8
      refine lv_istore (lv' := [(6, .int (nI c9)), (5, .int 0), (4, .int (-1)), (3, .int ((mav 9) m1_)), (0, .ref h0), (1, .int (nI m1_)), (2, .int x2)]) hx hb dX9_chainOf_38 hl (by decide) rfl (fun ls hl => ?_)
      have hPl := hP.sub (ws' := [(h0, .inr (9, [.ref (n 0), .int (mi 1), .ref (n 2), .ref (n 3), .ref (n 4), .ref (n 5), .ref (n 6), .int (mi 7), .ref (n 8), .ref (n 9), .ref (n 10), .ref (n 11), .ref (n 12), .ref (n 13), .ref (n 14), .int (mi 15), .int (mi 16), .ref (n 17), .ref (n 18), .ref (n 19), .ref (n 20), .ref (n 21), .ref (n 22), .ref (n 23), .ref (n 24), .ref (n 25), .int (mi 26), .int (mi 27), .int (mi 28), .int (mi 29), .int (mi 30), .int (mi 31), .int (mi 32), .int (mi 33), .ref (n 34), .ref (n 35), .int (mq 36), .int (mq 37), .int (mq 38), .ref (n 39), .ref (n 40), .ref (n 41), .ref (n 42), .int (mq 43), .int (mq 44), .int (mq 45)])), (n 8, .inl (cI, 10, .inl (mav 8))), (n 9, .inl (cI, 10, .inl (mav 9))), (n 10, .inl (cI, 10, .inl (mav 10))), (n 11, .inl (cI, 10, .inl (mav 11))), (n 12, .inl (cI, 48, .inl (mav 12)))]) [0, 1, 2, 3, 4, 5] rfl
      refine lp_X9_chainOf hx hb hml hts hown hG hPl (by omega) hc9 hg9 e8 e11 h_T hT ((c9 + 400) + 1) c9 ((mav 9) m1_) (-1) 0 (by omega) (by omega) _ (lv_sub hl [0, 3, 2, 1, 4, 5, 6] rfl) (fun z3_12 z4_12 z5_12 ls  hl => ?_)
      refine lv_iload_n hx hb dX9_chainOf_128 rfl (lv_at hl 5 rfl) ?_
      refine lv_if_ne (tgt := 146) hx hb dX9_chainOf_129 (by decide) (fun c_13 => ?_) (fun c_13 => ?_)
      · refine lv_iload_n hx hb dX9_chainOf_146 rfl (lv_at hl 5 rfl) ?_
        refine lv_iconst (v := 1) hx hb dX9_chainOf_147 (by decide) ?_
        refine lv_icmp_ne (tgt := 156) hx hb dX9_chainOf_148 (by decide) (fun c_14 => ?_) (fun c_14 => ?_)
        · refine lv_iload_n hx hb dX9_chainOf_156 rfl (lv_at hl 5 rfl) ?_
          refine lv_iconst (v := 2) hx hb dX9_chainOf_157 (by decide) ?_
          refine lv_icmp_ne (tgt := 170) hx hb dX9_chainOf_158 (by decide) (fun c_15 => ?_) (fun c_15 => ?_)
          · refine lv_iconst (v := (-1)) hx hb dX9_chainOf_170 (by decide) ?_
            exact W.iret (v := (-1)) hx hb hr (fun t ht hW => ⟨(-1), rfl, trivial, ht⟩) (fun _ h => by cases h) dX9_chainOf_171
          refine lv_aload_n hx hb dX9_chainOf_161 rfl (lv_at hl 3 rfl) ?_
          refine va_get (D := D) (ci := 9) (v := .ref (n 8)) (C := RX9) (T := TX9) (N := 46) hx hb hts (fun _ h9 => List.mem_cons_of_mem _ (List.mem_append_right _ h9)) hown hK hP 0 rfl rfl 8 (by decide) (hts (.fieldLink RX9 29 "BuoyTenderModel" "chainMonth" "[I") (by decide +kernel)) (fun _ h9 => h9) rfl dX9_chainOf_162 ?_
          refine lv_iload_n hx hb dX9_chainOf_165 rfl (lv_at hl 4 rfl) ?_
          refine va_iald hx hb hK hP 1 0 rfl rfl (vp_in_nI (by omega) (by decide)) dX9_chainOf_166 ?_
          refine lv_topi (fun z_16 ez_16 => ?_)
          obtain rfl : z_16 = (mav 8) m1_ := ez_16.trans (congrArg (mav 8) (nI_clamp (by omega)))
          refine lv_topi (fun z_17 ez_17 => ?_)
          obtain rfl : z_17 = nI c9 := ez_17.trans e8
          refine lv_goto (tgt := 171) hx hb dX9_chainOf_167 (by decide) ?_
          exact W.iret (v := (nI c9)) hx hb hr (fun t ht hW => ⟨(nI c9), rfl, trivial, ht⟩) (fun _ h => by cases h) dX9_chainOf_171
        refine lv_iload hx hb dX9_chainOf_151 (lv_at hl 1 rfl) ?_
        refine lv_goto (tgt := 171) hx hb dX9_chainOf_153 (by decide) ?_
        exact W.iret (v := z4_12) hx hb hr (fun t ht hW => ⟨z4_12, rfl, trivial, ht⟩) (fun _ h => by cases h) dX9_chainOf_171
      refine lv_iload hx hb dX9_chainOf_132 (lv_at hl 2 rfl) ?_
      refine lv_if_ge (tgt := 141) hx hb dX9_chainOf_134 (by decide) (fun c_18 => ?_) (fun c_18 => ?_)
      · refine lv_iload hx hb dX9_chainOf_141 (lv_at hl 2 rfl) ?_
        refine lv_goto (tgt := 171) hx hb dX9_chainOf_143 (by decide) ?_
        exact W.iret (v := z5_12) hx hb hr (fun t ht hW => ⟨z5_12, rfl, trivial, ht⟩) (fun _ h => by cases h) dX9_chainOf_171
      refine lv_iconst (v := 0) hx hb dX9_chainOf_137 (by decide) ?_
      refine lv_goto (tgt := 171) hx hb dX9_chainOf_138 (by decide) ?_
      exact W.iret (v := 0) hx hb hr (fun t ht hW => ⟨0, rfl, trivial, ht⟩) (fun _ h => by cases h) dX9_chainOf_171
  refine lv_if_eq (tgt := 17) hx hb dX9_chainOf_5 (by decide) (fun _ => ?_) (fun c_19 => False.elim (by revert c_19; decide))
  refine lv_iconst (v := (-1)) hx hb dX9_chainOf_17 (by decide) ?_
  exact W.iret (v := (-1)) hx hb hr (fun t ht hW => ⟨(-1), rfl, trivial, ht⟩) (fun _ h => by cases h) dX9_chainOf_18
