set_option maxHeartbeats 4000000 in
set_option maxRecDepth 100000 in
/-- X9_sums: the loop at 28 -/
theorem lp_X9_sumsI {p : Program} {l : Launch} {e : Env} {s : State} {m : MethodId} {args : Array Value} {below : List Frame} {meth : Method} {c : Code} {Q : State → Prop} {D : va_G} {cI cJ cZ cM : Nat} {h0 : Nat} {n : Nat → Nat} {mi : Nat → Int32} {mq : Nat → Int32} {mav : Nat → Nat → Int32} {n0 : Nat} {pw : Nat → Nat} {pl : Nat → Nat} {K9 : Nat} {A : Nat → Prop} (hx : p.tables.exec = Jvm.exec) (hb : c.code = cX9_sums) (hml : c.maxLocals = 3) (hts : ∀ w ∈ wsX9_sums, w.before args s = true) (hown : s.vm.findClass RX9 = some m.cls) (hG : GK D cI cJ cZ cM s) (hA : ∀ q : Nat, s.heap.size ≤ q → A q) (hn0 : n0 ≤ 10) (h_n : mi 1 = nI n0) (hpw : ∀ i, i < n0 → (mav 23) i = nI (pw i) ∧ pw i ≤ 1000) (hpl : ∀ i, i < n0 → (mav 22) i = nI (pl i) ∧ pl i ≤ 1000) (hKK : K9 < 2 ^ n0) :
    ∀ (k9 : Nat) (m_ : Nat) (fl : Nat → Int32) (fw : Nat → Int32), (m_ ≤ n0) → (fl K9 = nI (zsm pl K9 m_)) → (fw K9 = nI (zsm pw K9 m_)) → (∀ S, S < K9 → fl S = nI (zsm pl S n0) ∧ fw S = nI (zsm pw S n0)) → n0 - m_ < k9 → ∀ (H : Heap) (locs : List Loc) (ls : Array Slot), va_P D vwCl [(h0, .inr (9, [.ref (n 0), .int (mi 1), .ref (n 2), .ref (n 3), .ref (n 4), .ref (n 5), .ref (n 6), .int (mi 7), .ref (n 8), .ref (n 9), .ref (n 10), .ref (n 11), .ref (n 12), .ref (n 13), .ref (n 14), .int (mi 15), .int (mi 16), .ref (n 17), .ref (n 18), .ref (n 19), .ref (n 20), .ref (n 21), .ref (n 22), .ref (n 23), .ref (n 24), .ref (n 25), .int (mi 26), .int (mi 27), .int (mi 28), .int (mi 29), .int (mi 30), .int (mi 31), .int (mi 32), .int (mi 33), .ref (n 34), .ref (n 35), .int (mq 36), .int (mq 37), .int (mq 38), .ref (n 39), .ref (n 40), .ref (n 41), .ref (n 42), .int (mq 43), .int (mq 44), .int (mq 45)])), (n 22, .inl (cI, 10, .inl (mav 22))), (n 23, .inl (cI, 10, .inl (mav 23))), (n 41, .inl (cI, 1024, .inl fl)), (n 42, .inl (cI, 1024, .inl fw))] H → va_D A [(h0, .inr (9, [.ref (n 0), .int (mi 1), .ref (n 2), .ref (n 3), .ref (n 4), .ref (n 5), .ref (n 6), .int (mi 7), .ref (n 8), .ref (n 9), .ref (n 10), .ref (n 11), .ref (n 12), .ref (n 13), .ref (n 14), .int (mi 15), .int (mi 16), .ref (n 17), .ref (n 18), .ref (n 19), .ref (n 20), .ref (n 21), .ref (n 22), .ref (n 23), .ref (n 24), .ref (n 25), .int (mi 26), .int (mi 27), .int (mi 28), .int (mi 29), .int (mi 30), .int (mi 31), .int (mi 32), .int (mi 33), .ref (n 34), .ref (n 35), .int (mq 36), .int (mq 37), .int (mq 38), .ref (n 39), .ref (n 40), .ref (n 41), .ref (n 42), .int (mq 43), .int (mq 44), .int (mq 45)])), (n 22, .inl (cI, 10, .inl (mav 22))), (n 23, .inl (cI, 10, .inl (mav 23))), (n 41, .inl (cI, 1024, .inl fl)), (n 42, .inl (cI, 1024, .inl fw))] → va_S A s.heap H locs → lv_has ls 3 [(2, .int (nI m_)), (0, .ref h0), (1, .int (nI K9))] → (∀ (fl : Nat → Int32) (fw : Nat → Int32) (H : Heap) (locs : List Loc) (ls : Array Slot), (∀ S, S < K9 + 1 → fl S = nI (zsm pl S n0) ∧ fw S = nI (zsm pw S n0)) → va_P D vwCl [(h0, .inr (9, [.ref (n 0), .int (mi 1), .ref (n 2), .ref (n 3), .ref (n 4), .ref (n 5), .ref (n 6), .int (mi 7), .ref (n 8), .ref (n 9), .ref (n 10), .ref (n 11), .ref (n 12), .ref (n 13), .ref (n 14), .int (mi 15), .int (mi 16), .ref (n 17), .ref (n 18), .ref (n 19), .ref (n 20), .ref (n 21), .ref (n 22), .ref (n 23), .ref (n 24), .ref (n 25), .int (mi 26), .int (mi 27), .int (mi 28), .int (mi 29), .int (mi 30), .int (mi 31), .int (mi 32), .int (mi 33), .ref (n 34), .ref (n 35), .int (mq 36), .int (mq 37), .int (mq 38), .ref (n 39), .ref (n 40), .ref (n 41), .ref (n 42), .int (mq 43), .int (mq 44), .int (mq 45)])), (n 22, .inl (cI, 10, .inl (mav 22))), (n 23, .inl (cI, 10, .inl (mav 23))), (n 41, .inl (cI, 1024, .inl fl)), (n 42, .inl (cI, 1024, .inl fw))] H → va_D A [(h0, .inr (9, [.ref (n 0), .int (mi 1), .ref (n 2), .ref (n 3), .ref (n 4), .ref (n 5), .ref (n 6), .int (mi 7), .ref (n 8), .ref (n 9), .ref (n 10), .ref (n 11), .ref (n 12), .ref (n 13), .ref (n 14), .int (mi 15), .int (mi 16), .ref (n 17), .ref (n 18), .ref (n 19), .ref (n 20), .ref (n 21), .ref (n 22), .ref (n 23), .ref (n 24), .ref (n 25), .int (mi 26), .int (mi 27), .int (mi 28), .int (mi 29), .int (mi 30), .int (mi 31), .int (mi 32), .int (mi 33), .ref (n 34), .ref (n 35), .int (mq 36), .int (mq 37), .int (mq 38), .ref (n 39), .ref (n 40), .ref (n 41), .ref (n 42), .int (mq 43), .int (mq 44), .int (mq 45)])), (n 22, .inl (cI, 10, .inl (mav 22))), (n 23, .inl (cI, 10, .inl (mav 23))), (n 41, .inl (cI, 1024, .inl fl)), (n 42, .inl (cI, 1024, .inl fw))] → va_S A s.heap H locs → lv_has ls 3 [(0, .ref h0), (1, .int (nI K9))] → W p l e (headSpec wsX9_sums ({ frames := 0, cells := 0, slots := 0, locals := 0 } : Room)).room s m args below meth c H locs 0 0 Q (F0 m 98 ls [])) → W p l e (headSpec wsX9_sums ({ frames := 0, cells := 0, slots := 0, locals := 0 } : Room)).room s m args below meth c H locs 0 0 Q (F0 m 28 ls []) := by
  have hK := hG.1
  have hN := hG.2
  intro k9
  induction k9 with
  | zero => intro m_ fl fw hmn hvl hvw hold hfu; exact absurd hfu (Nat.not_lt_zero _)
  | succ k9 ih =>
    intro m_ fl fw hmn hvl hvw hold hfu H locs ls hP hD hS hl kk0
    have hp10 : 2 ^ n0 ≤ 1024 := Nat.pow_le_pow_right (n := 2) (by decide) hn0
    rcases Nat.lt_or_ge m_ n0 with hlt | hge
    · obtain ⟨hw_m, bw_m⟩ := hpw m_ hlt
      obtain ⟨hl_m, bl_m⟩ := hpl m_ hlt
      refine lv_iload_n hx hb dX9_sums_28 rfl (lv_at hl 0 rfl) ?_
      refine lv_aload_n hx hb dX9_sums_29 rfl (lv_at hl 1 rfl) ?_
      refine va_get (D := D) (ci := 9) (v := .int (mi 1)) (C := RX9) (T := TX9) (N := 46) hx hb hts (fun _ h9 => List.mem_cons_of_mem _ (List.mem_append_right _ h9)) hown hK hP 0 rfl rfl 1 (by decide) (hts (.fieldLink RX9 109 "BuoyTenderModel" "marks" "I") (by decide +kernel)) (fun _ h9 => h9) rfl dX9_sums_30 ?_
      refine lv_topi (fun z_1 ez_1 => ?_)
      obtain rfl : z_1 = nI n0 := ez_1.trans h_n
      refine lv_icmp_ge (tgt := 98) hx hb dX9_sums_33 (by decide) (fun c_2 => absurd c_2 (nI_ge hlt (by omega))) (fun c_2 => ?_)
      refine lv_aload_n hx hb dX9_sums_36 rfl (lv_at hl 1 rfl) ?_
      refine va_get (D := D) (ci := 9) (v := .ref (n 41)) (C := RX9) (T := TX9) (N := 46) hx hb hts (fun _ h9 => List.mem_cons_of_mem _ (List.mem_append_right _ h9)) hown hK hP 0 rfl rfl 41 (by decide) (hts (.fieldLink RX9 99 "BuoyTenderModel" "loadOf" "[I") (by decide +kernel)) (fun _ h9 => h9) rfl dX9_sums_37 ?_
      refine lv_iload_n hx hb dX9_sums_40 rfl (lv_at hl 2 rfl) ?_
      refine lv_dup2_11 hx hb dX9_sums_41 rfl rfl ?_
      refine va_iald hx hb hK hP 3 0 rfl rfl (vp_in_nI (by omega) (by decide)) dX9_sums_42 ?_
      refine lv_topi (fun z_3 ez_3 => ?_)
      obtain rfl : z_3 = fl K9 := ez_3.trans (congrArg fl (nI_clamp (by omega)))
      refine lv_topi (fun z_4 ez_4 => ?_)
      obtain rfl : z_4 = nI (zsm pl K9 m_) := ez_4.trans hvl
      refine lv_iload_n hx hb dX9_sums_43 rfl (lv_at hl 2 rfl) ?_
      refine lv_iload_n hx hb dX9_sums_44 rfl (lv_at hl 0 rfl) ?_
      refine lv_ishr hx hb dX9_sums_45 ?_
      refine lv_iconst (v := 1) hx hb dX9_sums_46 (by decide) ?_
      refine lv_iand hx hb dX9_sums_47 ?_
      refine lv_topi (fun z_5 ez_5 => ?_)
      obtain rfl : z_5 = nI (K9 / 2 ^ m_ % 2) := ez_5.trans (nx_bit2 (by omega) (by omega))
      refine lv_iconst (v := 1) hx hb dX9_sums_48 (by decide) ?_
      refine lv_icmp_ne (tgt := 61) hx hb dX9_sums_49 (by decide) (fun c_6 => ?_) (fun c_6 => ?_)
      · refine lv_iconst (v := 0) hx hb dX9_sums_61 (by decide) ?_
        refine lv_iadd hx hb dX9_sums_62 ?_
        refine lv_topi (fun z_7 ez_7 => ?_)
        obtain rfl : z_7 = nI ((zsm pl K9 m_) + 0) := ez_7.trans (nI_add (zsm pl K9 m_) 0)
        refine va_iast hx hb hK hP hD hS 3 0 rfl rfl (vp_in_nI (by omega) (by decide)) dX9_sums_63 (fun H locs hP hD hS => ?_)
        rw [nI_clamp (by omega)] at hP hD
        have hP : va_P D vwCl [(h0, .inr (9, [.ref (n 0), .int (mi 1), .ref (n 2), .ref (n 3), .ref (n 4), .ref (n 5), .ref (n 6), .int (mi 7), .ref (n 8), .ref (n 9), .ref (n 10), .ref (n 11), .ref (n 12), .ref (n 13), .ref (n 14), .int (mi 15), .int (mi 16), .ref (n 17), .ref (n 18), .ref (n 19), .ref (n 20), .ref (n 21), .ref (n 22), .ref (n 23), .ref (n 24), .ref (n 25), .int (mi 26), .int (mi 27), .int (mi 28), .int (mi 29), .int (mi 30), .int (mi 31), .int (mi 32), .int (mi 33), .ref (n 34), .ref (n 35), .int (mq 36), .int (mq 37), .int (mq 38), .ref (n 39), .ref (n 40), .ref (n 41), .ref (n 42), .int (mq 43), .int (mq 44), .int (mq 45)])), (n 22, .inl (cI, 10, .inl (mav 22))), (n 23, .inl (cI, 10, .inl (mav 23))), (n 41, .inl (cI, 1024, .inl (upd fl K9 (nI ((zsm pl K9 m_) + 0))))), (n 42, .inl (cI, 1024, .inl fw))] H := hP
        have hD : va_D A [(h0, .inr (9, [.ref (n 0), .int (mi 1), .ref (n 2), .ref (n 3), .ref (n 4), .ref (n 5), .ref (n 6), .int (mi 7), .ref (n 8), .ref (n 9), .ref (n 10), .ref (n 11), .ref (n 12), .ref (n 13), .ref (n 14), .int (mi 15), .int (mi 16), .ref (n 17), .ref (n 18), .ref (n 19), .ref (n 20), .ref (n 21), .ref (n 22), .ref (n 23), .ref (n 24), .ref (n 25), .int (mi 26), .int (mi 27), .int (mi 28), .int (mi 29), .int (mi 30), .int (mi 31), .int (mi 32), .int (mi 33), .ref (n 34), .ref (n 35), .int (mq 36), .int (mq 37), .int (mq 38), .ref (n 39), .ref (n 40), .ref (n 41), .ref (n 42), .int (mq 43), .int (mq 44), .int (mq 45)])), (n 22, .inl (cI, 10, .inl (mav 22))), (n 23, .inl (cI, 10, .inl (mav 23))), (n 41, .inl (cI, 1024, .inl (upd fl K9 (nI ((zsm pl K9 m_) + 0))))), (n 42, .inl (cI, 1024, .inl fw))] := hD
        refine lv_aload_n hx hb dX9_sums_64 rfl (lv_at hl 1 rfl) ?_
        refine va_get (D := D) (ci := 9) (v := .ref (n 42)) (C := RX9) (T := TX9) (N := 46) hx hb hts (fun _ h9 => List.mem_cons_of_mem _ (List.mem_append_right _ h9)) hown hK hP 0 rfl rfl 42 (by decide) (hts (.fieldLink RX9 102 "BuoyTenderModel" "weightOf" "[I") (by decide +kernel)) (fun _ h9 => h9) rfl dX9_sums_65 ?_
        refine lv_iload_n hx hb dX9_sums_68 rfl (lv_at hl 2 rfl) ?_
        refine lv_dup2_11 hx hb dX9_sums_69 rfl rfl ?_
        refine va_iald hx hb hK hP 4 0 rfl rfl (vp_in_nI (by omega) (by decide)) dX9_sums_70 ?_
        refine lv_topi (fun z_8 ez_8 => ?_)
        obtain rfl : z_8 = fw K9 := ez_8.trans (congrArg fw (nI_clamp (by omega)))
        refine lv_topi (fun z_9 ez_9 => ?_)
        obtain rfl : z_9 = nI (zsm pw K9 m_) := ez_9.trans hvw
        refine lv_iload_n hx hb dX9_sums_71 rfl (lv_at hl 2 rfl) ?_
        refine lv_iload_n hx hb dX9_sums_72 rfl (lv_at hl 0 rfl) ?_
        refine lv_ishr hx hb dX9_sums_73 ?_
        refine lv_iconst (v := 1) hx hb dX9_sums_74 (by decide) ?_
        refine lv_iand hx hb dX9_sums_75 ?_
        refine lv_topi (fun z_10 ez_10 => ?_)
        obtain rfl : z_10 = nI (K9 / 2 ^ m_ % 2) := ez_10.trans (nx_bit2 (by omega) (by omega))
        refine lv_iconst (v := 1) hx hb dX9_sums_76 (by decide) ?_
        refine lv_icmp_ne (tgt := 89) hx hb dX9_sums_77 (by decide) (fun c_11 => ?_) (fun c_11 => absurd c_11 c_6)
        refine lv_iconst (v := 0) hx hb dX9_sums_89 (by decide) ?_
        refine lv_iadd hx hb dX9_sums_90 ?_
        refine lv_topi (fun z_12 ez_12 => ?_)
        obtain rfl : z_12 = nI ((zsm pw K9 m_) + 0) := ez_12.trans (nI_add (zsm pw K9 m_) 0)
        refine va_iast hx hb hK hP hD hS 4 0 rfl rfl (vp_in_nI (by omega) (by decide)) dX9_sums_91 (fun H locs hP hD hS => ?_)
        rw [nI_clamp (by omega)] at hP hD
        have hP : va_P D vwCl [(h0, .inr (9, [.ref (n 0), .int (mi 1), .ref (n 2), .ref (n 3), .ref (n 4), .ref (n 5), .ref (n 6), .int (mi 7), .ref (n 8), .ref (n 9), .ref (n 10), .ref (n 11), .ref (n 12), .ref (n 13), .ref (n 14), .int (mi 15), .int (mi 16), .ref (n 17), .ref (n 18), .ref (n 19), .ref (n 20), .ref (n 21), .ref (n 22), .ref (n 23), .ref (n 24), .ref (n 25), .int (mi 26), .int (mi 27), .int (mi 28), .int (mi 29), .int (mi 30), .int (mi 31), .int (mi 32), .int (mi 33), .ref (n 34), .ref (n 35), .int (mq 36), .int (mq 37), .int (mq 38), .ref (n 39), .ref (n 40), .ref (n 41), .ref (n 42), .int (mq 43), .int (mq 44), .int (mq 45)])), (n 22, .inl (cI, 10, .inl (mav 22))), (n 23, .inl (cI, 10, .inl (mav 23))), (n 41, .inl (cI, 1024, .inl (upd fl K9 (nI ((zsm pl K9 m_) + 0))))), (n 42, .inl (cI, 1024, .inl (upd fw K9 (nI ((zsm pw K9 m_) + 0)))))] H := hP
        have hD : va_D A [(h0, .inr (9, [.ref (n 0), .int (mi 1), .ref (n 2), .ref (n 3), .ref (n 4), .ref (n 5), .ref (n 6), .int (mi 7), .ref (n 8), .ref (n 9), .ref (n 10), .ref (n 11), .ref (n 12), .ref (n 13), .ref (n 14), .int (mi 15), .int (mi 16), .ref (n 17), .ref (n 18), .ref (n 19), .ref (n 20), .ref (n 21), .ref (n 22), .ref (n 23), .ref (n 24), .ref (n 25), .int (mi 26), .int (mi 27), .int (mi 28), .int (mi 29), .int (mi 30), .int (mi 31), .int (mi 32), .int (mi 33), .ref (n 34), .ref (n 35), .int (mq 36), .int (mq 37), .int (mq 38), .ref (n 39), .ref (n 40), .ref (n 41), .ref (n 42), .int (mq 43), .int (mq 44), .int (mq 45)])), (n 22, .inl (cI, 10, .inl (mav 22))), (n 23, .inl (cI, 10, .inl (mav 23))), (n 41, .inl (cI, 1024, .inl (upd fl K9 (nI ((zsm pl K9 m_) + 0))))), (n 42, .inl (cI, 1024, .inl (upd fw K9 (nI ((zsm pw K9 m_) + 0)))))] := hD
        refine lv_iinc (v := nI (m_ + 1)) (lv' := [(2, .int (nI (m_ + 1))), (0, .ref h0), (1, .int (nI K9))]) hx hb dX9_sums_92 hl (k := 0) rfl (nI_add m_ 1) (by decide) rfl (fun ls hl => ?_)
        refine lv_goto (tgt := 28) hx hb dX9_sums_95 (by decide) ?_
        exact ih (m_ + 1) (upd fl K9 (nI ((zsm pl K9 m_) + 0))) (upd fw K9 (nI ((zsm pw K9 m_) + 0))) (by omega) (pk_us.trans (congrArg nI (sm_f (fun q => by rw [bit_f c_6] at q; cases q)).symm)) (pk_us.trans (congrArg nI (sm_f (fun q => by rw [bit_f c_6] at q; cases q)).symm)) (fun S hS9 => ⟨by rw [pk_un (by omega)]; exact (hold S hS9).1, by rw [pk_un (by omega)]; exact (hold S hS9).2⟩) (by omega) _ _ _ hP hD hS (lv_sub hl [0, 1, 2] rfl) kk0
      refine lv_aload_n hx hb dX9_sums_52 rfl (lv_at hl 1 rfl) ?_
      refine va_get (D := D) (ci := 9) (v := .ref (n 22)) (C := RX9) (T := TX9) (N := 46) hx hb hts (fun _ h9 => List.mem_cons_of_mem _ (List.mem_append_right _ h9)) hown hK hP 0 rfl rfl 22 (by decide) (hts (.fieldLink RX9 65 "BuoyTenderModel" "load" "[I") (by decide +kernel)) (fun _ h9 => h9) rfl dX9_sums_53 ?_
      refine lv_iload_n hx hb dX9_sums_56 rfl (lv_at hl 0 rfl) ?_
      refine va_iald hx hb hK hP 1 0 rfl rfl (vp_in_nI (by omega) (by decide)) dX9_sums_57 ?_
      refine lv_topi (fun z_13 ez_13 => ?_)
      obtain rfl : z_13 = (mav 22) m_ := ez_13.trans (congrArg (mav 22) (nI_clamp (by omega)))
      refine lv_topi (fun z_14 ez_14 => ?_)
      obtain rfl : z_14 = nI (pl m_) := ez_14.trans hl_m
      refine lv_goto (tgt := 62) hx hb dX9_sums_58 (by decide) ?_
      refine lv_iadd hx hb dX9_sums_62 ?_
      refine lv_topi (fun z_15 ez_15 => ?_)
      obtain rfl : z_15 = nI ((zsm pl K9 m_) + (pl m_)) := ez_15.trans (nI_add (zsm pl K9 m_) (pl m_))
      refine va_iast hx hb hK hP hD hS 3 0 rfl rfl (vp_in_nI (by omega) (by decide)) dX9_sums_63 (fun H locs hP hD hS => ?_)
      rw [nI_clamp (by omega)] at hP hD
      have hP : va_P D vwCl [(h0, .inr (9, [.ref (n 0), .int (mi 1), .ref (n 2), .ref (n 3), .ref (n 4), .ref (n 5), .ref (n 6), .int (mi 7), .ref (n 8), .ref (n 9), .ref (n 10), .ref (n 11), .ref (n 12), .ref (n 13), .ref (n 14), .int (mi 15), .int (mi 16), .ref (n 17), .ref (n 18), .ref (n 19), .ref (n 20), .ref (n 21), .ref (n 22), .ref (n 23), .ref (n 24), .ref (n 25), .int (mi 26), .int (mi 27), .int (mi 28), .int (mi 29), .int (mi 30), .int (mi 31), .int (mi 32), .int (mi 33), .ref (n 34), .ref (n 35), .int (mq 36), .int (mq 37), .int (mq 38), .ref (n 39), .ref (n 40), .ref (n 41), .ref (n 42), .int (mq 43), .int (mq 44), .int (mq 45)])), (n 22, .inl (cI, 10, .inl (mav 22))), (n 23, .inl (cI, 10, .inl (mav 23))), (n 41, .inl (cI, 1024, .inl (upd fl K9 (nI ((zsm pl K9 m_) + (pl m_)))))), (n 42, .inl (cI, 1024, .inl fw))] H := hP
      have hD : va_D A [(h0, .inr (9, [.ref (n 0), .int (mi 1), .ref (n 2), .ref (n 3), .ref (n 4), .ref (n 5), .ref (n 6), .int (mi 7), .ref (n 8), .ref (n 9), .ref (n 10), .ref (n 11), .ref (n 12), .ref (n 13), .ref (n 14), .int (mi 15), .int (mi 16), .ref (n 17), .ref (n 18), .ref (n 19), .ref (n 20), .ref (n 21), .ref (n 22), .ref (n 23), .ref (n 24), .ref (n 25), .int (mi 26), .int (mi 27), .int (mi 28), .int (mi 29), .int (mi 30), .int (mi 31), .int (mi 32), .int (mi 33), .ref (n 34), .ref (n 35), .int (mq 36), .int (mq 37), .int (mq 38), .ref (n 39), .ref (n 40), .ref (n 41), .ref (n 42), .int (mq 43), .int (mq 44), .int (mq 45)])), (n 22, .inl (cI, 10, .inl (mav 22))), (n 23, .inl (cI, 10, .inl (mav 23))), (n 41, .inl (cI, 1024, .inl (upd fl K9 (nI ((zsm pl K9 m_) + (pl m_)))))), (n 42, .inl (cI, 1024, .inl fw))] := hD
      refine lv_aload_n hx hb dX9_sums_64 rfl (lv_at hl 1 rfl) ?_
      refine va_get (D := D) (ci := 9) (v := .ref (n 42)) (C := RX9) (T := TX9) (N := 46) hx hb hts (fun _ h9 => List.mem_cons_of_mem _ (List.mem_append_right _ h9)) hown hK hP 0 rfl rfl 42 (by decide) (hts (.fieldLink RX9 102 "BuoyTenderModel" "weightOf" "[I") (by decide +kernel)) (fun _ h9 => h9) rfl dX9_sums_65 ?_
      refine lv_iload_n hx hb dX9_sums_68 rfl (lv_at hl 2 rfl) ?_
      refine lv_dup2_11 hx hb dX9_sums_69 rfl rfl ?_
      refine va_iald hx hb hK hP 4 0 rfl rfl (vp_in_nI (by omega) (by decide)) dX9_sums_70 ?_
      refine lv_topi (fun z_16 ez_16 => ?_)
      obtain rfl : z_16 = fw K9 := ez_16.trans (congrArg fw (nI_clamp (by omega)))
      refine lv_topi (fun z_17 ez_17 => ?_)
      obtain rfl : z_17 = nI (zsm pw K9 m_) := ez_17.trans hvw
      refine lv_iload_n hx hb dX9_sums_71 rfl (lv_at hl 2 rfl) ?_
      refine lv_iload_n hx hb dX9_sums_72 rfl (lv_at hl 0 rfl) ?_
      refine lv_ishr hx hb dX9_sums_73 ?_
      refine lv_iconst (v := 1) hx hb dX9_sums_74 (by decide) ?_
      refine lv_iand hx hb dX9_sums_75 ?_
      refine lv_topi (fun z_18 ez_18 => ?_)
      obtain rfl : z_18 = nI (K9 / 2 ^ m_ % 2) := ez_18.trans (nx_bit2 (by omega) (by omega))
      refine lv_iconst (v := 1) hx hb dX9_sums_76 (by decide) ?_
      refine lv_icmp_ne (tgt := 89) hx hb dX9_sums_77 (by decide) (fun c_19 => absurd c_6 c_19) (fun c_19 => ?_)
      refine lv_aload_n hx hb dX9_sums_80 rfl (lv_at hl 1 rfl) ?_
      refine va_get (D := D) (ci := 9) (v := .ref (n 23)) (C := RX9) (T := TX9) (N := 46) hx hb hts (fun _ h9 => List.mem_cons_of_mem _ (List.mem_append_right _ h9)) hown hK hP 0 rfl rfl 23 (by decide) (hts (.fieldLink RX9 68 "BuoyTenderModel" "weight" "[I") (by decide +kernel)) (fun _ h9 => h9) rfl dX9_sums_81 ?_
      refine lv_iload_n hx hb dX9_sums_84 rfl (lv_at hl 0 rfl) ?_
      refine va_iald hx hb hK hP 2 0 rfl rfl (vp_in_nI (by omega) (by decide)) dX9_sums_85 ?_
      refine lv_topi (fun z_20 ez_20 => ?_)
      obtain rfl : z_20 = (mav 23) m_ := ez_20.trans (congrArg (mav 23) (nI_clamp (by omega)))
      refine lv_topi (fun z_21 ez_21 => ?_)
      obtain rfl : z_21 = nI (pw m_) := ez_21.trans hw_m
      refine lv_goto (tgt := 90) hx hb dX9_sums_86 (by decide) ?_
      refine lv_iadd hx hb dX9_sums_90 ?_
      refine lv_topi (fun z_22 ez_22 => ?_)
      obtain rfl : z_22 = nI ((zsm pw K9 m_) + (pw m_)) := ez_22.trans (nI_add (zsm pw K9 m_) (pw m_))
      refine va_iast hx hb hK hP hD hS 4 0 rfl rfl (vp_in_nI (by omega) (by decide)) dX9_sums_91 (fun H locs hP hD hS => ?_)
      rw [nI_clamp (by omega)] at hP hD
      have hP : va_P D vwCl [(h0, .inr (9, [.ref (n 0), .int (mi 1), .ref (n 2), .ref (n 3), .ref (n 4), .ref (n 5), .ref (n 6), .int (mi 7), .ref (n 8), .ref (n 9), .ref (n 10), .ref (n 11), .ref (n 12), .ref (n 13), .ref (n 14), .int (mi 15), .int (mi 16), .ref (n 17), .ref (n 18), .ref (n 19), .ref (n 20), .ref (n 21), .ref (n 22), .ref (n 23), .ref (n 24), .ref (n 25), .int (mi 26), .int (mi 27), .int (mi 28), .int (mi 29), .int (mi 30), .int (mi 31), .int (mi 32), .int (mi 33), .ref (n 34), .ref (n 35), .int (mq 36), .int (mq 37), .int (mq 38), .ref (n 39), .ref (n 40), .ref (n 41), .ref (n 42), .int (mq 43), .int (mq 44), .int (mq 45)])), (n 22, .inl (cI, 10, .inl (mav 22))), (n 23, .inl (cI, 10, .inl (mav 23))), (n 41, .inl (cI, 1024, .inl (upd fl K9 (nI ((zsm pl K9 m_) + (pl m_)))))), (n 42, .inl (cI, 1024, .inl (upd fw K9 (nI ((zsm pw K9 m_) + (pw m_))))))] H := hP
      have hD : va_D A [(h0, .inr (9, [.ref (n 0), .int (mi 1), .ref (n 2), .ref (n 3), .ref (n 4), .ref (n 5), .ref (n 6), .int (mi 7), .ref (n 8), .ref (n 9), .ref (n 10), .ref (n 11), .ref (n 12), .ref (n 13), .ref (n 14), .int (mi 15), .int (mi 16), .ref (n 17), .ref (n 18), .ref (n 19), .ref (n 20), .ref (n 21), .ref (n 22), .ref (n 23), .ref (n 24), .ref (n 25), .int (mi 26), .int (mi 27), .int (mi 28), .int (mi 29), .int (mi 30), .int (mi 31), .int (mi 32), .int (mi 33), .ref (n 34), .ref (n 35), .int (mq 36), .int (mq 37), .int (mq 38), .ref (n 39), .ref (n 40), .ref (n 41), .ref (n 42), .int (mq 43), .int (mq 44), .int (mq 45)])), (n 22, .inl (cI, 10, .inl (mav 22))), (n 23, .inl (cI, 10, .inl (mav 23))), (n 41, .inl (cI, 1024, .inl (upd fl K9 (nI ((zsm pl K9 m_) + (pl m_)))))), (n 42, .inl (cI, 1024, .inl (upd fw K9 (nI ((zsm pw K9 m_) + (pw m_))))))] := hD
      refine lv_iinc (v := nI (m_ + 1)) (lv' := [(2, .int (nI (m_ + 1))), (0, .ref h0), (1, .int (nI K9))]) hx hb dX9_sums_92 hl (k := 0) rfl (nI_add m_ 1) (by decide) rfl (fun ls hl => ?_)
      refine lv_goto (tgt := 28) hx hb dX9_sums_95 (by decide) ?_
      exact ih (m_ + 1) (upd fl K9 (nI ((zsm pl K9 m_) + (pl m_)))) (upd fw K9 (nI ((zsm pw K9 m_) + (pw m_)))) (by omega) (pk_us.trans (congrArg nI (sm_t (bit_t c_6)).symm)) (pk_us.trans (congrArg nI (sm_t (bit_t c_6)).symm)) (fun S hS9 => ⟨by rw [pk_un (by omega)]; exact (hold S hS9).1, by rw [pk_un (by omega)]; exact (hold S hS9).2⟩) (by omega) _ _ _ hP hD hS (lv_sub hl [0, 1, 2] rfl) kk0
    · refine lv_iload_n hx hb dX9_sums_28 rfl (lv_at hl 0 rfl) ?_
      refine lv_aload_n hx hb dX9_sums_29 rfl (lv_at hl 1 rfl) ?_
      refine va_get (D := D) (ci := 9) (v := .int (mi 1)) (C := RX9) (T := TX9) (N := 46) hx hb hts (fun _ h9 => List.mem_cons_of_mem _ (List.mem_append_right _ h9)) hown hK hP 0 rfl rfl 1 (by decide) (hts (.fieldLink RX9 109 "BuoyTenderModel" "marks" "I") (by decide +kernel)) (fun _ h9 => h9) rfl dX9_sums_30 ?_
      refine lv_topi (fun z_23 ez_23 => ?_)
      obtain rfl : z_23 = nI n0 := ez_23.trans h_n
      refine lv_icmp_ge (tgt := 98) hx hb dX9_sums_33 (by decide) (fun c_24 => ?_) (fun c_24 => absurd (nI_le hge (by omega)) c_24)
      exact kk0 fl fw _ _ _ (fun S hS9 => (Nat.lt_or_ge S K9).elim (hold S) (fun q => by have e9 : S = K9 := (by omega); have e8 : m_ = n0 := (by omega); rw [e9, ← e8]; exact ⟨hvl, hvw⟩)) hP hD hS (lv_sub hl [1, 2] rfl)
set_option maxHeartbeats 4000000 in
set_option maxRecDepth 100000 in
/-- X9_sums: the loop at 2 -/
theorem lp_X9_sumsO {p : Program} {l : Launch} {e : Env} {s : State} {m : MethodId} {args : Array Value} {below : List Frame} {meth : Method} {c : Code} {Q : State → Prop} {D : va_G} {cI cJ cZ cM : Nat} {h0 : Nat} {n : Nat → Nat} {mi : Nat → Int32} {mq : Nat → Int32} {mav : Nat → Nat → Int32} {n0 : Nat} {pw : Nat → Nat} {pl : Nat → Nat} {A : Nat → Prop} (hx : p.tables.exec = Jvm.exec) (hb : c.code = cX9_sums) (hml : c.maxLocals = 3) (hts : ∀ w ∈ wsX9_sums, w.before args s = true) (hown : s.vm.findClass RX9 = some m.cls) (hG : GK D cI cJ cZ cM s) (hA : ∀ q : Nat, s.heap.size ≤ q → A q) (hn0 : n0 ≤ 10) (h_n : mi 1 = nI n0) (hpw : ∀ i, i < n0 → (mav 23) i = nI (pw i) ∧ pw i ≤ 1000) (hpl : ∀ i, i < n0 → (mav 22) i = nI (pl i) ∧ pl i ≤ 1000) :
    ∀ (k9 : Nat) (k_ : Nat) (fl : Nat → Int32) (fw : Nat → Int32), (k_ ≤ 2 ^ n0) → (∀ S, S < k_ → fl S = nI (zsm pl S n0) ∧ fw S = nI (zsm pw S n0)) → (2 ^ n0) - k_ < k9 → ∀ (H : Heap) (locs : List Loc) (ls : Array Slot), va_P D vwCl [(h0, .inr (9, [.ref (n 0), .int (mi 1), .ref (n 2), .ref (n 3), .ref (n 4), .ref (n 5), .ref (n 6), .int (mi 7), .ref (n 8), .ref (n 9), .ref (n 10), .ref (n 11), .ref (n 12), .ref (n 13), .ref (n 14), .int (mi 15), .int (mi 16), .ref (n 17), .ref (n 18), .ref (n 19), .ref (n 20), .ref (n 21), .ref (n 22), .ref (n 23), .ref (n 24), .ref (n 25), .int (mi 26), .int (mi 27), .int (mi 28), .int (mi 29), .int (mi 30), .int (mi 31), .int (mi 32), .int (mi 33), .ref (n 34), .ref (n 35), .int (mq 36), .int (mq 37), .int (mq 38), .ref (n 39), .ref (n 40), .ref (n 41), .ref (n 42), .int (mq 43), .int (mq 44), .int (mq 45)])), (n 22, .inl (cI, 10, .inl (mav 22))), (n 23, .inl (cI, 10, .inl (mav 23))), (n 41, .inl (cI, 1024, .inl fl)), (n 42, .inl (cI, 1024, .inl fw))] H → va_D A [(h0, .inr (9, [.ref (n 0), .int (mi 1), .ref (n 2), .ref (n 3), .ref (n 4), .ref (n 5), .ref (n 6), .int (mi 7), .ref (n 8), .ref (n 9), .ref (n 10), .ref (n 11), .ref (n 12), .ref (n 13), .ref (n 14), .int (mi 15), .int (mi 16), .ref (n 17), .ref (n 18), .ref (n 19), .ref (n 20), .ref (n 21), .ref (n 22), .ref (n 23), .ref (n 24), .ref (n 25), .int (mi 26), .int (mi 27), .int (mi 28), .int (mi 29), .int (mi 30), .int (mi 31), .int (mi 32), .int (mi 33), .ref (n 34), .ref (n 35), .int (mq 36), .int (mq 37), .int (mq 38), .ref (n 39), .ref (n 40), .ref (n 41), .ref (n 42), .int (mq 43), .int (mq 44), .int (mq 45)])), (n 22, .inl (cI, 10, .inl (mav 22))), (n 23, .inl (cI, 10, .inl (mav 23))), (n 41, .inl (cI, 1024, .inl fl)), (n 42, .inl (cI, 1024, .inl fw))] → va_S A s.heap H locs → lv_has ls 3 [(1, .int (nI k_)), (0, .ref h0)] → (∀ (fl : Nat → Int32) (fw : Nat → Int32) (H : Heap) (locs : List Loc) (ls : Array Slot), (∀ S, S < 2 ^ n0 → fl S = nI (zsm pl S n0) ∧ fw S = nI (zsm pw S n0)) → va_P D vwCl [(h0, .inr (9, [.ref (n 0), .int (mi 1), .ref (n 2), .ref (n 3), .ref (n 4), .ref (n 5), .ref (n 6), .int (mi 7), .ref (n 8), .ref (n 9), .ref (n 10), .ref (n 11), .ref (n 12), .ref (n 13), .ref (n 14), .int (mi 15), .int (mi 16), .ref (n 17), .ref (n 18), .ref (n 19), .ref (n 20), .ref (n 21), .ref (n 22), .ref (n 23), .ref (n 24), .ref (n 25), .int (mi 26), .int (mi 27), .int (mi 28), .int (mi 29), .int (mi 30), .int (mi 31), .int (mi 32), .int (mi 33), .ref (n 34), .ref (n 35), .int (mq 36), .int (mq 37), .int (mq 38), .ref (n 39), .ref (n 40), .ref (n 41), .ref (n 42), .int (mq 43), .int (mq 44), .int (mq 45)])), (n 22, .inl (cI, 10, .inl (mav 22))), (n 23, .inl (cI, 10, .inl (mav 23))), (n 41, .inl (cI, 1024, .inl fl)), (n 42, .inl (cI, 1024, .inl fw))] H → va_D A [(h0, .inr (9, [.ref (n 0), .int (mi 1), .ref (n 2), .ref (n 3), .ref (n 4), .ref (n 5), .ref (n 6), .int (mi 7), .ref (n 8), .ref (n 9), .ref (n 10), .ref (n 11), .ref (n 12), .ref (n 13), .ref (n 14), .int (mi 15), .int (mi 16), .ref (n 17), .ref (n 18), .ref (n 19), .ref (n 20), .ref (n 21), .ref (n 22), .ref (n 23), .ref (n 24), .ref (n 25), .int (mi 26), .int (mi 27), .int (mi 28), .int (mi 29), .int (mi 30), .int (mi 31), .int (mi 32), .int (mi 33), .ref (n 34), .ref (n 35), .int (mq 36), .int (mq 37), .int (mq 38), .ref (n 39), .ref (n 40), .ref (n 41), .ref (n 42), .int (mq 43), .int (mq 44), .int (mq 45)])), (n 22, .inl (cI, 10, .inl (mav 22))), (n 23, .inl (cI, 10, .inl (mav 23))), (n 41, .inl (cI, 1024, .inl fl)), (n 42, .inl (cI, 1024, .inl fw))] → va_S A s.heap H locs → lv_has ls 3 [(0, .ref h0)] → W p l e (headSpec wsX9_sums ({ frames := 0, cells := 0, slots := 0, locals := 0 } : Room)).room s m args below meth c H locs 0 0 Q (F0 m 104 ls [])) → W p l e (headSpec wsX9_sums ({ frames := 0, cells := 0, slots := 0, locals := 0 } : Room)).room s m args below meth c H locs 0 0 Q (F0 m 2 ls []) := by
  have hK := hG.1
  have hN := hG.2
  intro k9
  induction k9 with
  | zero => intro k_ fl fw hkn hold hfu; exact absurd hfu (Nat.not_lt_zero _)
  | succ k9 ih =>
    intro k_ fl fw hkn hold hfu H locs ls hP hD hS hl kk0
    have hp10 : 2 ^ n0 ≤ 1024 := Nat.pow_le_pow_right (n := 2) (by decide) hn0
    rcases Nat.lt_or_ge k_ (2 ^ n0) with hlt | hge
    · refine lv_iload_n hx hb dX9_sums_2 rfl (lv_at hl 0 rfl) ?_
      refine lv_iconst (v := 1) hx hb dX9_sums_3 (by decide) ?_
      refine lv_aload_n hx hb dX9_sums_4 rfl (lv_at hl 1 rfl) ?_
      refine va_get (D := D) (ci := 9) (v := .int (mi 1)) (C := RX9) (T := TX9) (N := 46) hx hb hts (fun _ h9 => List.mem_cons_of_mem _ (List.mem_append_right _ h9)) hown hK hP 0 rfl rfl 1 (by decide) (hts (.fieldLink RX9 109 "BuoyTenderModel" "marks" "I") (by decide +kernel)) (fun _ h9 => h9) rfl dX9_sums_5 ?_
      refine lv_topi (fun z_1 ez_1 => ?_)
      obtain rfl : z_1 = nI n0 := ez_1.trans h_n
      refine lv_ishl hx hb dX9_sums_8 ?_
      refine lv_topi (fun z_2 ez_2 => ?_)
      obtain rfl : z_2 = nI (2 ^ n0) := ez_2.trans (nx_shl1 (by omega))
      refine lv_icmp_ge (tgt := 104) hx hb dX9_sums_9 (by decide) (fun c_3 => absurd c_3 (nI_ge hlt (by omega))) (fun c_3 => ?_)
      refine lv_aload_n hx hb dX9_sums_12 rfl (lv_at hl 1 rfl) ?_
      refine va_get (D := D) (ci := 9) (v := .ref (n 41)) (C := RX9) (T := TX9) (N := 46) hx hb hts (fun _ h9 => List.mem_cons_of_mem _ (List.mem_append_right _ h9)) hown hK hP 0 rfl rfl 41 (by decide) (hts (.fieldLink RX9 99 "BuoyTenderModel" "loadOf" "[I") (by decide +kernel)) (fun _ h9 => h9) rfl dX9_sums_13 ?_
      refine lv_iload_n hx hb dX9_sums_16 rfl (lv_at hl 0 rfl) ?_
      refine lv_iconst (v := 0) hx hb dX9_sums_17 (by decide) ?_
      refine va_iast hx hb hK hP hD hS 3 0 rfl rfl (vp_in_nI (by omega) (by decide)) dX9_sums_18 (fun H locs hP hD hS => ?_)
      rw [nI_clamp (by omega)] at hP hD
      have hP : va_P D vwCl [(h0, .inr (9, [.ref (n 0), .int (mi 1), .ref (n 2), .ref (n 3), .ref (n 4), .ref (n 5), .ref (n 6), .int (mi 7), .ref (n 8), .ref (n 9), .ref (n 10), .ref (n 11), .ref (n 12), .ref (n 13), .ref (n 14), .int (mi 15), .int (mi 16), .ref (n 17), .ref (n 18), .ref (n 19), .ref (n 20), .ref (n 21), .ref (n 22), .ref (n 23), .ref (n 24), .ref (n 25), .int (mi 26), .int (mi 27), .int (mi 28), .int (mi 29), .int (mi 30), .int (mi 31), .int (mi 32), .int (mi 33), .ref (n 34), .ref (n 35), .int (mq 36), .int (mq 37), .int (mq 38), .ref (n 39), .ref (n 40), .ref (n 41), .ref (n 42), .int (mq 43), .int (mq 44), .int (mq 45)])), (n 22, .inl (cI, 10, .inl (mav 22))), (n 23, .inl (cI, 10, .inl (mav 23))), (n 41, .inl (cI, 1024, .inl (upd fl k_ 0))), (n 42, .inl (cI, 1024, .inl fw))] H := hP
      have hD : va_D A [(h0, .inr (9, [.ref (n 0), .int (mi 1), .ref (n 2), .ref (n 3), .ref (n 4), .ref (n 5), .ref (n 6), .int (mi 7), .ref (n 8), .ref (n 9), .ref (n 10), .ref (n 11), .ref (n 12), .ref (n 13), .ref (n 14), .int (mi 15), .int (mi 16), .ref (n 17), .ref (n 18), .ref (n 19), .ref (n 20), .ref (n 21), .ref (n 22), .ref (n 23), .ref (n 24), .ref (n 25), .int (mi 26), .int (mi 27), .int (mi 28), .int (mi 29), .int (mi 30), .int (mi 31), .int (mi 32), .int (mi 33), .ref (n 34), .ref (n 35), .int (mq 36), .int (mq 37), .int (mq 38), .ref (n 39), .ref (n 40), .ref (n 41), .ref (n 42), .int (mq 43), .int (mq 44), .int (mq 45)])), (n 22, .inl (cI, 10, .inl (mav 22))), (n 23, .inl (cI, 10, .inl (mav 23))), (n 41, .inl (cI, 1024, .inl (upd fl k_ 0))), (n 42, .inl (cI, 1024, .inl fw))] := hD
      refine lv_aload_n hx hb dX9_sums_19 rfl (lv_at hl 1 rfl) ?_
      refine va_get (D := D) (ci := 9) (v := .ref (n 42)) (C := RX9) (T := TX9) (N := 46) hx hb hts (fun _ h9 => List.mem_cons_of_mem _ (List.mem_append_right _ h9)) hown hK hP 0 rfl rfl 42 (by decide) (hts (.fieldLink RX9 102 "BuoyTenderModel" "weightOf" "[I") (by decide +kernel)) (fun _ h9 => h9) rfl dX9_sums_20 ?_
      refine lv_iload_n hx hb dX9_sums_23 rfl (lv_at hl 0 rfl) ?_
      refine lv_iconst (v := 0) hx hb dX9_sums_24 (by decide) ?_
      refine va_iast hx hb hK hP hD hS 4 0 rfl rfl (vp_in_nI (by omega) (by decide)) dX9_sums_25 (fun H locs hP hD hS => ?_)
      rw [nI_clamp (by omega)] at hP hD
      have hP : va_P D vwCl [(h0, .inr (9, [.ref (n 0), .int (mi 1), .ref (n 2), .ref (n 3), .ref (n 4), .ref (n 5), .ref (n 6), .int (mi 7), .ref (n 8), .ref (n 9), .ref (n 10), .ref (n 11), .ref (n 12), .ref (n 13), .ref (n 14), .int (mi 15), .int (mi 16), .ref (n 17), .ref (n 18), .ref (n 19), .ref (n 20), .ref (n 21), .ref (n 22), .ref (n 23), .ref (n 24), .ref (n 25), .int (mi 26), .int (mi 27), .int (mi 28), .int (mi 29), .int (mi 30), .int (mi 31), .int (mi 32), .int (mi 33), .ref (n 34), .ref (n 35), .int (mq 36), .int (mq 37), .int (mq 38), .ref (n 39), .ref (n 40), .ref (n 41), .ref (n 42), .int (mq 43), .int (mq 44), .int (mq 45)])), (n 22, .inl (cI, 10, .inl (mav 22))), (n 23, .inl (cI, 10, .inl (mav 23))), (n 41, .inl (cI, 1024, .inl (upd fl k_ 0))), (n 42, .inl (cI, 1024, .inl (upd fw k_ 0)))] H := hP
      have hD : va_D A [(h0, .inr (9, [.ref (n 0), .int (mi 1), .ref (n 2), .ref (n 3), .ref (n 4), .ref (n 5), .ref (n 6), .int (mi 7), .ref (n 8), .ref (n 9), .ref (n 10), .ref (n 11), .ref (n 12), .ref (n 13), .ref (n 14), .int (mi 15), .int (mi 16), .ref (n 17), .ref (n 18), .ref (n 19), .ref (n 20), .ref (n 21), .ref (n 22), .ref (n 23), .ref (n 24), .ref (n 25), .int (mi 26), .int (mi 27), .int (mi 28), .int (mi 29), .int (mi 30), .int (mi 31), .int (mi 32), .int (mi 33), .ref (n 34), .ref (n 35), .int (mq 36), .int (mq 37), .int (mq 38), .ref (n 39), .ref (n 40), .ref (n 41), .ref (n 42), .int (mq 43), .int (mq 44), .int (mq 45)])), (n 22, .inl (cI, 10, .inl (mav 22))), (n 23, .inl (cI, 10, .inl (mav 23))), (n 41, .inl (cI, 1024, .inl (upd fl k_ 0))), (n 42, .inl (cI, 1024, .inl (upd fw k_ 0)))] := hD
      refine lv_iconst (v := 0) hx hb dX9_sums_26 (by decide) ?_
      refine lv_istore_n (lv' := [(2, .int 0), (1, .int (nI k_)), (0, .ref h0)]) hx hb dX9_sums_27 rfl hl (by decide) rfl (fun ls hl => ?_)
      refine lp_X9_sumsI (K9 := k_) hx hb hml hts hown hG hA hn0 h_n hpw hpl hlt (n0 + 1) 0 (upd fl k_ 0) (upd fw k_ 0) (Nat.zero_le _) pk_us pk_us (fun S hS9 => ⟨by rw [pk_un (by omega)]; exact (hold S hS9).1, by rw [pk_un (by omega)]; exact (hold S hS9).2⟩) (by omega) _ _ _ hP hD hS (lv_sub hl [0, 2, 1] rfl) (fun fl_4 fw_4 H locs ls e_4_0 hP hD hS hl => ?_)
      refine lv_iinc (v := nI (k_ + 1)) (lv' := [(1, .int (nI (k_ + 1))), (0, .ref h0)]) hx hb dX9_sums_98 hl (k := 1) rfl (nI_add k_ 1) (by decide) rfl (fun ls hl => ?_)
      refine lv_goto (tgt := 2) hx hb dX9_sums_101 (by decide) ?_
      exact ih (k_ + 1) fl_4 fw_4 (by omega) e_4_0 (by omega) _ _ _ hP hD hS (lv_sub hl [0, 1] rfl) kk0
    · refine lv_iload_n hx hb dX9_sums_2 rfl (lv_at hl 0 rfl) ?_
      refine lv_iconst (v := 1) hx hb dX9_sums_3 (by decide) ?_
      refine lv_aload_n hx hb dX9_sums_4 rfl (lv_at hl 1 rfl) ?_
      refine va_get (D := D) (ci := 9) (v := .int (mi 1)) (C := RX9) (T := TX9) (N := 46) hx hb hts (fun _ h9 => List.mem_cons_of_mem _ (List.mem_append_right _ h9)) hown hK hP 0 rfl rfl 1 (by decide) (hts (.fieldLink RX9 109 "BuoyTenderModel" "marks" "I") (by decide +kernel)) (fun _ h9 => h9) rfl dX9_sums_5 ?_
      refine lv_topi (fun z_5 ez_5 => ?_)
      obtain rfl : z_5 = nI n0 := ez_5.trans h_n
      refine lv_ishl hx hb dX9_sums_8 ?_
      refine lv_topi (fun z_6 ez_6 => ?_)
      obtain rfl : z_6 = nI (2 ^ n0) := ez_6.trans (nx_shl1 (by omega))
      refine lv_icmp_ge (tgt := 104) hx hb dX9_sums_9 (by decide) (fun c_7 => ?_) (fun c_7 => absurd (nI_le hge (by omega)) c_7)
      exact kk0 fl fw _ _ _ (fun S hS9 => hold S (by omega)) hP hD hS (lv_sub hl [1] rfl)
set_option maxHeartbeats 4000000 in
set_option maxRecDepth 100000 in
/-- the sums over each set -/
theorem k_X9_sums (l : Launch) (D : va_G) (cI cJ cZ cM : Nat) (h0 : Nat) (n : Nat → Nat) (mi : Nat → Int32) (mq : Nat → Int32) (mav : Nat → Nat → Int32) (n0 : Nat) (hn0 : n0 ≤ 10) (h_n : mi 1 = nI n0) (pw : Nat → Nat) (hpw : ∀ i, i < n0 → (mav 23) i = nI (pw i) ∧ pw i ≤ 1000) (pl : Nat → Nat) (hpl : ∀ i, i < n0 → (mav 22) i = nI (pl i) ∧ pl i ≤ 1000) (fl : Nat → Int32) (fw : Nat → Int32) (sz : Nat) : Met l yX9_sums wsX9_sums ({ frames := 0, cells := 0, slots := 0, locals := 0 } : Room) (RW D cI cJ cZ cM [.ref h0] [(h0, .inr (9, [.ref (n 0), .int (mi 1), .ref (n 2), .ref (n 3), .ref (n 4), .ref (n 5), .ref (n 6), .int (mi 7), .ref (n 8), .ref (n 9), .ref (n 10), .ref (n 11), .ref (n 12), .ref (n 13), .ref (n 14), .int (mi 15), .int (mi 16), .ref (n 17), .ref (n 18), .ref (n 19), .ref (n 20), .ref (n 21), .ref (n 22), .ref (n 23), .ref (n 24), .ref (n 25), .int (mi 26), .int (mi 27), .int (mi 28), .int (mi 29), .int (mi 30), .int (mi 31), .int (mi 32), .int (mi 33), .ref (n 34), .ref (n 35), .int (mq 36), .int (mq 37), .int (mq 38), .ref (n 39), .ref (n 40), .ref (n 41), .ref (n 42), .int (mq 43), .int (mq 44), .int (mq 45)])), (n 22, .inl (cI, 10, .inl (mav 22))), (n 23, .inl (cI, 10, .inl (mav 23))), (n 41, .inl (cI, 1024, .inl fl)), (n 42, .inl (cI, 1024, .inl fw))] sz) (va_Qv (S := (Nat → Int32) × (Nat → Int32)) (fun u => ∀ S, S < 2 ^ n0 → u.1 S = nI (zsm pl S n0) ∧ u.2 S = nI (zsm pw S n0)) (BB D (fun u => [(h0, .inr (9, [.ref (n 0), .int (mi 1), .ref (n 2), .ref (n 3), .ref (n 4), .ref (n 5), .ref (n 6), .int (mi 7), .ref (n 8), .ref (n 9), .ref (n 10), .ref (n 11), .ref (n 12), .ref (n 13), .ref (n 14), .int (mi 15), .int (mi 16), .ref (n 17), .ref (n 18), .ref (n 19), .ref (n 20), .ref (n 21), .ref (n 22), .ref (n 23), .ref (n 24), .ref (n 25), .int (mi 26), .int (mi 27), .int (mi 28), .int (mi 29), .int (mi 30), .int (mi 31), .int (mi 32), .int (mi 33), .ref (n 34), .ref (n 35), .int (mq 36), .int (mq 37), .int (mq 38), .ref (n 39), .ref (n 40), .ref (n 41), .ref (n 42), .int (mq 43), .int (mq 44), .int (mq 45)])), (n 22, .inl (cI, 10, .inl (mav 22))), (n 23, .inl (cI, 10, .inl (mav 23))), (n 41, .inl (cI, 1024, .inl u.1)), (n 42, .inl (cI, 1024, .inl u.2))]) (va_A [(h0, .inr (9, [.ref (n 0), .int (mi 1), .ref (n 2), .ref (n 3), .ref (n 4), .ref (n 5), .ref (n 6), .int (mi 7), .ref (n 8), .ref (n 9), .ref (n 10), .ref (n 11), .ref (n 12), .ref (n 13), .ref (n 14), .int (mi 15), .int (mi 16), .ref (n 17), .ref (n 18), .ref (n 19), .ref (n 20), .ref (n 21), .ref (n 22), .ref (n 23), .ref (n 24), .ref (n 25), .int (mi 26), .int (mi 27), .int (mi 28), .int (mi 29), .int (mi 30), .int (mi 31), .int (mi 32), .int (mi 33), .ref (n 34), .ref (n 35), .int (mq 36), .int (mq 37), .int (mq 38), .ref (n 39), .ref (n 40), .ref (n 41), .ref (n 42), .int (mq 43), .int (mq 44), .int (mq 45)])), (n 22, .inl (cI, 10, .inl (mav 22))), (n 23, .inl (cI, 10, .inl (mav 23))), (n 41, .inl (cI, 1024, .inl fl)), (n 42, .inl (cI, 1024, .inl fw))] sz)) (va_A [(h0, .inr (9, [.ref (n 0), .int (mi 1), .ref (n 2), .ref (n 3), .ref (n 4), .ref (n 5), .ref (n 6), .int (mi 7), .ref (n 8), .ref (n 9), .ref (n 10), .ref (n 11), .ref (n 12), .ref (n 13), .ref (n 14), .int (mi 15), .int (mi 16), .ref (n 17), .ref (n 18), .ref (n 19), .ref (n 20), .ref (n 21), .ref (n 22), .ref (n 23), .ref (n 24), .ref (n 25), .int (mi 26), .int (mi 27), .int (mi 28), .int (mi 29), .int (mi 30), .int (mi 31), .int (mi 32), .int (mi 33), .ref (n 34), .ref (n 35), .int (mq 36), .int (mq 37), .int (mq 38), .ref (n 39), .ref (n 40), .ref (n 41), .ref (n 42), .int (mq 43), .int (mq 44), .int (mq 45)])), (n 22, .inl (cI, 10, .inl (mav 22))), (n 23, .inl (cI, 10, .inl (mav 23))), (n 41, .inl (cI, 1024, .inl fl)), (n 42, .inl (cI, 1024, .inl fw))] sz)) 0 0 (va_A [(h0, .inr (9, [.ref (n 0), .int (mi 1), .ref (n 2), .ref (n 3), .ref (n 4), .ref (n 5), .ref (n 6), .int (mi 7), .ref (n 8), .ref (n 9), .ref (n 10), .ref (n 11), .ref (n 12), .ref (n 13), .ref (n 14), .int (mi 15), .int (mi 16), .ref (n 17), .ref (n 18), .ref (n 19), .ref (n 20), .ref (n 21), .ref (n 22), .ref (n 23), .ref (n 24), .ref (n 25), .int (mi 26), .int (mi 27), .int (mi 28), .int (mi 29), .int (mi 30), .int (mi 31), .int (mi 32), .int (mi 33), .ref (n 34), .ref (n 35), .int (mq 36), .int (mq 37), .int (mq 38), .ref (n 39), .ref (n 40), .ref (n 41), .ref (n 42), .int (mq 43), .int (mq 44), .int (mq 45)])), (n 22, .inl (cI, 10, .inl (mav 22))), (n 23, .inl (cI, 10, .inl (mav 23))), (n 41, .inl (cI, 1024, .inl fl)), (n 42, .inl (cI, 1024, .inl fw))] sz) := by
  refine Met.ofW (cc := cX9_sums) (maxL := 3) (ret := none) (by decide) rfl ?_
  intro p e s m args below meth c s₁ B hml hv
  obtain ⟨rfl, hsz, hG, hP, hD0⟩ := hv
  have hx := B.exec
  have hb := B.bytes
  have hr := B.returns
  have hts := atoms_spec (ws := wsX9_sums) B.pre
  have hown : s.vm.findClass RX9 = some m.cls := findClass_of_methodNamed B.named
  have hlocks := B.notSynchronized
  have hK := hG.1
  have hN := hG.2
  subst hsz
  have hD := hD0.self (sz := s.heap.size)
  generalize hAe : va_A [(h0, .inr (9, [.ref (n 0), .int (mi 1), .ref (n 2), .ref (n 3), .ref (n 4), .ref (n 5), .ref (n 6), .int (mi 7), .ref (n 8), .ref (n 9), .ref (n 10), .ref (n 11), .ref (n 12), .ref (n 13), .ref (n 14), .int (mi 15), .int (mi 16), .ref (n 17), .ref (n 18), .ref (n 19), .ref (n 20), .ref (n 21), .ref (n 22), .ref (n 23), .ref (n 24), .ref (n 25), .int (mi 26), .int (mi 27), .int (mi 28), .int (mi 29), .int (mi 30), .int (mi 31), .int (mi 32), .int (mi 33), .ref (n 34), .ref (n 35), .int (mq 36), .int (mq 37), .int (mq 38), .ref (n 39), .ref (n 40), .ref (n 41), .ref (n 42), .int (mq 43), .int (mq 44), .int (mq 45)])), (n 22, .inl (cI, 10, .inl (mav 22))), (n 23, .inl (cI, 10, .inl (mav 23))), (n 41, .inl (cI, 1024, .inl fl)), (n 42, .inl (cI, 1024, .inl fw))] s.heap.size = A at hD ⊢
  have hA : ∀ q : Nat, s.heap.size ≤ q → A q := fun q h => by rw [← hAe]; exact Or.inr h
  have hS : va_S A s.heap s.heap [] := va_S.rf
  have hP : va_P D vwCl [(h0, .inr (9, [.ref (n 0), .int (mi 1), .ref (n 2), .ref (n 3), .ref (n 4), .ref (n 5), .ref (n 6), .int (mi 7), .ref (n 8), .ref (n 9), .ref (n 10), .ref (n 11), .ref (n 12), .ref (n 13), .ref (n 14), .int (mi 15), .int (mi 16), .ref (n 17), .ref (n 18), .ref (n 19), .ref (n 20), .ref (n 21), .ref (n 22), .ref (n 23), .ref (n 24), .ref (n 25), .int (mi 26), .int (mi 27), .int (mi 28), .int (mi 29), .int (mi 30), .int (mi 31), .int (mi 32), .int (mi 33), .ref (n 34), .ref (n 35), .int (mq 36), .int (mq 37), .int (mq 38), .ref (n 39), .ref (n 40), .ref (n 41), .ref (n 42), .int (mq 43), .int (mq 44), .int (mq 45)])), (n 22, .inl (cI, 10, .inl (mav 22))), (n 23, .inl (cI, 10, .inl (mav 23))), (n 41, .inl (cI, 1024, .inl fl)), (n 42, .inl (cI, 1024, .inl fw))] s.heap := hP
  have hl := lv_entry ([.ref h0]) (n := 3) (Nat.le_of_ble_eq_true rfl)
  rw [lg_entry_eq]
  generalize (lg_sl ([.ref h0]) ++ List.replicate (3 - (lg_sl ([.ref h0])).length) Slot.unset).toArray = ls at hl ⊢
  have hl : lv_has ls 3 [(0, .ref h0)] := hl
  have hp10 : 2 ^ n0 ≤ 1024 := Nat.pow_le_pow_right (n := 2) (by decide) hn0
  have hpos : 0 < 2 ^ n0 := Nat.pow_pos (by decide)
  refine lv_iconst (v := 0) hx hb dX9_sums_0 (by decide) ?_
  refine lv_istore_n (lv' := [(1, .int 0), (0, .ref h0)]) hx hb dX9_sums_1 rfl hl (by decide) rfl (fun ls hl => ?_)
  refine lp_X9_sumsO hx hb hml hts hown hG hA hn0 h_n hpw hpl ((2 ^ n0) + 1) 0 fl fw (Nat.zero_le _) (fun S hS9 => absurd hS9 (Nat.not_lt_zero _)) (by omega) _ _ _ hP hD hS (lv_sub hl [0, 1] rfl) (fun fl_1 fw_1 H locs ls e_1_0 hP hD hS hl => ?_)
  have hP9 := hP.sub (ws' := [(h0, .inr (9, [.ref (n 0), .int (mi 1), .ref (n 2), .ref (n 3), .ref (n 4), .ref (n 5), .ref (n 6), .int (mi 7), .ref (n 8), .ref (n 9), .ref (n 10), .ref (n 11), .ref (n 12), .ref (n 13), .ref (n 14), .int (mi 15), .int (mi 16), .ref (n 17), .ref (n 18), .ref (n 19), .ref (n 20), .ref (n 21), .ref (n 22), .ref (n 23), .ref (n 24), .ref (n 25), .int (mi 26), .int (mi 27), .int (mi 28), .int (mi 29), .int (mi 30), .int (mi 31), .int (mi 32), .int (mi 33), .ref (n 34), .ref (n 35), .int (mq 36), .int (mq 37), .int (mq 38), .ref (n 39), .ref (n 40), .ref (n 41), .ref (n 42), .int (mq 43), .int (mq 44), .int (mq 45)])), (n 22, .inl (cI, 10, .inl (mav 22))), (n 23, .inl (cI, 10, .inl (mav 23))), (n 41, .inl (cI, 1024, .inl fl_1)), (n 42, .inl (cI, 1024, .inl fw_1))]) [0, 1, 2, 3, 4] rfl
  have hD9 := hD.sub (ws' := [(h0, .inr (9, [.ref (n 0), .int (mi 1), .ref (n 2), .ref (n 3), .ref (n 4), .ref (n 5), .ref (n 6), .int (mi 7), .ref (n 8), .ref (n 9), .ref (n 10), .ref (n 11), .ref (n 12), .ref (n 13), .ref (n 14), .int (mi 15), .int (mi 16), .ref (n 17), .ref (n 18), .ref (n 19), .ref (n 20), .ref (n 21), .ref (n 22), .ref (n 23), .ref (n 24), .ref (n 25), .int (mi 26), .int (mi 27), .int (mi 28), .int (mi 29), .int (mi 30), .int (mi 31), .int (mi 32), .int (mi 33), .ref (n 34), .ref (n 35), .int (mq 36), .int (mq 37), .int (mq 38), .ref (n 39), .ref (n 40), .ref (n 41), .ref (n 42), .int (mq 43), .int (mq 44), .int (mq 45)])), (n 22, .inl (cI, 10, .inl (mav 22))), (n 23, .inl (cI, 10, .inl (mav 23))), (n 41, .inl (cI, 1024, .inl fl_1)), (n 42, .inl (cI, 1024, .inl fw_1))]) [0, 1, 2, 3, 4] (by decide) rfl
  exact W.vret hx hb hr (fun t ht hW => ⟨⟨(fl_1, fw_1), rfl, e_1_0, ⟨by rw [ht]; exact hP9, hD9⟩⟩, hS.F ht⟩) hS.2.2 dX9_sums_104
