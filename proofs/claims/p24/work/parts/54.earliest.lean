def eH : Option Nat → Nat
  | none => 10
  | some i => i
def wyW (wr : Nat → Nat → Nat) (h : Option Nat) (m : Nat) : Nat := wr (eH h) m
def whW (wr : Nat → Nat → Nat) : Option Nat → Nat
  | none => 0
  | some i => wr i 10
def zLd (cc : Nat) (ld : Nat → Nat) (car S : Nat) : Prop := zsm ld S cc ≤ car
/-- the table of earliest ends below the set k; its row S up to k; the table of backs -/
def zET (E : Nat → Nat → Nat → Prop) (cc k : Nat) (f : Nat → Int32) : Prop := ∀ S, 0 < S → S < k → ∀ j, j < cc → ∃ v, f ((S * 10) + j) = nI v ∧ leastN (E S j) v
def zER (E : Nat → Nat → Nat → Prop) (S k : Nat) (f : Nat → Int32) : Prop := ∀ j, j < k → ∃ v, f ((S * 10) + j) = nI v ∧ leastN (E S j) v
def zBK (Q : Nat → Nat → Prop) (k : Nat) (f : Nat → Int32) : Prop := ∀ S, S < k → ∃ v, f S = nI v ∧ leastN (Q S) v
theorem et_row {E : Nat → Nat → Nat → Prop} {cc s k : Nat} {f : Nat → Int32} {z : Int32} (h : zET E cc s f) (hk : k < cc) (hc : cc ≤ 10) : zET E cc s (upd f ((s * 10) + k) z) := fun S a b j hj => by
  rw [pk_un (by omega)]
  exact h S a b j hj
theorem er_step {E : Nat → Nat → Nat → Prop} {s k v : Nat} {f : Nat → Int32} (h : zER E s k f) (hv : leastN (E s k) v) : zER E s (k + 1) (upd f ((s * 10) + k) (nI v)) := fun j hj => by
  by_cases e : j = k
  · subst e; rw [pk_us]; exact ⟨v, rfl, hv⟩
  · rw [pk_un (by omega)]; exact h j (by omega)
theorem et_next {E : Nat → Nat → Nat → Prop} {cc s : Nat} {f : Nat → Int32} (h : zET E cc s f) (hr : zER E s cc f) : zET E cc (s + 1) f := fun S a b j hj => by
  rcases Nat.lt_or_ge S s with q | q
  · exact h S a q j hj
  · have e : S = s := by omega
    subst e; exact hr j hj
theorem bk_step {Q : Nat → Nat → Prop} {k v : Nat} {f : Nat → Int32} {z : Int32} (h : zBK Q k f) (hz : z = nI v) (hv : leastN (Q k) v) : zBK Q (k + 1) (upd f k z) := fun S hS => by
  by_cases e : S = k
  · subst e; rw [pk_us]; exact ⟨v, hz, hv⟩
  · rw [pk_un e]; exact h S (by omega)
section ZCM
variable {op : Nat → Nat → Prop} {wr : Nat → Nat → Nat} {mn : Nat → Nat} {cc : Nat} {ld : Nat → Nat} {car bg lst : Nat}
/-- the coming to j behind the jobs s, the first k looked at -/
def zCm (op : Nat → Nat → Prop) (wr : Nat → Nat → Nat) (mn : Nat → Nat) (cc : Nat) (ld : Nat → Nat) (car bg lst s j k z : Nat) : Prop := (s = 0 ∧ z = bg + wr 10 j) ∨ (s ≠ 0 ∧ leastN (zPQ op (wyW wr) mn (zLd cc ld car) bg lst (fun i => wr i j) k s) z)
theorem cm_le {s j k z : Nat} (h : zCm op wr mn cc ld car bg lst s j k z) (hw : wr 10 j ≤ 2340) (hbl : bg ≤ lst) (hls : lst ≤ 1440) : z ≤ 1000000 := by
  rcases h with ⟨-, h⟩ | ⟨-, h⟩
  · omega
  · exact least_le h
theorem cm_skip {s j k z : Nat} (h : zCm op wr mn cc ld car bg lst s j k z) (hk : ¬ s.testBit k = true) : zCm op wr mn cc ld car bg lst s j (k + 1) z := by
  rcases h with h | ⟨h1, h2⟩
  · exact Or.inl h
  · exact Or.inr ⟨h1, pq_skip h2 hk⟩
theorem cm_step {s j k z v : Nat} (h : zCm op wr mn cc ld car bg lst s j k z) (hs : s ≠ 0) (hv : leastN (zPE op (wyW wr) mn (zLd cc ld car) bg lst s k) v) : zCm op wr mn cc ld car bg lst s j (k + 1) (min z (v + wr k j)) := by
  rcases h with ⟨h1, -⟩ | ⟨h1, h2⟩
  · exact absurd h1 hs
  · exact Or.inr ⟨h1, pq_step h2 hv⟩
theorem ld_x {S j s : Nat} (h : zLd cc ld car S) (hb : S.testBit j = true) (hj : j < cc) (hs : s = S ^^^ 2 ^ j) : zLd cc ld car s := by
  unfold zLd at h ⊢
  rw [sm_x hb cc hj] at h
  rw [hs]
  omega
theorem cm_end {s j z : Nat} (h : zCm op wr mn cc ld car bg lst s j cc z) (hL : zLd cc ld car s) (hs : s < 2 ^ cc) (hbl : bg ≤ lst) (hls : lst ≤ 1440) (hw : wr 10 j ≤ 2340) : leastN (zPC op (wyW wr) mn bg lst s j) z := by
  rcases h with ⟨h1, h2⟩ | ⟨h1, h2⟩
  · subst h1; subst h2
    exact pc_zero (wy := wyW wr) hbl (show bg + wr 10 j < 1000000 by omega)
  · exact least_iff h2 (fun t => pc_pq (wy := wyW wr) h1 hs hL)
theorem bk_one {f : Nat → Int32} (hbl : bg ≤ lst) (hls : lst ≤ 1440) : zBK (zPB op (wyW wr) (whW wr) mn (zLd cc ld car) bg lst) 1 (upd f 0 (nI bg)) := fun S hS => by
  have e : S = 0 := by omega
  subst e
  rw [pk_us]
  exact ⟨bg, rfl, pb_zero (show zsm ld 0 cc ≤ car by rw [sm_z]; exact Nat.zero_le _) hbl hls rfl⟩
end ZCM
set_option maxHeartbeats 4000000 in
set_option maxRecDepth 100000 in
/-- X2_earliestEnd: the loop at 36 -/
theorem lp_X2_earliestEnd {p : Program} {l : Launch} {e : Env} {s : State} {m : MethodId} {args : Array Value} {below : List Frame} {meth : Method} {c : Code} {Q : State → Prop} {D : va_G} {cI cJ cZ cM : Nat} {a : Nat → Nat} {iv : Nat → Int32} {av : Nat → Nat → Int32} {cc : Nat} {mn : Nat → Nat} {ld : Nat → Nat} {wg : Nat → Nat} {wr : Nat → Nat → Nat} {op : Nat → Nat → Prop} {bg : Nat} {lst : Nat} {car : Nat} {S : Nat} {j : Nat} {s_ : Nat} {H : Heap} (hx : p.tables.exec = Jvm.exec) (hb : c.code = cX2_earliestEnd) (hml : c.maxLocals = 7) (hts : ∀ w ∈ wsX2_earliestEnd, w.before args s = true) (hown : s.vm.findClass RX2 = some m.cls) (hG : GK D cI cJ cZ cM s) (hP : va_P D vwCl [(a 6, .inr (2, [.ref (a 16), .ref (a 17), .ref (a 18), .ref (a 19), .ref (a 20), .ref (a 21), .ref (a 22), .ref (a 23), .ref (a 24), .ref (a 25), .ref (a 26), .ref (a 27), .int (iv 20), .int (iv 21), .int (iv 22), .int (iv 23)])), (a 17, .inl (cI, 10, .inl (av 17))), (a 20, .inl (cI, 121, .inl (av 20))), (a 21, .inl (cI, 240, .inl (av 21))), (a 23, .inl (cI, 10240, .inl (av 23))), (a 5, .inr (4, [.ref (a 13), .ref (a 14), .int (iv 5), .int (iv 6), .int (iv 7), .int (iv 8), .int (iv 9), .int (iv 10), .int (iv 11), .int (iv 12)]))] H) (h_c : iv 20 = nI cc) (hcc : cc ≤ 10) (hpt : PT cc av mn ld wg wr op) (h_bg : iv 7 = nI bg) (h_ls : iv 8 = nI lst) (h_ca : iv 12 = nI car) (hbl : bg ≤ lst) (hls : lst ≤ 1440) (hca : car ≤ 10000) (hs_ : s_ < 1024) (hj : j < cc) (hwj : wr 10 j ≤ 2340) (hsS : s_ < S) (hET : zET (zPE op (wyW wr) mn (zLd cc ld car) bg lst) cc S (av 23)) :
    ∀ (k9 : Nat) (k_ : Nat) (z : Nat), (k_ ≤ cc) → (zCm op wr mn cc ld car bg lst s_ j k_ z) → cc - k_ < k9 → ∀ (ls : Array Slot), lv_has ls 7 [(6, .int (nI k_)), (5, .int (nI z)), (0, .ref (a 6)), (1, .int (nI S)), (2, .int (nI j)), (3, .ref (a 5)), (4, .int (nI s_))] → (∀ (z : Nat) (ls : Array Slot), (zCm op wr mn cc ld car bg lst s_ j cc z) → lv_has ls 7 [(5, .int (nI z)), (0, .ref (a 6)), (1, .int (nI S)), (2, .int (nI j)), (3, .ref (a 5)), (4, .int (nI s_))] → W p l e (headSpec wsX2_earliestEnd ({ frames := 1, cells := 0, slots := 0, locals := 40 } : Room)).room s m args below meth c H [] 0 0 Q (F0 m 94 ls [])) → W p l e (headSpec wsX2_earliestEnd ({ frames := 1, cells := 0, slots := 0, locals := 40 } : Room)).room s m args below meth c H [] 0 0 Q (F0 m 36 ls []) := by
  have hK := hG.1
  have hN := hG.2
  intro k9
  induction k9 with
  | zero => intro k_ z hk hz hfu; exact absurd hfu (Nat.not_lt_zero _)
  | succ k9 ih =>
    intro k_ z hk hz hfu ls hl kk0
    rcases Nat.lt_or_ge k_ cc with hlt | hge
    · refine lv_iload hx hb dX2_earliestEnd_36 (lv_at hl 0 rfl) ?_
      refine lv_aload_n hx hb dX2_earliestEnd_38 rfl (lv_at hl 2 rfl) ?_
      refine va_get (D := D) (ci := 2) (v := .int (iv 20)) (C := RX2) (T := TX2) (N := 16) hx hb hts (fun _ h9 => List.mem_cons_of_mem _ (List.mem_append_right _ h9)) hown hK hP 0 rfl rfl 12 (by decide) (hts (.fieldLink RX2 76 "BuoyTender$Planner" "count" "I") (by decide +kernel)) (fun _ h9 => h9) rfl dX2_earliestEnd_39 ?_
      refine lv_topi (fun z_1 ez_1 => ?_)
      obtain rfl : z_1 = nI cc := ez_1.trans h_c
      refine lv_icmp_ge (tgt := 94) hx hb dX2_earliestEnd_42 (by decide) (fun c_2 => absurd c_2 (nI_ge hlt (by omega))) (fun c_2 => ?_)
      refine lv_iload hx hb dX2_earliestEnd_45 (lv_at hl 0 rfl) ?_
      refine lv_iload hx hb dX2_earliestEnd_47 (lv_at hl 6 rfl) ?_
      refine vp_callSi (va_Run.run (va_runS (As := [.int (nI k_), .int (nI s_)]) (rest := []) ⟨hx, hb, hml, hown, hts⟩ (k_X2_isIn l k_ (by omega) s_ (by omega)) (va_cwS 2 hts gX2_earliestEnd_X2_isIn rfl rfl rfl (by decide +kernel) ⟨Nat.le_of_ble_eq_true rfl, Nat.le_of_ble_eq_true rfl⟩) preEq rfl rfl hl.1 rfl (lv_room (Nat.le_of_ble_eq_true rfl)) dX2_earliestEnd_49 ⟨Nat.le_of_ble_eq_true rfl, Nat.le_of_ble_eq_true rfl⟩)) (fun r_3 h_3 => ?_)
      rcases h_3 with ⟨rfl, h_3⟩ | ⟨rfl, h_3⟩
      · refine lv_if_eq (tgt := 88) hx hb dX2_earliestEnd_52 (by decide) (fun c_4 => False.elim (by revert c_4; decide)) (fun _ => ?_)
        have hs0 : s_ ≠ 0 := fun e => by rw [e, Nat.zero_testBit] at h_3; cases h_3
        obtain ⟨v9, e9, l9⟩ := hET s_ (by omega) hsS k_ hlt
        have b9 := least_le l9
        have bz := cm_le hz hwj hbl hls
        obtain ⟨w9, bw9⟩ := pt_ww hpt k_ hlt j hj
        refine lv_iload hx hb dX2_earliestEnd_55 (lv_at hl 1 rfl) ?_
        refine lv_aload_n hx hb dX2_earliestEnd_57 rfl (lv_at hl 2 rfl) ?_
        refine va_get (D := D) (ci := 2) (v := .ref (a 23)) (C := RX2) (T := TX2) (N := 16) hx hb hts (fun _ h9 => List.mem_cons_of_mem _ (List.mem_append_right _ h9)) hown hK hP 0 rfl rfl 7 (by decide) (hts (.fieldLink RX2 33 "BuoyTender$Planner" "ends" "[I") (by decide +kernel)) (fun _ h9 => h9) rfl dX2_earliestEnd_58 ?_
        refine lv_iload hx hb dX2_earliestEnd_61 (lv_at hl 6 rfl) ?_
        refine lv_bipush (v := 10) hx hb dX2_earliestEnd_63 (by decide) ?_
        refine lv_imul hx hb dX2_earliestEnd_65 ?_
        refine lv_topi (fun z_5 ez_5 => ?_)
        obtain rfl : z_5 = nI (s_ * 10) := ez_5.trans (pk_mul s_ 10)
        refine lv_iload hx hb dX2_earliestEnd_66 (lv_at hl 0 rfl) ?_
        refine lv_iadd hx hb dX2_earliestEnd_68 ?_
        refine lv_topi (fun z_6 ez_6 => ?_)
        obtain rfl : z_6 = nI ((s_ * 10) + k_) := ez_6.trans (nI_add (s_ * 10) k_)
        refine va_iald hx hb hK hP 4 0 rfl rfl (vp_in_nI (by omega) (by decide)) dX2_earliestEnd_69 ?_
        refine lv_topi (fun z_7 ez_7 => ?_)
        obtain rfl : z_7 = (av 23) ((s_ * 10) + k_) := ez_7.trans (congrArg (av 23) (nI_clamp (by omega)))
        refine lv_topi (fun z_8 ez_8 => ?_)
        obtain rfl : z_8 = nI v9 := ez_8.trans e9
        refine lv_aload_n hx hb dX2_earliestEnd_70 rfl (lv_at hl 2 rfl) ?_
        refine va_get (D := D) (ci := 2) (v := .ref (a 20)) (C := RX2) (T := TX2) (N := 16) hx hb hts (fun _ h9 => List.mem_cons_of_mem _ (List.mem_append_right _ h9)) hown hK hP 0 rfl rfl 4 (by decide) (hts (.fieldLink RX2 24 "BuoyTender$Planner" "ways" "[I") (by decide +kernel)) (fun _ h9 => h9) rfl dX2_earliestEnd_71 ?_
        refine lv_iload hx hb dX2_earliestEnd_74 (lv_at hl 0 rfl) ?_
        refine lv_bipush (v := 11) hx hb dX2_earliestEnd_76 (by decide) ?_
        refine lv_imul hx hb dX2_earliestEnd_78 ?_
        refine lv_topi (fun z_9 ez_9 => ?_)
        obtain rfl : z_9 = nI (k_ * 11) := ez_9.trans (pk_mul k_ 11)
        refine lv_iload_n hx hb dX2_earliestEnd_79 rfl (lv_at hl 4 rfl) ?_
        refine lv_iadd hx hb dX2_earliestEnd_80 ?_
        refine lv_topi (fun z_10 ez_10 => ?_)
        obtain rfl : z_10 = nI ((k_ * 11) + j) := ez_10.trans (nI_add (k_ * 11) j)
        refine va_iald hx hb hK hP 2 0 rfl rfl (vp_in_nI (by omega) (by decide)) dX2_earliestEnd_81 ?_
        refine lv_topi (fun z_11 ez_11 => ?_)
        obtain rfl : z_11 = (av 20) ((k_ * 11) + j) := ez_11.trans (congrArg (av 20) (nI_clamp (by omega)))
        refine lv_topi (fun z_12 ez_12 => ?_)
        obtain rfl : z_12 = nI (wr k_ j) := ez_12.trans w9
        refine lv_iadd hx hb dX2_earliestEnd_82 ?_
        refine lv_topi (fun z_13 ez_13 => ?_)
        obtain rfl : z_13 = nI (v9 + (wr k_ j)) := ez_13.trans (nI_add v9 (wr k_ j))
        refine va_mmin hx hb (hml.trans hl.1.symm) hown (hts (.methodLink RX2 133 Lib.Math.min.name) (by decide +kernel)) (hts (.static Lib.Math.min.name) (by decide +kernel)) (hts (.initialized "java/lang/Math") (by decide +kernel)) (hts (.code Lib.Math.min.name Lib.Math.min.code 2 (some .int)) (by decide +kernel)) (Nat.le_of_ble_eq_true rfl) (Nat.le_of_ble_eq_true rfl) (Nat.le_of_ble_eq_true rfl) (Nat.le_of_ble_eq_true rfl) dX2_earliestEnd_83 ?_
        refine lv_topi (fun z_14 ez_14 => ?_)
        obtain rfl : z_14 = nI (min z (v9 + wr k_ j)) := ez_14.trans (nI_min (by omega) (by omega))
        refine lv_istore (lv' := [(5, .int (nI (min z (v9 + wr k_ j)))), (6, .int (nI k_)), (0, .ref (a 6)), (1, .int (nI S)), (2, .int (nI j)), (3, .ref (a 5)), (4, .int (nI s_))]) hx hb dX2_earliestEnd_86 hl (by decide) rfl (fun ls hl => ?_)
        refine lv_iinc (v := nI (k_ + 1)) (lv' := [(6, .int (nI (k_ + 1))), (5, .int (nI (min z (v9 + wr k_ j)))), (0, .ref (a 6)), (1, .int (nI S)), (2, .int (nI j)), (3, .ref (a 5)), (4, .int (nI s_))]) hx hb dX2_earliestEnd_88 hl (k := 1) rfl (nI_add k_ 1) (by decide) rfl (fun ls hl => ?_)
        refine lv_goto (tgt := 36) hx hb dX2_earliestEnd_91 (by decide) ?_
        exact ih (k_ + 1) (min z (v9 + wr k_ j)) (by omega) (cm_step hz hs0 l9) (by omega) _ (lv_sub hl [0, 1, 2, 3, 4, 5, 6] rfl) kk0
      refine lv_if_eq (tgt := 88) hx hb dX2_earliestEnd_52 (by decide) (fun _ => ?_) (fun c_15 => False.elim (by revert c_15; decide))
      refine lv_iinc (v := nI (k_ + 1)) (lv' := [(6, .int (nI (k_ + 1))), (5, .int (nI z)), (0, .ref (a 6)), (1, .int (nI S)), (2, .int (nI j)), (3, .ref (a 5)), (4, .int (nI s_))]) hx hb dX2_earliestEnd_88 hl (k := 0) rfl (nI_add k_ 1) (by decide) rfl (fun ls hl => ?_)
      refine lv_goto (tgt := 36) hx hb dX2_earliestEnd_91 (by decide) ?_
      exact ih (k_ + 1) z (by omega) (cm_skip hz h_3) (by omega) _ (lv_sub hl [0, 1, 2, 3, 4, 5, 6] rfl) kk0
    · refine lv_iload hx hb dX2_earliestEnd_36 (lv_at hl 0 rfl) ?_
      refine lv_aload_n hx hb dX2_earliestEnd_38 rfl (lv_at hl 2 rfl) ?_
      refine va_get (D := D) (ci := 2) (v := .int (iv 20)) (C := RX2) (T := TX2) (N := 16) hx hb hts (fun _ h9 => List.mem_cons_of_mem _ (List.mem_append_right _ h9)) hown hK hP 0 rfl rfl 12 (by decide) (hts (.fieldLink RX2 76 "BuoyTender$Planner" "count" "I") (by decide +kernel)) (fun _ h9 => h9) rfl dX2_earliestEnd_39 ?_
      refine lv_topi (fun z_16 ez_16 => ?_)
      obtain rfl : z_16 = nI cc := ez_16.trans h_c
      refine lv_icmp_ge (tgt := 94) hx hb dX2_earliestEnd_42 (by decide) (fun c_17 => ?_) (fun c_17 => absurd (nI_le hge (by omega)) c_17)
      exact kk0 z _ (by have e9 : k_ = cc := (by omega); rw [e9] at hz; exact hz) (lv_sub hl [1, 2, 3, 4, 5, 6] rfl)
set_option maxHeartbeats 4000000 in
set_option maxRecDepth 100000 in
/-- X2_earliestEnd -/
theorem k_X2_earliestEnd (l : Launch) (D : va_G) (cI cJ cZ cM : Nat) (a : Nat → Nat) (iv : Nat → Int32) (av : Nat → Nat → Int32) (cc : Nat) (h_c : iv 20 = nI cc) (hcc : cc ≤ 10) (mn : Nat → Nat) (ld : Nat → Nat) (wg : Nat → Nat) (wr : Nat → Nat → Nat) (op : Nat → Nat → Prop) (hpt : PT cc av mn ld wg wr op) (bg : Nat) (lst : Nat) (car : Nat) (h_bg : iv 7 = nI bg) (h_ls : iv 8 = nI lst) (h_ca : iv 12 = nI car) (hbl : bg ≤ lst) (hls : lst ≤ 1440) (hca : car ≤ 10000) (S : Nat) (hSS : S < 2 ^ cc) (j : Nat) (hj : j < cc) (hb_ : S.testBit j = true) (hLd : zLd cc ld car S) (hET : zET (zPE op (wyW wr) mn (zLd cc ld car) bg lst) cc S (av 23)) : Met l yX2_earliestEnd wsX2_earliestEnd ({ frames := 1, cells := 0, slots := 0, locals := 40 } : Room) (RO D cI cJ cZ cM [.ref (a 6), .int (nI S), .int (nI j), .ref (a 5)] [(a 6, .inr (2, [.ref (a 16), .ref (a 17), .ref (a 18), .ref (a 19), .ref (a 20), .ref (a 21), .ref (a 22), .ref (a 23), .ref (a 24), .ref (a 25), .ref (a 26), .ref (a 27), .int (iv 20), .int (iv 21), .int (iv 22), .int (iv 23)])), (a 17, .inl (cI, 10, .inl (av 17))), (a 20, .inl (cI, 121, .inl (av 20))), (a 21, .inl (cI, 240, .inl (av 21))), (a 23, .inl (cI, 10240, .inl (av 23))), (a 5, .inr (4, [.ref (a 13), .ref (a 14), .int (iv 5), .int (iv 6), .int (iv 7), .int (iv 8), .int (iv 9), .int (iv 10), .int (iv 11), .int (iv 12)]))]) (vp_Si (fun r => ∃ v, r = nI v ∧ leastN ((zPE op (wyW wr) mn (zLd cc ld car) bg lst) S j) v)) 0 0 (fun _ => False) := by
  refine Met.ofW (cc := cX2_earliestEnd) (maxL := 7) (ret := (some .int)) (by decide) rfl ?_
  intro p e s m args below meth c s₁ B hml hv
  obtain ⟨rfl, hG, hP⟩ := hv
  have hx := B.exec
  have hb := B.bytes
  have hr := B.returns
  have hts := atoms_spec (ws := wsX2_earliestEnd) B.pre
  have hown : s.vm.findClass RX2 = some m.cls := findClass_of_methodNamed B.named
  have hlocks := B.notSynchronized
  have hK := hG.1
  have hN := hG.2
  have hl := lv_entry ([.ref (a 6), .int (nI S), .int (nI j), .ref (a 5)]) (n := 7) (Nat.le_of_ble_eq_true rfl)
  rw [lg_entry_eq]
  generalize (lg_sl ([.ref (a 6), .int (nI S), .int (nI j), .ref (a 5)]) ++ List.replicate (7 - (lg_sl ([.ref (a 6), .int (nI S), .int (nI j), .ref (a 5)])).length) Slot.unset).toArray = ls at hl ⊢
  have hl : lv_has ls 7 [(0, .ref (a 6)), (1, .int (nI S)), (2, .int (nI j)), (3, .ref (a 5))] := hl
  have hp10 : 2 ^ cc ≤ 1024 := Nat.pow_le_pow_right (n := 2) (by decide) hcc
  obtain ⟨w0, bw0⟩ := pt_w0 hpt j hj
  obtain ⟨w17, b17⟩ := pt_mn hpt j hj
  refine lv_iload_n hx hb dX2_earliestEnd_0 rfl (lv_at hl 2 rfl) ?_
  refine lv_iload_n hx hb dX2_earliestEnd_1 rfl (lv_at hl 1 rfl) ?_
  refine vp_callSi (va_Run.run (va_runS (As := [.int (nI j), .int (nI S)]) (rest := []) ⟨hx, hb, hml, hown, hts⟩ (k_X2_without l j (by omega) S (by omega) hb_) (va_cwS 2 hts gX2_earliestEnd_X2_without rfl rfl rfl (by decide +kernel) ⟨Nat.le_of_ble_eq_true rfl, Nat.le_of_ble_eq_true rfl⟩) preEq rfl rfl hl.1 rfl (lv_room (Nat.le_of_ble_eq_true rfl)) dX2_earliestEnd_2 ⟨Nat.le_of_ble_eq_true rfl, Nat.le_of_ble_eq_true rfl⟩)) (fun r_1 h_1 => ?_)
  obtain ⟨s_1, hse_1⟩ : ∃ z, z = S ^^^ 2 ^ j := ⟨_, rfl⟩
  have hsb_1 : s_1 < S := by rw [hse_1]; exact xb_less hb_
  rw [← hse_1] at h_1
  obtain rfl : r_1 = nI s_1 := h_1
  refine lv_istore (lv' := [(4, .int (nI s_1)), (0, .ref (a 6)), (1, .int (nI S)), (2, .int (nI j)), (3, .ref (a 5))]) hx hb dX2_earliestEnd_5 hl (by decide) rfl (fun ls hl => ?_)
  refine lv_iload hx hb dX2_earliestEnd_7 (lv_at hl 0 rfl) ?_
  refine lv_if_ne (tgt := 29) hx hb dX2_earliestEnd_9 (by decide) (fun c_2 => ?_) (fun c_2 => ?_)
  · refine lv_ldc (v := 1000000) hx hb hown (hts (.constant RX2 131 1000000) (by decide +kernel)) dX2_earliestEnd_29 ?_
    refine lv_istore (lv' := [(5, .int 1000000), (4, .int (nI s_1)), (0, .ref (a 6)), (1, .int (nI S)), (2, .int (nI j)), (3, .ref (a 5))]) hx hb dX2_earliestEnd_31 hl (by decide) rfl (fun ls hl => ?_)
    refine lv_iconst (v := 0) hx hb dX2_earliestEnd_33 (by decide) ?_
    refine lv_istore (lv' := [(6, .int 0), (5, .int 1000000), (4, .int (nI s_1)), (0, .ref (a 6)), (1, .int (nI S)), (2, .int (nI j)), (3, .ref (a 5))]) hx hb dX2_earliestEnd_34 hl (by decide) rfl (fun ls hl => ?_)
    have hPl := hP.sub (ws' := [(a 6, .inr (2, [.ref (a 16), .ref (a 17), .ref (a 18), .ref (a 19), .ref (a 20), .ref (a 21), .ref (a 22), .ref (a 23), .ref (a 24), .ref (a 25), .ref (a 26), .ref (a 27), .int (iv 20), .int (iv 21), .int (iv 22), .int (iv 23)])), (a 17, .inl (cI, 10, .inl (av 17))), (a 20, .inl (cI, 121, .inl (av 20))), (a 21, .inl (cI, 240, .inl (av 21))), (a 23, .inl (cI, 10240, .inl (av 23))), (a 5, .inr (4, [.ref (a 13), .ref (a 14), .int (iv 5), .int (iv 6), .int (iv 7), .int (iv 8), .int (iv 9), .int (iv 10), .int (iv 11), .int (iv 12)]))]) [0, 1, 2, 3, 4, 5] rfl
    refine lp_X2_earliestEnd hx hb hml hts hown hG hPl h_c hcc hpt h_bg h_ls h_ca hbl hls hca (by omega) hj bw0 hsb_1 hET (cc + 1) 0 1000000 (Nat.zero_le _) (Or.inr ⟨fun e => c_2 (by rw [e]; rfl), pq_zero⟩) (by omega) _ (lv_sub hl [0, 1, 3, 4, 5, 6, 2] rfl) (fun z_3 ls e_3_0 hl => ?_)
    have bz := cm_le e_3_0 bw0 hbl hls
    refine lv_aload_n hx hb dX2_earliestEnd_94 rfl (lv_at hl 1 rfl) ?_
    refine lv_iload_n hx hb dX2_earliestEnd_95 rfl (lv_at hl 3 rfl) ?_
    refine lv_iload hx hb dX2_earliestEnd_96 (lv_at hl 0 rfl) ?_
    have hPc := hP.sub (ws' := [(a 6, .inr (2, [.ref (a 16), .ref (a 17), .ref (a 18), .ref (a 19), .ref (a 20), .ref (a 21), .ref (a 22), .ref (a 23), .ref (a 24), .ref (a 25), .ref (a 26), .ref (a 27), .int (iv 20), .int (iv 21), .int (iv 22), .int (iv 23)])), (a 21, .inl (cI, 240, .inl (av 21)))]) [0, 3] rfl
    refine vp_callSi (va_Run.run (va_runV (As := [.int (nI j), .int (nI z_3)]) (rest := []) ⟨hx, hb, hml, hown, hts⟩ (k_X2_beginFrom l D cI cJ cZ cM a iv av op j (by omega) z_3 (by omega) (pt_up hpt hj)) (cwV 2 hts gX2_earliestEnd_X2_beginFrom rfl rfl rfl (by decide +kernel) ⟨Nat.le_of_ble_eq_true rfl, Nat.le_of_ble_eq_true rfl⟩) (ro_V hG hPc (va_recv hK hPc (ci := 2) (q0 := 0) rfl rfl)) rfl rfl hl.1 rfl (lv_room (Nat.le_of_ble_eq_true rfl)) dX2_earliestEnd_98 ⟨Nat.le_of_ble_eq_true rfl, Nat.le_of_ble_eq_true rfl⟩)) (fun r_4 h_4 => ?_)
    obtain rfl : r_4 = nI (zbv op j z_3) := h_4
    have hbv_4 := bv_le (op := op) j z_3
    refine lv_aload_n hx hb dX2_earliestEnd_101 rfl (lv_at hl 1 rfl) ?_
    refine va_get (D := D) (ci := 2) (v := .ref (a 17)) (C := RX2) (T := TX2) (N := 16) hx hb hts (fun _ h9 => List.mem_cons_of_mem _ (List.mem_append_right _ h9)) hown hK hP 0 rfl rfl 1 (by decide) (hts (.fieldLink RX2 15 "BuoyTender$Planner" "minutes" "[I") (by decide +kernel)) (fun _ h9 => h9) rfl dX2_earliestEnd_102 ?_
    refine lv_iload_n hx hb dX2_earliestEnd_105 rfl (lv_at hl 3 rfl) ?_
    refine va_iald hx hb hK hP 1 0 rfl rfl (vp_in_nI (by omega) (by decide)) dX2_earliestEnd_106 ?_
    refine lv_topi (fun z_5 ez_5 => ?_)
    obtain rfl : z_5 = (av 17) j := ez_5.trans (congrArg (av 17) (nI_clamp (by omega)))
    refine lv_topi (fun z_6 ez_6 => ?_)
    obtain rfl : z_6 = nI (mn j) := ez_6.trans w17
    refine lv_iadd hx hb dX2_earliestEnd_107 ?_
    refine lv_topi (fun z_7 ez_7 => ?_)
    obtain rfl : z_7 = nI ((zbv op j z_3) + (mn j)) := ez_7.trans (nI_add (zbv op j z_3) (mn j))
    refine lv_istore (lv' := [(6, .int (nI ((zbv op j z_3) + (mn j)))), (5, .int (nI z_3)), (0, .ref (a 6)), (1, .int (nI S)), (2, .int (nI j)), (3, .ref (a 5)), (4, .int (nI s_1))]) hx hb dX2_earliestEnd_108 hl (by decide) rfl (fun ls hl => ?_)
    refine lv_iload hx hb dX2_earliestEnd_110 (lv_at hl 0 rfl) ?_
    refine lv_aload_n hx hb dX2_earliestEnd_112 rfl (lv_at hl 5 rfl) ?_
    refine va_getN (D := D) (ci := 4) (v := .int (iv 8)) (C := RX4) (T := TX4) (N := 10) hx hb hts (fun _ h9 => List.mem_cons_of_mem _ (List.mem_append_left _ (List.mem_append_right _ h9))) hown hK hP 5 rfl rfl 5 (by decide) (va_Nw.use rfl (hN.1 (RX2, 150, "BuoyTender$Ship", "end", "I", "BuoyTender") (by decide +kernel))) (fun _ h9 => h9) rfl dX2_earliestEnd_113 ?_
    refine lv_topi (fun z_8 ez_8 => ?_)
    obtain rfl : z_8 = nI lst := ez_8.trans h_ls
    refine lv_icmp_gt (tgt := 124) hx hb dX2_earliestEnd_116 (by decide) (fun c_9 => ?_) (fun c_9 => ?_)
    · refine lv_ldc (v := 1000000) hx hb hown (hts (.constant RX2 131 1000000) (by decide +kernel)) dX2_earliestEnd_124 ?_
      have hps := pe_step (op := op) (wy := wyW wr) (mn := mn) (L := zLd cc ld car) (bg := bg) hLd hb_ hls (by rw [← hse_1]; exact cm_end e_3_0 (ld_x hLd hb_ (xb_m hSS hb_) hse_1) (by omega) hbl hls bw0)
      exact W.iret (v := 1000000) hx hb hr (fun t ht hW => ⟨1000000, rfl, ⟨1000000, rfl, by rw [if_neg (show ¬ zbv op j z_3 + mn j ≤ lst by have := (nI_ltI (by omega) (by omega)).mp c_9; omega)] at hps; exact hps⟩, ht⟩) (fun _ h => by cases h) dX2_earliestEnd_126
    refine lv_iload hx hb dX2_earliestEnd_119 (lv_at hl 0 rfl) ?_
    refine lv_goto (tgt := 126) hx hb dX2_earliestEnd_121 (by decide) ?_
    have hps := pe_step (op := op) (wy := wyW wr) (mn := mn) (L := zLd cc ld car) (bg := bg) hLd hb_ hls (by rw [← hse_1]; exact cm_end e_3_0 (ld_x hLd hb_ (xb_m hSS hb_) hse_1) (by omega) hbl hls bw0)
    exact W.iret (v := (nI ((zbv op j z_3) + (mn j)))) hx hb hr (fun t ht hW => ⟨(nI ((zbv op j z_3) + (mn j))), rfl, ⟨_, rfl, by rw [if_pos (show zbv op j z_3 + mn j ≤ lst from le_of_nlt c_9 (by omega))] at hps; exact hps⟩, ht⟩) (fun _ h => by cases h) dX2_earliestEnd_126
  refine lv_aload_n hx hb dX2_earliestEnd_12 rfl (lv_at hl 4 rfl) ?_
  refine va_getN (D := D) (ci := 4) (v := .int (iv 7)) (C := RX4) (T := TX4) (N := 10) hx hb hts (fun _ h9 => List.mem_cons_of_mem _ (List.mem_append_left _ (List.mem_append_right _ h9))) hown hK hP 5 rfl rfl 4 (by decide) (va_Nw.use rfl (hN.1 (RX2, 136, "BuoyTender$Ship", "minute", "I", "BuoyTender") (by decide +kernel))) (fun _ h9 => h9) rfl dX2_earliestEnd_13 ?_
  refine lv_topi (fun z_10 ez_10 => ?_)
  obtain rfl : z_10 = nI bg := ez_10.trans h_bg
  refine lv_aload_n hx hb dX2_earliestEnd_16 rfl (lv_at hl 1 rfl) ?_
  refine va_get (D := D) (ci := 2) (v := .ref (a 20)) (C := RX2) (T := TX2) (N := 16) hx hb hts (fun _ h9 => List.mem_cons_of_mem _ (List.mem_append_right _ h9)) hown hK hP 0 rfl rfl 4 (by decide) (hts (.fieldLink RX2 24 "BuoyTender$Planner" "ways" "[I") (by decide +kernel)) (fun _ h9 => h9) rfl dX2_earliestEnd_17 ?_
  refine lv_bipush (v := 110) hx hb dX2_earliestEnd_20 (by decide) ?_
  refine lv_iload_n hx hb dX2_earliestEnd_22 rfl (lv_at hl 3 rfl) ?_
  refine lv_iadd hx hb dX2_earliestEnd_23 ?_
  refine lv_topi (fun z_11 ez_11 => ?_)
  obtain rfl : z_11 = nI (110 + j) := ez_11.trans (nI_add 110 j)
  refine va_iald hx hb hK hP 2 0 rfl rfl (vp_in_nI (by omega) (by decide)) dX2_earliestEnd_24 ?_
  refine lv_topi (fun z_12 ez_12 => ?_)
  obtain rfl : z_12 = (av 20) (110 + j) := ez_12.trans (congrArg (av 20) (nI_clamp (by omega)))
  refine lv_topi (fun z_13 ez_13 => ?_)
  obtain rfl : z_13 = nI (wr 10 j) := ez_13.trans w0
  refine lv_iadd hx hb dX2_earliestEnd_25 ?_
  refine lv_topi (fun z_14 ez_14 => ?_)
  obtain rfl : z_14 = nI (bg + (wr 10 j)) := ez_14.trans (nI_add bg (wr 10 j))
  refine lv_goto (tgt := 31) hx hb dX2_earliestEnd_26 (by decide) ?_
  refine lv_istore (lv' := [(5, .int (nI (bg + (wr 10 j)))), (4, .int (nI s_1)), (0, .ref (a 6)), (1, .int (nI S)), (2, .int (nI j)), (3, .ref (a 5))]) hx hb dX2_earliestEnd_31 hl (by decide) rfl (fun ls hl => ?_)
  refine lv_iconst (v := 0) hx hb dX2_earliestEnd_33 (by decide) ?_
  refine lv_istore (lv' := [(6, .int 0), (5, .int (nI (bg + (wr 10 j)))), (4, .int (nI s_1)), (0, .ref (a 6)), (1, .int (nI S)), (2, .int (nI j)), (3, .ref (a 5))]) hx hb dX2_earliestEnd_34 hl (by decide) rfl (fun ls hl => ?_)
  have hPl := hP.sub (ws' := [(a 6, .inr (2, [.ref (a 16), .ref (a 17), .ref (a 18), .ref (a 19), .ref (a 20), .ref (a 21), .ref (a 22), .ref (a 23), .ref (a 24), .ref (a 25), .ref (a 26), .ref (a 27), .int (iv 20), .int (iv 21), .int (iv 22), .int (iv 23)])), (a 17, .inl (cI, 10, .inl (av 17))), (a 20, .inl (cI, 121, .inl (av 20))), (a 21, .inl (cI, 240, .inl (av 21))), (a 23, .inl (cI, 10240, .inl (av 23))), (a 5, .inr (4, [.ref (a 13), .ref (a 14), .int (iv 5), .int (iv 6), .int (iv 7), .int (iv 8), .int (iv 9), .int (iv 10), .int (iv 11), .int (iv 12)]))]) [0, 1, 2, 3, 4, 5] rfl
  refine lp_X2_earliestEnd hx hb hml hts hown hG hPl h_c hcc hpt h_bg h_ls h_ca hbl hls hca (by omega) hj bw0 hsb_1 hET (cc + 1) 0 (bg + (wr 10 j)) (Nat.zero_le _) (Or.inl ⟨(nI_eq (a := s_1) (b := 0) (by omega) (by decide)).mp c_2, rfl⟩) (by omega) _ (lv_sub hl [0, 1, 3, 4, 5, 6, 2] rfl) (fun z_15 ls e_15_0 hl => ?_)
  have bz := cm_le e_15_0 bw0 hbl hls
  refine lv_aload_n hx hb dX2_earliestEnd_94 rfl (lv_at hl 1 rfl) ?_
  refine lv_iload_n hx hb dX2_earliestEnd_95 rfl (lv_at hl 3 rfl) ?_
  refine lv_iload hx hb dX2_earliestEnd_96 (lv_at hl 0 rfl) ?_
  have hPc := hP.sub (ws' := [(a 6, .inr (2, [.ref (a 16), .ref (a 17), .ref (a 18), .ref (a 19), .ref (a 20), .ref (a 21), .ref (a 22), .ref (a 23), .ref (a 24), .ref (a 25), .ref (a 26), .ref (a 27), .int (iv 20), .int (iv 21), .int (iv 22), .int (iv 23)])), (a 21, .inl (cI, 240, .inl (av 21)))]) [0, 3] rfl
  refine vp_callSi (va_Run.run (va_runV (As := [.int (nI j), .int (nI z_15)]) (rest := []) ⟨hx, hb, hml, hown, hts⟩ (k_X2_beginFrom l D cI cJ cZ cM a iv av op j (by omega) z_15 (by omega) (pt_up hpt hj)) (cwV 2 hts gX2_earliestEnd_X2_beginFrom rfl rfl rfl (by decide +kernel) ⟨Nat.le_of_ble_eq_true rfl, Nat.le_of_ble_eq_true rfl⟩) (ro_V hG hPc (va_recv hK hPc (ci := 2) (q0 := 0) rfl rfl)) rfl rfl hl.1 rfl (lv_room (Nat.le_of_ble_eq_true rfl)) dX2_earliestEnd_98 ⟨Nat.le_of_ble_eq_true rfl, Nat.le_of_ble_eq_true rfl⟩)) (fun r_16 h_16 => ?_)
  obtain rfl : r_16 = nI (zbv op j z_15) := h_16
  have hbv_16 := bv_le (op := op) j z_15
  refine lv_aload_n hx hb dX2_earliestEnd_101 rfl (lv_at hl 1 rfl) ?_
  refine va_get (D := D) (ci := 2) (v := .ref (a 17)) (C := RX2) (T := TX2) (N := 16) hx hb hts (fun _ h9 => List.mem_cons_of_mem _ (List.mem_append_right _ h9)) hown hK hP 0 rfl rfl 1 (by decide) (hts (.fieldLink RX2 15 "BuoyTender$Planner" "minutes" "[I") (by decide +kernel)) (fun _ h9 => h9) rfl dX2_earliestEnd_102 ?_
  refine lv_iload_n hx hb dX2_earliestEnd_105 rfl (lv_at hl 3 rfl) ?_
  refine va_iald hx hb hK hP 1 0 rfl rfl (vp_in_nI (by omega) (by decide)) dX2_earliestEnd_106 ?_
  refine lv_topi (fun z_17 ez_17 => ?_)
  obtain rfl : z_17 = (av 17) j := ez_17.trans (congrArg (av 17) (nI_clamp (by omega)))
  refine lv_topi (fun z_18 ez_18 => ?_)
  obtain rfl : z_18 = nI (mn j) := ez_18.trans w17
  refine lv_iadd hx hb dX2_earliestEnd_107 ?_
  refine lv_topi (fun z_19 ez_19 => ?_)
  obtain rfl : z_19 = nI ((zbv op j z_15) + (mn j)) := ez_19.trans (nI_add (zbv op j z_15) (mn j))
  refine lv_istore (lv' := [(6, .int (nI ((zbv op j z_15) + (mn j)))), (5, .int (nI z_15)), (0, .ref (a 6)), (1, .int (nI S)), (2, .int (nI j)), (3, .ref (a 5)), (4, .int (nI s_1))]) hx hb dX2_earliestEnd_108 hl (by decide) rfl (fun ls hl => ?_)
  refine lv_iload hx hb dX2_earliestEnd_110 (lv_at hl 0 rfl) ?_
  refine lv_aload_n hx hb dX2_earliestEnd_112 rfl (lv_at hl 5 rfl) ?_
  refine va_getN (D := D) (ci := 4) (v := .int (iv 8)) (C := RX4) (T := TX4) (N := 10) hx hb hts (fun _ h9 => List.mem_cons_of_mem _ (List.mem_append_left _ (List.mem_append_right _ h9))) hown hK hP 5 rfl rfl 5 (by decide) (va_Nw.use rfl (hN.1 (RX2, 150, "BuoyTender$Ship", "end", "I", "BuoyTender") (by decide +kernel))) (fun _ h9 => h9) rfl dX2_earliestEnd_113 ?_
  refine lv_topi (fun z_20 ez_20 => ?_)
  obtain rfl : z_20 = nI lst := ez_20.trans h_ls
  refine lv_icmp_gt (tgt := 124) hx hb dX2_earliestEnd_116 (by decide) (fun c_21 => ?_) (fun c_21 => ?_)
  · refine lv_ldc (v := 1000000) hx hb hown (hts (.constant RX2 131 1000000) (by decide +kernel)) dX2_earliestEnd_124 ?_
    have hps := pe_step (op := op) (wy := wyW wr) (mn := mn) (L := zLd cc ld car) (bg := bg) hLd hb_ hls (by rw [← hse_1]; exact cm_end e_15_0 (ld_x hLd hb_ (xb_m hSS hb_) hse_1) (by omega) hbl hls bw0)
    exact W.iret (v := 1000000) hx hb hr (fun t ht hW => ⟨1000000, rfl, ⟨1000000, rfl, by rw [if_neg (show ¬ zbv op j z_15 + mn j ≤ lst by have := (nI_ltI (by omega) (by omega)).mp c_21; omega)] at hps; exact hps⟩, ht⟩) (fun _ h => by cases h) dX2_earliestEnd_126
  refine lv_iload hx hb dX2_earliestEnd_119 (lv_at hl 0 rfl) ?_
  refine lv_goto (tgt := 126) hx hb dX2_earliestEnd_121 (by decide) ?_
  have hps := pe_step (op := op) (wy := wyW wr) (mn := mn) (L := zLd cc ld car) (bg := bg) hLd hb_ hls (by rw [← hse_1]; exact cm_end e_15_0 (ld_x hLd hb_ (xb_m hSS hb_) hse_1) (by omega) hbl hls bw0)
  exact W.iret (v := (nI ((zbv op j z_15) + (mn j)))) hx hb hr (fun t ht hW => ⟨(nI ((zbv op j z_15) + (mn j))), rfl, ⟨_, rfl, by rw [if_pos (show zbv op j z_15 + mn j ≤ lst from le_of_nlt c_21 (by omega))] at hps; exact hps⟩, ht⟩) (fun _ h => by cases h) dX2_earliestEnd_126
set_option maxHeartbeats 4000000 in
set_option maxRecDepth 100000 in
/-- X2_findEarliestEnds: the loop at 51 -/
theorem lp_X2_feeI1 {p : Program} {l : Launch} {e : Env} {s : State} {m : MethodId} {args : Array Value} {below : List Frame} {meth : Method} {c : Code} {Q : State → Prop} {D : va_G} {cI cJ cZ cM : Nat} {a : Nat → Nat} {iv : Nat → Int32} {av : Nat → Nat → Int32} {cc : Nat} {mn : Nat → Nat} {ld : Nat → Nat} {wg : Nat → Nat} {wr : Nat → Nat → Nat} {op : Nat → Nat → Prop} {bg : Nat} {lst : Nat} {car : Nat} {s_ : Nat} {f24 : Nat → Int32} {A : Nat → Prop} (hx : p.tables.exec = Jvm.exec) (hb : c.code = cX2_findEarliestEnds) (hml : c.maxLocals = 7) (hts : ∀ w ∈ wsX2_findEarliestEnds, w.before args s = true) (hown : s.vm.findClass RX2 = some m.cls) (hG : GK D cI cJ cZ cM s) (hA : ∀ q : Nat, s.heap.size ≤ q → A q) (h_c : iv 20 = nI cc) (hcc : cc ≤ 10) (hpt : PT cc av mn ld wg wr op) (h_bg : iv 7 = nI bg) (h_ls : iv 8 = nI lst) (h_ca : iv 12 = nI car) (hbl : bg ≤ lst) (hls : lst ≤ 1440) (hca : car ≤ 10000) (hs_ : s_ < 2 ^ cc) (hLd : zLd cc ld car s_) :
    ∀ (k9 : Nat) (k_ : Nat) (z : Nat) (f23 : Nat → Int32), (k_ ≤ cc) → (leastN (zPQ op (wyW wr) mn (zLd cc ld car) bg lst (fun i => wr i 10) k_ s_) z) → (zET (zPE op (wyW wr) mn (zLd cc ld car) bg lst) cc s_ f23) → (zER (zPE op (wyW wr) mn (zLd cc ld car) bg lst) s_ k_ f23) → cc - k_ < k9 → ∀ (H : Heap) (locs : List Loc) (ls : Array Slot), va_P D vwCl [(a 6, .inr (2, [.ref (a 16), .ref (a 17), .ref (a 18), .ref (a 19), .ref (a 20), .ref (a 21), .ref (a 22), .ref (a 23), .ref (a 24), .ref (a 25), .ref (a 26), .ref (a 27), .int (iv 20), .int (iv 21), .int (iv 22), .int (iv 23)])), (a 17, .inl (cI, 10, .inl (av 17))), (a 18, .inl (cI, 10, .inl (av 18))), (a 20, .inl (cI, 121, .inl (av 20))), (a 21, .inl (cI, 240, .inl (av 21))), (a 23, .inl (cI, 10240, .inl f23)), (a 24, .inl (cI, 1024, .inl f24)), (a 5, .inr (4, [.ref (a 13), .ref (a 14), .int (iv 5), .int (iv 6), .int (iv 7), .int (iv 8), .int (iv 9), .int (iv 10), .int (iv 11), .int (iv 12)]))] H → va_D A [(a 6, .inr (2, [.ref (a 16), .ref (a 17), .ref (a 18), .ref (a 19), .ref (a 20), .ref (a 21), .ref (a 22), .ref (a 23), .ref (a 24), .ref (a 25), .ref (a 26), .ref (a 27), .int (iv 20), .int (iv 21), .int (iv 22), .int (iv 23)])), (a 17, .inl (cI, 10, .inl (av 17))), (a 18, .inl (cI, 10, .inl (av 18))), (a 20, .inl (cI, 121, .inl (av 20))), (a 21, .inl (cI, 240, .inl (av 21))), (a 23, .inl (cI, 10240, .inl f23)), (a 24, .inl (cI, 1024, .inl f24)), (a 5, .inr (4, [.ref (a 13), .ref (a 14), .int (iv 5), .int (iv 6), .int (iv 7), .int (iv 8), .int (iv 9), .int (iv 10), .int (iv 11), .int (iv 12)]))] → va_S A s.heap H locs → lv_has ls 7 [(5, .int (nI k_)), (3, .int (nI z)), (4, .int 1), (2, .int (nI s_)), (0, .ref (a 6)), (1, .ref (a 5))] → (∀ (z : Nat) (f23 : Nat → Int32) (H : Heap) (locs : List Loc) (ls : Array Slot), (leastN (zPQ op (wyW wr) mn (zLd cc ld car) bg lst (fun i => wr i 10) cc s_) z) → (zET (zPE op (wyW wr) mn (zLd cc ld car) bg lst) cc (s_ + 1) f23) → va_P D vwCl [(a 6, .inr (2, [.ref (a 16), .ref (a 17), .ref (a 18), .ref (a 19), .ref (a 20), .ref (a 21), .ref (a 22), .ref (a 23), .ref (a 24), .ref (a 25), .ref (a 26), .ref (a 27), .int (iv 20), .int (iv 21), .int (iv 22), .int (iv 23)])), (a 17, .inl (cI, 10, .inl (av 17))), (a 18, .inl (cI, 10, .inl (av 18))), (a 20, .inl (cI, 121, .inl (av 20))), (a 21, .inl (cI, 240, .inl (av 21))), (a 23, .inl (cI, 10240, .inl f23)), (a 24, .inl (cI, 1024, .inl f24)), (a 5, .inr (4, [.ref (a 13), .ref (a 14), .int (iv 5), .int (iv 6), .int (iv 7), .int (iv 8), .int (iv 9), .int (iv 10), .int (iv 11), .int (iv 12)]))] H → va_D A [(a 6, .inr (2, [.ref (a 16), .ref (a 17), .ref (a 18), .ref (a 19), .ref (a 20), .ref (a 21), .ref (a 22), .ref (a 23), .ref (a 24), .ref (a 25), .ref (a 26), .ref (a 27), .int (iv 20), .int (iv 21), .int (iv 22), .int (iv 23)])), (a 17, .inl (cI, 10, .inl (av 17))), (a 18, .inl (cI, 10, .inl (av 18))), (a 20, .inl (cI, 121, .inl (av 20))), (a 21, .inl (cI, 240, .inl (av 21))), (a 23, .inl (cI, 10240, .inl f23)), (a 24, .inl (cI, 1024, .inl f24)), (a 5, .inr (4, [.ref (a 13), .ref (a 14), .int (iv 5), .int (iv 6), .int (iv 7), .int (iv 8), .int (iv 9), .int (iv 10), .int (iv 11), .int (iv 12)]))] → va_S A s.heap H locs → lv_has ls 7 [(3, .int (nI z)), (4, .int 1), (2, .int (nI s_)), (0, .ref (a 6)), (1, .ref (a 5))] → W p l e (headSpec wsX2_findEarliestEnds ({ frames := 2, cells := 0, slots := 0, locals := 66 } : Room)).room s m args below meth c H locs 0 0 Q (F0 m 130 ls [])) → W p l e (headSpec wsX2_findEarliestEnds ({ frames := 2, cells := 0, slots := 0, locals := 66 } : Room)).room s m args below meth c H locs 0 0 Q (F0 m 51 ls []) := by
  have hK := hG.1
  have hN := hG.2
  intro k9
  induction k9 with
  | zero => intro k_ z f23 hk hz hE hR hfu; exact absurd hfu (Nat.not_lt_zero _)
  | succ k9 ih =>
    intro k_ z f23 hk hz hE hR hfu H locs ls hP hD hS hl kk0
    have hp10 : 2 ^ cc ≤ 1024 := Nat.pow_le_pow_right (n := 2) (by decide) hcc
    rcases Nat.lt_or_ge k_ cc with hlt | hge
    · refine lv_iload hx hb dX2_findEarliestEnds_51 (lv_at hl 0 rfl) ?_
      refine lv_aload_n hx hb dX2_findEarliestEnds_53 rfl (lv_at hl 4 rfl) ?_
      refine va_get (D := D) (ci := 2) (v := .int (iv 20)) (C := RX2) (T := TX2) (N := 16) hx hb hts (fun _ h9 => List.mem_cons_of_mem _ (List.mem_append_left _ (List.mem_append_right _ h9))) hown hK hP 0 rfl rfl 12 (by decide) (hts (.fieldLink RX2 76 "BuoyTender$Planner" "count" "I") (by decide +kernel)) (fun _ h9 => h9) rfl dX2_findEarliestEnds_54 ?_
      refine lv_topi (fun z_1 ez_1 => ?_)
      obtain rfl : z_1 = nI cc := ez_1.trans h_c
      refine lv_icmp_ge (tgt := 130) hx hb dX2_findEarliestEnds_57 (by decide) (fun c_2 => absurd c_2 (nI_ge hlt (by omega))) (fun c_2 => ?_)
      refine lv_iload hx hb dX2_findEarliestEnds_60 (lv_at hl 2 rfl) ?_
      refine lv_if_eq (tgt := 85) hx hb dX2_findEarliestEnds_62 (by decide) (fun c_3 => False.elim (by revert c_3; decide)) (fun _ => ?_)
      refine lv_iload hx hb dX2_findEarliestEnds_65 (lv_at hl 0 rfl) ?_
      refine lv_iload_n hx hb dX2_findEarliestEnds_67 rfl (lv_at hl 3 rfl) ?_
      refine vp_callSi (va_Run.run (va_runS (As := [.int (nI k_), .int (nI s_)]) (rest := []) ⟨hx, hb, hml, hown, hts⟩ (k_X2_isIn l k_ (by omega) s_ (by omega)) (va_cwS 2 hts gX2_findEarliestEnds_X2_isIn rfl rfl rfl (by decide +kernel) ⟨Nat.le_of_ble_eq_true rfl, Nat.le_of_ble_eq_true rfl⟩) preEq rfl rfl hl.1 rfl (lv_room (Nat.le_of_ble_eq_true rfl)) dX2_findEarliestEnds_68 ⟨Nat.le_of_ble_eq_true rfl, Nat.le_of_ble_eq_true rfl⟩)) (fun r_4 h_4 => ?_)
      rcases h_4 with ⟨rfl, h_4⟩ | ⟨rfl, h_4⟩
      · refine lv_if_eq (tgt := 85) hx hb dX2_findEarliestEnds_71 (by decide) (fun c_5 => False.elim (by revert c_5; decide)) (fun _ => ?_)
        refine lv_aload_n hx hb dX2_findEarliestEnds_74 rfl (lv_at hl 4 rfl) ?_
        refine lv_iload_n hx hb dX2_findEarliestEnds_75 rfl (lv_at hl 3 rfl) ?_
        refine lv_iload hx hb dX2_findEarliestEnds_76 (lv_at hl 0 rfl) ?_
        refine lv_aload_n hx hb dX2_findEarliestEnds_78 rfl (lv_at hl 5 rfl) ?_
        have hPc := hP.sub (ws' := [(a 6, .inr (2, [.ref (a 16), .ref (a 17), .ref (a 18), .ref (a 19), .ref (a 20), .ref (a 21), .ref (a 22), .ref (a 23), .ref (a 24), .ref (a 25), .ref (a 26), .ref (a 27), .int (iv 20), .int (iv 21), .int (iv 22), .int (iv 23)])), (a 17, .inl (cI, 10, .inl (av 17))), (a 20, .inl (cI, 121, .inl (av 20))), (a 21, .inl (cI, 240, .inl (av 21))), (a 23, .inl (cI, 10240, .inl f23)), (a 5, .inr (4, [.ref (a 13), .ref (a 14), .int (iv 5), .int (iv 6), .int (iv 7), .int (iv 8), .int (iv 9), .int (iv 10), .int (iv 11), .int (iv 12)]))]) [0, 1, 3, 4, 5, 7] rfl
        refine vp_callSi (va_Run.run (va_runV (As := [.int (nI s_), .int (nI k_), .ref (a 5)]) (rest := []) ⟨hx, hb, hml, hown, hts⟩ (k_X2_earliestEnd l D cI cJ cZ cM a iv (vset av 23 f23) cc h_c hcc mn ld wg wr op (show PT cc (vset av 23 f23) mn ld wg wr op from hpt) bg lst car h_bg h_ls h_ca hbl hls hca s_ (by omega) k_ hlt h_4 hLd (show zET (zPE op (wyW wr) mn (zLd cc ld car) bg lst) cc _ _ from hE)) (cwV 3 hts gX2_findEarliestEnds_X2_earliestEnd rfl rfl rfl (by decide +kernel) ⟨Nat.le_of_ble_eq_true rfl, Nat.le_of_ble_eq_true rfl⟩) (ro_V hG hPc (va_recv hK hPc (ci := 2) (q0 := 0) rfl rfl)) rfl rfl hl.1 rfl (lv_room (Nat.le_of_ble_eq_true rfl)) dX2_findEarliestEnds_79 ⟨Nat.le_of_ble_eq_true rfl, Nat.le_of_ble_eq_true rfl⟩)) (fun r_6 h_6 => ?_)
        obtain ⟨v9, ev9, l9⟩ := h_6
        obtain rfl : r_6 = nI v9 := ev9
        have b9 := least_le l9
        refine lv_goto (tgt := 87) hx hb dX2_findEarliestEnds_82 (by decide) ?_
        refine lv_istore (lv' := [(6, .int (nI v9)), (5, .int (nI k_)), (3, .int (nI z)), (4, .int 1), (2, .int (nI s_)), (0, .ref (a 6)), (1, .ref (a 5))]) hx hb dX2_findEarliestEnds_87 hl (by decide) rfl (fun ls hl => ?_)
        obtain ⟨w9, bw9⟩ := pt_wh hpt k_ hlt
        have bz := least_le hz
        refine lv_aload_n hx hb dX2_findEarliestEnds_89 rfl (lv_at hl 5 rfl) ?_
        refine va_get (D := D) (ci := 2) (v := .ref (a 23)) (C := RX2) (T := TX2) (N := 16) hx hb hts (fun _ h9 => List.mem_cons_of_mem _ (List.mem_append_left _ (List.mem_append_right _ h9))) hown hK hP 0 rfl rfl 7 (by decide) (hts (.fieldLink RX2 33 "BuoyTender$Planner" "ends" "[I") (by decide +kernel)) (fun _ h9 => h9) rfl dX2_findEarliestEnds_90 ?_
        refine lv_iload_n hx hb dX2_findEarliestEnds_93 rfl (lv_at hl 4 rfl) ?_
        refine lv_bipush (v := 10) hx hb dX2_findEarliestEnds_94 (by decide) ?_
        refine lv_imul hx hb dX2_findEarliestEnds_96 ?_
        refine lv_topi (fun z_7 ez_7 => ?_)
        obtain rfl : z_7 = nI (s_ * 10) := ez_7.trans (pk_mul s_ 10)
        refine lv_iload hx hb dX2_findEarliestEnds_97 (lv_at hl 1 rfl) ?_
        refine lv_iadd hx hb dX2_findEarliestEnds_99 ?_
        refine lv_topi (fun z_8 ez_8 => ?_)
        obtain rfl : z_8 = nI ((s_ * 10) + k_) := ez_8.trans (nI_add (s_ * 10) k_)
        refine lv_iload hx hb dX2_findEarliestEnds_100 (lv_at hl 0 rfl) ?_
        refine va_iast hx hb hK hP hD hS 5 0 rfl rfl (vp_in_nI (by omega) (by decide)) dX2_findEarliestEnds_102 (fun H locs hP hD hS => ?_)
        rw [nI_clamp (by omega)] at hP hD
        have hP : va_P D vwCl [(a 6, .inr (2, [.ref (a 16), .ref (a 17), .ref (a 18), .ref (a 19), .ref (a 20), .ref (a 21), .ref (a 22), .ref (a 23), .ref (a 24), .ref (a 25), .ref (a 26), .ref (a 27), .int (iv 20), .int (iv 21), .int (iv 22), .int (iv 23)])), (a 17, .inl (cI, 10, .inl (av 17))), (a 18, .inl (cI, 10, .inl (av 18))), (a 20, .inl (cI, 121, .inl (av 20))), (a 21, .inl (cI, 240, .inl (av 21))), (a 23, .inl (cI, 10240, .inl (upd f23 ((s_ * 10) + k_) (nI v9)))), (a 24, .inl (cI, 1024, .inl f24)), (a 5, .inr (4, [.ref (a 13), .ref (a 14), .int (iv 5), .int (iv 6), .int (iv 7), .int (iv 8), .int (iv 9), .int (iv 10), .int (iv 11), .int (iv 12)]))] H := hP
        have hD : va_D A [(a 6, .inr (2, [.ref (a 16), .ref (a 17), .ref (a 18), .ref (a 19), .ref (a 20), .ref (a 21), .ref (a 22), .ref (a 23), .ref (a 24), .ref (a 25), .ref (a 26), .ref (a 27), .int (iv 20), .int (iv 21), .int (iv 22), .int (iv 23)])), (a 17, .inl (cI, 10, .inl (av 17))), (a 18, .inl (cI, 10, .inl (av 18))), (a 20, .inl (cI, 121, .inl (av 20))), (a 21, .inl (cI, 240, .inl (av 21))), (a 23, .inl (cI, 10240, .inl (upd f23 ((s_ * 10) + k_) (nI v9)))), (a 24, .inl (cI, 1024, .inl f24)), (a 5, .inr (4, [.ref (a 13), .ref (a 14), .int (iv 5), .int (iv 6), .int (iv 7), .int (iv 8), .int (iv 9), .int (iv 10), .int (iv 11), .int (iv 12)]))] := hD
        refine lv_iload_n hx hb dX2_findEarliestEnds_103 rfl (lv_at hl 2 rfl) ?_
        refine lv_iload hx hb dX2_findEarliestEnds_104 (lv_at hl 0 rfl) ?_
        refine lv_aload_n hx hb dX2_findEarliestEnds_106 rfl (lv_at hl 5 rfl) ?_
        refine va_get (D := D) (ci := 2) (v := .ref (a 20)) (C := RX2) (T := TX2) (N := 16) hx hb hts (fun _ h9 => List.mem_cons_of_mem _ (List.mem_append_left _ (List.mem_append_right _ h9))) hown hK hP 0 rfl rfl 4 (by decide) (hts (.fieldLink RX2 24 "BuoyTender$Planner" "ways" "[I") (by decide +kernel)) (fun _ h9 => h9) rfl dX2_findEarliestEnds_107 ?_
        refine lv_iload hx hb dX2_findEarliestEnds_110 (lv_at hl 1 rfl) ?_
        refine lv_bipush (v := 11) hx hb dX2_findEarliestEnds_112 (by decide) ?_
        refine lv_imul hx hb dX2_findEarliestEnds_114 ?_
        refine lv_topi (fun z_9 ez_9 => ?_)
        obtain rfl : z_9 = nI (k_ * 11) := ez_9.trans (pk_mul k_ 11)
        refine lv_bipush (v := 10) hx hb dX2_findEarliestEnds_115 (by decide) ?_
        refine lv_iadd hx hb dX2_findEarliestEnds_117 ?_
        refine lv_topi (fun z_10 ez_10 => ?_)
        obtain rfl : z_10 = nI ((k_ * 11) + 10) := ez_10.trans (nI_add (k_ * 11) 10)
        refine va_iald hx hb hK hP 3 0 rfl rfl (vp_in_nI (by omega) (by decide)) dX2_findEarliestEnds_118 ?_
        refine lv_topi (fun z_11 ez_11 => ?_)
        obtain rfl : z_11 = (av 20) ((k_ * 11) + 10) := ez_11.trans (congrArg (av 20) (nI_clamp (by omega)))
        refine lv_topi (fun z_12 ez_12 => ?_)
        obtain rfl : z_12 = nI (wr k_ 10) := ez_12.trans w9
        refine lv_iadd hx hb dX2_findEarliestEnds_119 ?_
        refine lv_topi (fun z_13 ez_13 => ?_)
        obtain rfl : z_13 = nI (v9 + (wr k_ 10)) := ez_13.trans (nI_add v9 (wr k_ 10))
        refine va_mmin hx hb (hml.trans hl.1.symm) hown (hts (.methodLink RX2 133 Lib.Math.min.name) (by decide +kernel)) (hts (.static Lib.Math.min.name) (by decide +kernel)) (hts (.initialized "java/lang/Math") (by decide +kernel)) (hts (.code Lib.Math.min.name Lib.Math.min.code 2 (some .int)) (by decide +kernel)) (Nat.le_of_ble_eq_true rfl) (Nat.le_of_ble_eq_true rfl) (Nat.le_of_ble_eq_true rfl) (Nat.le_of_ble_eq_true rfl) dX2_findEarliestEnds_120 ?_
        refine lv_topi (fun z_14 ez_14 => ?_)
        obtain rfl : z_14 = nI (min z (v9 + wr k_ 10)) := ez_14.trans (nI_min (by omega) (by omega))
        refine lv_istore_n (lv' := [(3, .int (nI (min z (v9 + wr k_ 10)))), (6, .int (nI v9)), (5, .int (nI k_)), (4, .int 1), (2, .int (nI s_)), (0, .ref (a 6)), (1, .ref (a 5))]) hx hb dX2_findEarliestEnds_123 rfl hl (by decide) rfl (fun ls hl => ?_)
        refine lv_iinc (v := nI (k_ + 1)) (lv' := [(5, .int (nI (k_ + 1))), (3, .int (nI (min z (v9 + wr k_ 10)))), (6, .int (nI v9)), (4, .int 1), (2, .int (nI s_)), (0, .ref (a 6)), (1, .ref (a 5))]) hx hb dX2_findEarliestEnds_124 hl (k := 2) rfl (nI_add k_ 1) (by decide) rfl (fun ls hl => ?_)
        refine lv_goto (tgt := 51) hx hb dX2_findEarliestEnds_127 (by decide) ?_
        exact ih (k_ + 1) (min z (v9 + wr k_ 10)) (upd f23 ((s_ * 10) + k_) (nI v9)) (by omega) (pq_step hz l9) (et_row hE (by omega) hcc) (er_step hR l9) (by omega) _ _ _ hP hD hS (lv_sub hl [0, 1, 3, 4, 5, 6] rfl) kk0
      refine lv_if_eq (tgt := 85) hx hb dX2_findEarliestEnds_71 (by decide) (fun _ => ?_) (fun c_15 => False.elim (by revert c_15; decide))
      refine lv_ldc (v := 1000000) hx hb hown (hts (.constant RX2 131 1000000) (by decide +kernel)) dX2_findEarliestEnds_85 ?_
      refine lv_istore (lv' := [(6, .int 1000000), (5, .int (nI k_)), (3, .int (nI z)), (4, .int 1), (2, .int (nI s_)), (0, .ref (a 6)), (1, .ref (a 5))]) hx hb dX2_findEarliestEnds_87 hl (by decide) rfl (fun ls hl => ?_)
      obtain ⟨v9, hv9⟩ : ∃ z, z = 1000000 := ⟨_, rfl⟩
      have l9 : leastN ((zPE op (wyW wr) mn (zLd cc ld car) bg lst) s_ k_) v9 := by rw [hv9]; exact pe_no (Or.inr h_4)
      have b9 := least_le l9
      have hl : lv_has ls 7 [(6, .int (nI v9)), (5, .int (nI k_)), (3, .int (nI z)), (4, .int 1), (2, .int (nI s_)), (0, .ref (a 6)), (1, .ref (a 5))] := by rw [hv9]; exact hl
      obtain ⟨w9, bw9⟩ := pt_wh hpt k_ hlt
      have bz := least_le hz
      refine lv_aload_n hx hb dX2_findEarliestEnds_89 rfl (lv_at hl 5 rfl) ?_
      refine va_get (D := D) (ci := 2) (v := .ref (a 23)) (C := RX2) (T := TX2) (N := 16) hx hb hts (fun _ h9 => List.mem_cons_of_mem _ (List.mem_append_left _ (List.mem_append_right _ h9))) hown hK hP 0 rfl rfl 7 (by decide) (hts (.fieldLink RX2 33 "BuoyTender$Planner" "ends" "[I") (by decide +kernel)) (fun _ h9 => h9) rfl dX2_findEarliestEnds_90 ?_
      refine lv_iload_n hx hb dX2_findEarliestEnds_93 rfl (lv_at hl 4 rfl) ?_
      refine lv_bipush (v := 10) hx hb dX2_findEarliestEnds_94 (by decide) ?_
      refine lv_imul hx hb dX2_findEarliestEnds_96 ?_
      refine lv_topi (fun z_16 ez_16 => ?_)
      obtain rfl : z_16 = nI (s_ * 10) := ez_16.trans (pk_mul s_ 10)
      refine lv_iload hx hb dX2_findEarliestEnds_97 (lv_at hl 1 rfl) ?_
      refine lv_iadd hx hb dX2_findEarliestEnds_99 ?_
      refine lv_topi (fun z_17 ez_17 => ?_)
      obtain rfl : z_17 = nI ((s_ * 10) + k_) := ez_17.trans (nI_add (s_ * 10) k_)
      refine lv_iload hx hb dX2_findEarliestEnds_100 (lv_at hl 0 rfl) ?_
      refine va_iast hx hb hK hP hD hS 5 0 rfl rfl (vp_in_nI (by omega) (by decide)) dX2_findEarliestEnds_102 (fun H locs hP hD hS => ?_)
      rw [nI_clamp (by omega)] at hP hD
      have hP : va_P D vwCl [(a 6, .inr (2, [.ref (a 16), .ref (a 17), .ref (a 18), .ref (a 19), .ref (a 20), .ref (a 21), .ref (a 22), .ref (a 23), .ref (a 24), .ref (a 25), .ref (a 26), .ref (a 27), .int (iv 20), .int (iv 21), .int (iv 22), .int (iv 23)])), (a 17, .inl (cI, 10, .inl (av 17))), (a 18, .inl (cI, 10, .inl (av 18))), (a 20, .inl (cI, 121, .inl (av 20))), (a 21, .inl (cI, 240, .inl (av 21))), (a 23, .inl (cI, 10240, .inl (upd f23 ((s_ * 10) + k_) (nI v9)))), (a 24, .inl (cI, 1024, .inl f24)), (a 5, .inr (4, [.ref (a 13), .ref (a 14), .int (iv 5), .int (iv 6), .int (iv 7), .int (iv 8), .int (iv 9), .int (iv 10), .int (iv 11), .int (iv 12)]))] H := hP
      have hD : va_D A [(a 6, .inr (2, [.ref (a 16), .ref (a 17), .ref (a 18), .ref (a 19), .ref (a 20), .ref (a 21), .ref (a 22), .ref (a 23), .ref (a 24), .ref (a 25), .ref (a 26), .ref (a 27), .int (iv 20), .int (iv 21), .int (iv 22), .int (iv 23)])), (a 17, .inl (cI, 10, .inl (av 17))), (a 18, .inl (cI, 10, .inl (av 18))), (a 20, .inl (cI, 121, .inl (av 20))), (a 21, .inl (cI, 240, .inl (av 21))), (a 23, .inl (cI, 10240, .inl (upd f23 ((s_ * 10) + k_) (nI v9)))), (a 24, .inl (cI, 1024, .inl f24)), (a 5, .inr (4, [.ref (a 13), .ref (a 14), .int (iv 5), .int (iv 6), .int (iv 7), .int (iv 8), .int (iv 9), .int (iv 10), .int (iv 11), .int (iv 12)]))] := hD
      refine lv_iload_n hx hb dX2_findEarliestEnds_103 rfl (lv_at hl 2 rfl) ?_
      refine lv_iload hx hb dX2_findEarliestEnds_104 (lv_at hl 0 rfl) ?_
      refine lv_aload_n hx hb dX2_findEarliestEnds_106 rfl (lv_at hl 5 rfl) ?_
      refine va_get (D := D) (ci := 2) (v := .ref (a 20)) (C := RX2) (T := TX2) (N := 16) hx hb hts (fun _ h9 => List.mem_cons_of_mem _ (List.mem_append_left _ (List.mem_append_right _ h9))) hown hK hP 0 rfl rfl 4 (by decide) (hts (.fieldLink RX2 24 "BuoyTender$Planner" "ways" "[I") (by decide +kernel)) (fun _ h9 => h9) rfl dX2_findEarliestEnds_107 ?_
      refine lv_iload hx hb dX2_findEarliestEnds_110 (lv_at hl 1 rfl) ?_
      refine lv_bipush (v := 11) hx hb dX2_findEarliestEnds_112 (by decide) ?_
      refine lv_imul hx hb dX2_findEarliestEnds_114 ?_
      refine lv_topi (fun z_18 ez_18 => ?_)
      obtain rfl : z_18 = nI (k_ * 11) := ez_18.trans (pk_mul k_ 11)
      refine lv_bipush (v := 10) hx hb dX2_findEarliestEnds_115 (by decide) ?_
      refine lv_iadd hx hb dX2_findEarliestEnds_117 ?_
      refine lv_topi (fun z_19 ez_19 => ?_)
      obtain rfl : z_19 = nI ((k_ * 11) + 10) := ez_19.trans (nI_add (k_ * 11) 10)
      refine va_iald hx hb hK hP 3 0 rfl rfl (vp_in_nI (by omega) (by decide)) dX2_findEarliestEnds_118 ?_
      refine lv_topi (fun z_20 ez_20 => ?_)
      obtain rfl : z_20 = (av 20) ((k_ * 11) + 10) := ez_20.trans (congrArg (av 20) (nI_clamp (by omega)))
      refine lv_topi (fun z_21 ez_21 => ?_)
      obtain rfl : z_21 = nI (wr k_ 10) := ez_21.trans w9
      refine lv_iadd hx hb dX2_findEarliestEnds_119 ?_
      refine lv_topi (fun z_22 ez_22 => ?_)
      obtain rfl : z_22 = nI (v9 + (wr k_ 10)) := ez_22.trans (nI_add v9 (wr k_ 10))
      refine va_mmin hx hb (hml.trans hl.1.symm) hown (hts (.methodLink RX2 133 Lib.Math.min.name) (by decide +kernel)) (hts (.static Lib.Math.min.name) (by decide +kernel)) (hts (.initialized "java/lang/Math") (by decide +kernel)) (hts (.code Lib.Math.min.name Lib.Math.min.code 2 (some .int)) (by decide +kernel)) (Nat.le_of_ble_eq_true rfl) (Nat.le_of_ble_eq_true rfl) (Nat.le_of_ble_eq_true rfl) (Nat.le_of_ble_eq_true rfl) dX2_findEarliestEnds_120 ?_
      refine lv_topi (fun z_23 ez_23 => ?_)
      obtain rfl : z_23 = nI (min z (v9 + wr k_ 10)) := ez_23.trans (nI_min (by omega) (by omega))
      refine lv_istore_n (lv' := [(3, .int (nI (min z (v9 + wr k_ 10)))), (6, .int (nI v9)), (5, .int (nI k_)), (4, .int 1), (2, .int (nI s_)), (0, .ref (a 6)), (1, .ref (a 5))]) hx hb dX2_findEarliestEnds_123 rfl hl (by decide) rfl (fun ls hl => ?_)
      refine lv_iinc (v := nI (k_ + 1)) (lv' := [(5, .int (nI (k_ + 1))), (3, .int (nI (min z (v9 + wr k_ 10)))), (6, .int (nI v9)), (4, .int 1), (2, .int (nI s_)), (0, .ref (a 6)), (1, .ref (a 5))]) hx hb dX2_findEarliestEnds_124 hl (k := 2) rfl (nI_add k_ 1) (by decide) rfl (fun ls hl => ?_)
      refine lv_goto (tgt := 51) hx hb dX2_findEarliestEnds_127 (by decide) ?_
      exact ih (k_ + 1) (min z (v9 + wr k_ 10)) (upd f23 ((s_ * 10) + k_) (nI v9)) (by omega) (pq_step hz l9) (et_row hE (by omega) hcc) (er_step hR l9) (by omega) _ _ _ hP hD hS (lv_sub hl [0, 1, 3, 4, 5, 6] rfl) kk0
    · refine lv_iload hx hb dX2_findEarliestEnds_51 (lv_at hl 0 rfl) ?_
      refine lv_aload_n hx hb dX2_findEarliestEnds_53 rfl (lv_at hl 4 rfl) ?_
      refine va_get (D := D) (ci := 2) (v := .int (iv 20)) (C := RX2) (T := TX2) (N := 16) hx hb hts (fun _ h9 => List.mem_cons_of_mem _ (List.mem_append_left _ (List.mem_append_right _ h9))) hown hK hP 0 rfl rfl 12 (by decide) (hts (.fieldLink RX2 76 "BuoyTender$Planner" "count" "I") (by decide +kernel)) (fun _ h9 => h9) rfl dX2_findEarliestEnds_54 ?_
      refine lv_topi (fun z_24 ez_24 => ?_)
      obtain rfl : z_24 = nI cc := ez_24.trans h_c
      refine lv_icmp_ge (tgt := 130) hx hb dX2_findEarliestEnds_57 (by decide) (fun c_25 => ?_) (fun c_25 => absurd (nI_le hge (by omega)) c_25)
      exact kk0 z f23 _ _ _ (by have e9 : k_ = cc := (by omega); rw [e9] at hz; exact hz) (et_next hE (by have e9 : k_ = cc := (by omega); rw [e9] at hR; exact hR)) hP hD hS (lv_sub hl [1, 2, 3, 4, 5] rfl)
set_option maxHeartbeats 4000000 in
set_option maxRecDepth 100000 in
/-- X2_findEarliestEnds: the loop at 51 -/
theorem lp_X2_feeI0 {p : Program} {l : Launch} {e : Env} {s : State} {m : MethodId} {args : Array Value} {below : List Frame} {meth : Method} {c : Code} {Q : State → Prop} {D : va_G} {cI cJ cZ cM : Nat} {a : Nat → Nat} {iv : Nat → Int32} {av : Nat → Nat → Int32} {cc : Nat} {mn : Nat → Nat} {ld : Nat → Nat} {wg : Nat → Nat} {wr : Nat → Nat → Nat} {op : Nat → Nat → Prop} {bg : Nat} {lst : Nat} {car : Nat} {s_ : Nat} {f24 : Nat → Int32} {A : Nat → Prop} (hx : p.tables.exec = Jvm.exec) (hb : c.code = cX2_findEarliestEnds) (hml : c.maxLocals = 7) (hts : ∀ w ∈ wsX2_findEarliestEnds, w.before args s = true) (hown : s.vm.findClass RX2 = some m.cls) (hG : GK D cI cJ cZ cM s) (hA : ∀ q : Nat, s.heap.size ≤ q → A q) (h_c : iv 20 = nI cc) (hcc : cc ≤ 10) (hpt : PT cc av mn ld wg wr op) (h_bg : iv 7 = nI bg) (h_ls : iv 8 = nI lst) (h_ca : iv 12 = nI car) (hbl : bg ≤ lst) (hls : lst ≤ 1440) (hca : car ≤ 10000) (hs_ : s_ < 2 ^ cc) (hLd : ¬ zLd cc ld car s_) :
    ∀ (k9 : Nat) (k_ : Nat) (z : Nat) (f23 : Nat → Int32), (k_ ≤ cc) → (leastN (zPQ op (wyW wr) mn (zLd cc ld car) bg lst (fun i => wr i 10) k_ s_) z) → (zET (zPE op (wyW wr) mn (zLd cc ld car) bg lst) cc s_ f23) → (zER (zPE op (wyW wr) mn (zLd cc ld car) bg lst) s_ k_ f23) → cc - k_ < k9 → ∀ (H : Heap) (locs : List Loc) (ls : Array Slot), va_P D vwCl [(a 6, .inr (2, [.ref (a 16), .ref (a 17), .ref (a 18), .ref (a 19), .ref (a 20), .ref (a 21), .ref (a 22), .ref (a 23), .ref (a 24), .ref (a 25), .ref (a 26), .ref (a 27), .int (iv 20), .int (iv 21), .int (iv 22), .int (iv 23)])), (a 17, .inl (cI, 10, .inl (av 17))), (a 18, .inl (cI, 10, .inl (av 18))), (a 20, .inl (cI, 121, .inl (av 20))), (a 21, .inl (cI, 240, .inl (av 21))), (a 23, .inl (cI, 10240, .inl f23)), (a 24, .inl (cI, 1024, .inl f24)), (a 5, .inr (4, [.ref (a 13), .ref (a 14), .int (iv 5), .int (iv 6), .int (iv 7), .int (iv 8), .int (iv 9), .int (iv 10), .int (iv 11), .int (iv 12)]))] H → va_D A [(a 6, .inr (2, [.ref (a 16), .ref (a 17), .ref (a 18), .ref (a 19), .ref (a 20), .ref (a 21), .ref (a 22), .ref (a 23), .ref (a 24), .ref (a 25), .ref (a 26), .ref (a 27), .int (iv 20), .int (iv 21), .int (iv 22), .int (iv 23)])), (a 17, .inl (cI, 10, .inl (av 17))), (a 18, .inl (cI, 10, .inl (av 18))), (a 20, .inl (cI, 121, .inl (av 20))), (a 21, .inl (cI, 240, .inl (av 21))), (a 23, .inl (cI, 10240, .inl f23)), (a 24, .inl (cI, 1024, .inl f24)), (a 5, .inr (4, [.ref (a 13), .ref (a 14), .int (iv 5), .int (iv 6), .int (iv 7), .int (iv 8), .int (iv 9), .int (iv 10), .int (iv 11), .int (iv 12)]))] → va_S A s.heap H locs → lv_has ls 7 [(5, .int (nI k_)), (3, .int (nI z)), (4, .int 0), (2, .int (nI s_)), (0, .ref (a 6)), (1, .ref (a 5))] → (∀ (z : Nat) (f23 : Nat → Int32) (H : Heap) (locs : List Loc) (ls : Array Slot), (leastN (zPQ op (wyW wr) mn (zLd cc ld car) bg lst (fun i => wr i 10) cc s_) z) → (zET (zPE op (wyW wr) mn (zLd cc ld car) bg lst) cc (s_ + 1) f23) → va_P D vwCl [(a 6, .inr (2, [.ref (a 16), .ref (a 17), .ref (a 18), .ref (a 19), .ref (a 20), .ref (a 21), .ref (a 22), .ref (a 23), .ref (a 24), .ref (a 25), .ref (a 26), .ref (a 27), .int (iv 20), .int (iv 21), .int (iv 22), .int (iv 23)])), (a 17, .inl (cI, 10, .inl (av 17))), (a 18, .inl (cI, 10, .inl (av 18))), (a 20, .inl (cI, 121, .inl (av 20))), (a 21, .inl (cI, 240, .inl (av 21))), (a 23, .inl (cI, 10240, .inl f23)), (a 24, .inl (cI, 1024, .inl f24)), (a 5, .inr (4, [.ref (a 13), .ref (a 14), .int (iv 5), .int (iv 6), .int (iv 7), .int (iv 8), .int (iv 9), .int (iv 10), .int (iv 11), .int (iv 12)]))] H → va_D A [(a 6, .inr (2, [.ref (a 16), .ref (a 17), .ref (a 18), .ref (a 19), .ref (a 20), .ref (a 21), .ref (a 22), .ref (a 23), .ref (a 24), .ref (a 25), .ref (a 26), .ref (a 27), .int (iv 20), .int (iv 21), .int (iv 22), .int (iv 23)])), (a 17, .inl (cI, 10, .inl (av 17))), (a 18, .inl (cI, 10, .inl (av 18))), (a 20, .inl (cI, 121, .inl (av 20))), (a 21, .inl (cI, 240, .inl (av 21))), (a 23, .inl (cI, 10240, .inl f23)), (a 24, .inl (cI, 1024, .inl f24)), (a 5, .inr (4, [.ref (a 13), .ref (a 14), .int (iv 5), .int (iv 6), .int (iv 7), .int (iv 8), .int (iv 9), .int (iv 10), .int (iv 11), .int (iv 12)]))] → va_S A s.heap H locs → lv_has ls 7 [(3, .int (nI z)), (4, .int 0), (2, .int (nI s_)), (0, .ref (a 6)), (1, .ref (a 5))] → W p l e (headSpec wsX2_findEarliestEnds ({ frames := 2, cells := 0, slots := 0, locals := 66 } : Room)).room s m args below meth c H locs 0 0 Q (F0 m 130 ls [])) → W p l e (headSpec wsX2_findEarliestEnds ({ frames := 2, cells := 0, slots := 0, locals := 66 } : Room)).room s m args below meth c H locs 0 0 Q (F0 m 51 ls []) := by
  have hK := hG.1
  have hN := hG.2
  intro k9
  induction k9 with
  | zero => intro k_ z f23 hk hz hE hR hfu; exact absurd hfu (Nat.not_lt_zero _)
  | succ k9 ih =>
    intro k_ z f23 hk hz hE hR hfu H locs ls hP hD hS hl kk0
    have hp10 : 2 ^ cc ≤ 1024 := Nat.pow_le_pow_right (n := 2) (by decide) hcc
    rcases Nat.lt_or_ge k_ cc with hlt | hge
    · refine lv_iload hx hb dX2_findEarliestEnds_51 (lv_at hl 0 rfl) ?_
      refine lv_aload_n hx hb dX2_findEarliestEnds_53 rfl (lv_at hl 4 rfl) ?_
      refine va_get (D := D) (ci := 2) (v := .int (iv 20)) (C := RX2) (T := TX2) (N := 16) hx hb hts (fun _ h9 => List.mem_cons_of_mem _ (List.mem_append_left _ (List.mem_append_right _ h9))) hown hK hP 0 rfl rfl 12 (by decide) (hts (.fieldLink RX2 76 "BuoyTender$Planner" "count" "I") (by decide +kernel)) (fun _ h9 => h9) rfl dX2_findEarliestEnds_54 ?_
      refine lv_topi (fun z_1 ez_1 => ?_)
      obtain rfl : z_1 = nI cc := ez_1.trans h_c
      refine lv_icmp_ge (tgt := 130) hx hb dX2_findEarliestEnds_57 (by decide) (fun c_2 => absurd c_2 (nI_ge hlt (by omega))) (fun c_2 => ?_)
      refine lv_iload hx hb dX2_findEarliestEnds_60 (lv_at hl 2 rfl) ?_
      refine lv_if_eq (tgt := 85) hx hb dX2_findEarliestEnds_62 (by decide) (fun _ => ?_) (fun c_3 => False.elim (by revert c_3; decide))
      refine lv_ldc (v := 1000000) hx hb hown (hts (.constant RX2 131 1000000) (by decide +kernel)) dX2_findEarliestEnds_85 ?_
      refine lv_istore (lv' := [(6, .int 1000000), (5, .int (nI k_)), (3, .int (nI z)), (4, .int 0), (2, .int (nI s_)), (0, .ref (a 6)), (1, .ref (a 5))]) hx hb dX2_findEarliestEnds_87 hl (by decide) rfl (fun ls hl => ?_)
      obtain ⟨v9, hv9⟩ : ∃ z, z = 1000000 := ⟨_, rfl⟩
      have l9 : leastN ((zPE op (wyW wr) mn (zLd cc ld car) bg lst) s_ k_) v9 := by rw [hv9]; exact pe_no (Or.inl hLd)
      have b9 := least_le l9
      have hl : lv_has ls 7 [(6, .int (nI v9)), (5, .int (nI k_)), (3, .int (nI z)), (4, .int 0), (2, .int (nI s_)), (0, .ref (a 6)), (1, .ref (a 5))] := by rw [hv9]; exact hl
      obtain ⟨w9, bw9⟩ := pt_wh hpt k_ hlt
      have bz := least_le hz
      refine lv_aload_n hx hb dX2_findEarliestEnds_89 rfl (lv_at hl 5 rfl) ?_
      refine va_get (D := D) (ci := 2) (v := .ref (a 23)) (C := RX2) (T := TX2) (N := 16) hx hb hts (fun _ h9 => List.mem_cons_of_mem _ (List.mem_append_left _ (List.mem_append_right _ h9))) hown hK hP 0 rfl rfl 7 (by decide) (hts (.fieldLink RX2 33 "BuoyTender$Planner" "ends" "[I") (by decide +kernel)) (fun _ h9 => h9) rfl dX2_findEarliestEnds_90 ?_
      refine lv_iload_n hx hb dX2_findEarliestEnds_93 rfl (lv_at hl 4 rfl) ?_
      refine lv_bipush (v := 10) hx hb dX2_findEarliestEnds_94 (by decide) ?_
      refine lv_imul hx hb dX2_findEarliestEnds_96 ?_
      refine lv_topi (fun z_4 ez_4 => ?_)
      obtain rfl : z_4 = nI (s_ * 10) := ez_4.trans (pk_mul s_ 10)
      refine lv_iload hx hb dX2_findEarliestEnds_97 (lv_at hl 1 rfl) ?_
      refine lv_iadd hx hb dX2_findEarliestEnds_99 ?_
      refine lv_topi (fun z_5 ez_5 => ?_)
      obtain rfl : z_5 = nI ((s_ * 10) + k_) := ez_5.trans (nI_add (s_ * 10) k_)
      refine lv_iload hx hb dX2_findEarliestEnds_100 (lv_at hl 0 rfl) ?_
      refine va_iast hx hb hK hP hD hS 5 0 rfl rfl (vp_in_nI (by omega) (by decide)) dX2_findEarliestEnds_102 (fun H locs hP hD hS => ?_)
      rw [nI_clamp (by omega)] at hP hD
      have hP : va_P D vwCl [(a 6, .inr (2, [.ref (a 16), .ref (a 17), .ref (a 18), .ref (a 19), .ref (a 20), .ref (a 21), .ref (a 22), .ref (a 23), .ref (a 24), .ref (a 25), .ref (a 26), .ref (a 27), .int (iv 20), .int (iv 21), .int (iv 22), .int (iv 23)])), (a 17, .inl (cI, 10, .inl (av 17))), (a 18, .inl (cI, 10, .inl (av 18))), (a 20, .inl (cI, 121, .inl (av 20))), (a 21, .inl (cI, 240, .inl (av 21))), (a 23, .inl (cI, 10240, .inl (upd f23 ((s_ * 10) + k_) (nI v9)))), (a 24, .inl (cI, 1024, .inl f24)), (a 5, .inr (4, [.ref (a 13), .ref (a 14), .int (iv 5), .int (iv 6), .int (iv 7), .int (iv 8), .int (iv 9), .int (iv 10), .int (iv 11), .int (iv 12)]))] H := hP
      have hD : va_D A [(a 6, .inr (2, [.ref (a 16), .ref (a 17), .ref (a 18), .ref (a 19), .ref (a 20), .ref (a 21), .ref (a 22), .ref (a 23), .ref (a 24), .ref (a 25), .ref (a 26), .ref (a 27), .int (iv 20), .int (iv 21), .int (iv 22), .int (iv 23)])), (a 17, .inl (cI, 10, .inl (av 17))), (a 18, .inl (cI, 10, .inl (av 18))), (a 20, .inl (cI, 121, .inl (av 20))), (a 21, .inl (cI, 240, .inl (av 21))), (a 23, .inl (cI, 10240, .inl (upd f23 ((s_ * 10) + k_) (nI v9)))), (a 24, .inl (cI, 1024, .inl f24)), (a 5, .inr (4, [.ref (a 13), .ref (a 14), .int (iv 5), .int (iv 6), .int (iv 7), .int (iv 8), .int (iv 9), .int (iv 10), .int (iv 11), .int (iv 12)]))] := hD
      refine lv_iload_n hx hb dX2_findEarliestEnds_103 rfl (lv_at hl 2 rfl) ?_
      refine lv_iload hx hb dX2_findEarliestEnds_104 (lv_at hl 0 rfl) ?_
      refine lv_aload_n hx hb dX2_findEarliestEnds_106 rfl (lv_at hl 5 rfl) ?_
      refine va_get (D := D) (ci := 2) (v := .ref (a 20)) (C := RX2) (T := TX2) (N := 16) hx hb hts (fun _ h9 => List.mem_cons_of_mem _ (List.mem_append_left _ (List.mem_append_right _ h9))) hown hK hP 0 rfl rfl 4 (by decide) (hts (.fieldLink RX2 24 "BuoyTender$Planner" "ways" "[I") (by decide +kernel)) (fun _ h9 => h9) rfl dX2_findEarliestEnds_107 ?_
      refine lv_iload hx hb dX2_findEarliestEnds_110 (lv_at hl 1 rfl) ?_
      refine lv_bipush (v := 11) hx hb dX2_findEarliestEnds_112 (by decide) ?_
      refine lv_imul hx hb dX2_findEarliestEnds_114 ?_
      refine lv_topi (fun z_6 ez_6 => ?_)
      obtain rfl : z_6 = nI (k_ * 11) := ez_6.trans (pk_mul k_ 11)
      refine lv_bipush (v := 10) hx hb dX2_findEarliestEnds_115 (by decide) ?_
      refine lv_iadd hx hb dX2_findEarliestEnds_117 ?_
      refine lv_topi (fun z_7 ez_7 => ?_)
      obtain rfl : z_7 = nI ((k_ * 11) + 10) := ez_7.trans (nI_add (k_ * 11) 10)
      refine va_iald hx hb hK hP 3 0 rfl rfl (vp_in_nI (by omega) (by decide)) dX2_findEarliestEnds_118 ?_
      refine lv_topi (fun z_8 ez_8 => ?_)
      obtain rfl : z_8 = (av 20) ((k_ * 11) + 10) := ez_8.trans (congrArg (av 20) (nI_clamp (by omega)))
      refine lv_topi (fun z_9 ez_9 => ?_)
      obtain rfl : z_9 = nI (wr k_ 10) := ez_9.trans w9
      refine lv_iadd hx hb dX2_findEarliestEnds_119 ?_
      refine lv_topi (fun z_10 ez_10 => ?_)
      obtain rfl : z_10 = nI (v9 + (wr k_ 10)) := ez_10.trans (nI_add v9 (wr k_ 10))
      refine va_mmin hx hb (hml.trans hl.1.symm) hown (hts (.methodLink RX2 133 Lib.Math.min.name) (by decide +kernel)) (hts (.static Lib.Math.min.name) (by decide +kernel)) (hts (.initialized "java/lang/Math") (by decide +kernel)) (hts (.code Lib.Math.min.name Lib.Math.min.code 2 (some .int)) (by decide +kernel)) (Nat.le_of_ble_eq_true rfl) (Nat.le_of_ble_eq_true rfl) (Nat.le_of_ble_eq_true rfl) (Nat.le_of_ble_eq_true rfl) dX2_findEarliestEnds_120 ?_
      refine lv_topi (fun z_11 ez_11 => ?_)
      obtain rfl : z_11 = nI (min z (v9 + wr k_ 10)) := ez_11.trans (nI_min (by omega) (by omega))
      refine lv_istore_n (lv' := [(3, .int (nI (min z (v9 + wr k_ 10)))), (6, .int (nI v9)), (5, .int (nI k_)), (4, .int 0), (2, .int (nI s_)), (0, .ref (a 6)), (1, .ref (a 5))]) hx hb dX2_findEarliestEnds_123 rfl hl (by decide) rfl (fun ls hl => ?_)
      refine lv_iinc (v := nI (k_ + 1)) (lv' := [(5, .int (nI (k_ + 1))), (3, .int (nI (min z (v9 + wr k_ 10)))), (6, .int (nI v9)), (4, .int 0), (2, .int (nI s_)), (0, .ref (a 6)), (1, .ref (a 5))]) hx hb dX2_findEarliestEnds_124 hl (k := 2) rfl (nI_add k_ 1) (by decide) rfl (fun ls hl => ?_)
      refine lv_goto (tgt := 51) hx hb dX2_findEarliestEnds_127 (by decide) ?_
      exact ih (k_ + 1) (min z (v9 + wr k_ 10)) (upd f23 ((s_ * 10) + k_) (nI v9)) (by omega) (pq_step hz l9) (et_row hE (by omega) hcc) (er_step hR l9) (by omega) _ _ _ hP hD hS (lv_sub hl [0, 1, 3, 4, 5, 6] rfl) kk0
    · refine lv_iload hx hb dX2_findEarliestEnds_51 (lv_at hl 0 rfl) ?_
      refine lv_aload_n hx hb dX2_findEarliestEnds_53 rfl (lv_at hl 4 rfl) ?_
      refine va_get (D := D) (ci := 2) (v := .int (iv 20)) (C := RX2) (T := TX2) (N := 16) hx hb hts (fun _ h9 => List.mem_cons_of_mem _ (List.mem_append_left _ (List.mem_append_right _ h9))) hown hK hP 0 rfl rfl 12 (by decide) (hts (.fieldLink RX2 76 "BuoyTender$Planner" "count" "I") (by decide +kernel)) (fun _ h9 => h9) rfl dX2_findEarliestEnds_54 ?_
      refine lv_topi (fun z_12 ez_12 => ?_)
      obtain rfl : z_12 = nI cc := ez_12.trans h_c
      refine lv_icmp_ge (tgt := 130) hx hb dX2_findEarliestEnds_57 (by decide) (fun c_13 => ?_) (fun c_13 => absurd (nI_le hge (by omega)) c_13)
      exact kk0 z f23 _ _ _ (by have e9 : k_ = cc := (by omega); rw [e9] at hz; exact hz) (et_next hE (by have e9 : k_ = cc := (by omega); rw [e9] at hR; exact hR)) hP hD hS (lv_sub hl [1, 2, 3, 4, 5] rfl)
set_option maxHeartbeats 4000000 in
set_option maxRecDepth 100000 in
/-- X2_findEarliestEnds: the loop at 12 -/
theorem lp_X2_feeO {p : Program} {l : Launch} {e : Env} {s : State} {m : MethodId} {args : Array Value} {below : List Frame} {meth : Method} {c : Code} {Q : State → Prop} {D : va_G} {cI cJ cZ cM : Nat} {a : Nat → Nat} {iv : Nat → Int32} {av : Nat → Nat → Int32} {cc : Nat} {mn : Nat → Nat} {ld : Nat → Nat} {wg : Nat → Nat} {wr : Nat → Nat → Nat} {op : Nat → Nat → Prop} {bg : Nat} {lst : Nat} {car : Nat} {A : Nat → Prop} (hx : p.tables.exec = Jvm.exec) (hb : c.code = cX2_findEarliestEnds) (hml : c.maxLocals = 7) (hts : ∀ w ∈ wsX2_findEarliestEnds, w.before args s = true) (hown : s.vm.findClass RX2 = some m.cls) (hG : GK D cI cJ cZ cM s) (hA : ∀ q : Nat, s.heap.size ≤ q → A q) (h_c : iv 20 = nI cc) (hcc : cc ≤ 10) (hpt : PT cc av mn ld wg wr op) (h_bg : iv 7 = nI bg) (h_ls : iv 8 = nI lst) (h_ca : iv 12 = nI car) (hbl : bg ≤ lst) (hls : lst ≤ 1440) (hca : car ≤ 10000) :
    ∀ (k9 : Nat) (k_ : Nat) (f23 : Nat → Int32) (f24 : Nat → Int32), (k_ ≤ 2 ^ cc) → (1 ≤ k_) → (zET (zPE op (wyW wr) mn (zLd cc ld car) bg lst) cc k_ f23) → (zBK (zPB op (wyW wr) (whW wr) mn (zLd cc ld car) bg lst) k_ f24) → (2 ^ cc) - k_ < k9 → ∀ (H : Heap) (locs : List Loc) (ls : Array Slot), va_P D vwCl [(a 6, .inr (2, [.ref (a 16), .ref (a 17), .ref (a 18), .ref (a 19), .ref (a 20), .ref (a 21), .ref (a 22), .ref (a 23), .ref (a 24), .ref (a 25), .ref (a 26), .ref (a 27), .int (iv 20), .int (iv 21), .int (iv 22), .int (iv 23)])), (a 17, .inl (cI, 10, .inl (av 17))), (a 18, .inl (cI, 10, .inl (av 18))), (a 20, .inl (cI, 121, .inl (av 20))), (a 21, .inl (cI, 240, .inl (av 21))), (a 23, .inl (cI, 10240, .inl f23)), (a 24, .inl (cI, 1024, .inl f24)), (a 5, .inr (4, [.ref (a 13), .ref (a 14), .int (iv 5), .int (iv 6), .int (iv 7), .int (iv 8), .int (iv 9), .int (iv 10), .int (iv 11), .int (iv 12)]))] H → va_D A [(a 6, .inr (2, [.ref (a 16), .ref (a 17), .ref (a 18), .ref (a 19), .ref (a 20), .ref (a 21), .ref (a 22), .ref (a 23), .ref (a 24), .ref (a 25), .ref (a 26), .ref (a 27), .int (iv 20), .int (iv 21), .int (iv 22), .int (iv 23)])), (a 17, .inl (cI, 10, .inl (av 17))), (a 18, .inl (cI, 10, .inl (av 18))), (a 20, .inl (cI, 121, .inl (av 20))), (a 21, .inl (cI, 240, .inl (av 21))), (a 23, .inl (cI, 10240, .inl f23)), (a 24, .inl (cI, 1024, .inl f24)), (a 5, .inr (4, [.ref (a 13), .ref (a 14), .int (iv 5), .int (iv 6), .int (iv 7), .int (iv 8), .int (iv 9), .int (iv 10), .int (iv 11), .int (iv 12)]))] → va_S A s.heap H locs → lv_has ls 7 [(2, .int (nI k_)), (0, .ref (a 6)), (1, .ref (a 5))] → (∀ (f23 : Nat → Int32) (f24 : Nat → Int32) (H : Heap) (locs : List Loc) (ls : Array Slot), (zBK (zPB op (wyW wr) (whW wr) mn (zLd cc ld car) bg lst) (2 ^ cc) f24) → va_P D vwCl [(a 6, .inr (2, [.ref (a 16), .ref (a 17), .ref (a 18), .ref (a 19), .ref (a 20), .ref (a 21), .ref (a 22), .ref (a 23), .ref (a 24), .ref (a 25), .ref (a 26), .ref (a 27), .int (iv 20), .int (iv 21), .int (iv 22), .int (iv 23)])), (a 17, .inl (cI, 10, .inl (av 17))), (a 18, .inl (cI, 10, .inl (av 18))), (a 20, .inl (cI, 121, .inl (av 20))), (a 21, .inl (cI, 240, .inl (av 21))), (a 23, .inl (cI, 10240, .inl f23)), (a 24, .inl (cI, 1024, .inl f24)), (a 5, .inr (4, [.ref (a 13), .ref (a 14), .int (iv 5), .int (iv 6), .int (iv 7), .int (iv 8), .int (iv 9), .int (iv 10), .int (iv 11), .int (iv 12)]))] H → va_D A [(a 6, .inr (2, [.ref (a 16), .ref (a 17), .ref (a 18), .ref (a 19), .ref (a 20), .ref (a 21), .ref (a 22), .ref (a 23), .ref (a 24), .ref (a 25), .ref (a 26), .ref (a 27), .int (iv 20), .int (iv 21), .int (iv 22), .int (iv 23)])), (a 17, .inl (cI, 10, .inl (av 17))), (a 18, .inl (cI, 10, .inl (av 18))), (a 20, .inl (cI, 121, .inl (av 20))), (a 21, .inl (cI, 240, .inl (av 21))), (a 23, .inl (cI, 10240, .inl f23)), (a 24, .inl (cI, 1024, .inl f24)), (a 5, .inr (4, [.ref (a 13), .ref (a 14), .int (iv 5), .int (iv 6), .int (iv 7), .int (iv 8), .int (iv 9), .int (iv 10), .int (iv 11), .int (iv 12)]))] → va_S A s.heap H locs → lv_has ls 7 [(0, .ref (a 6)), (1, .ref (a 5))] → W p l e (headSpec wsX2_findEarliestEnds ({ frames := 2, cells := 0, slots := 0, locals := 66 } : Room)).room s m args below meth c H locs 0 0 Q (F0 m 156 ls [])) → W p l e (headSpec wsX2_findEarliestEnds ({ frames := 2, cells := 0, slots := 0, locals := 66 } : Room)).room s m args below meth c H locs 0 0 Q (F0 m 12 ls []) := by
  have hK := hG.1
  have hN := hG.2
  intro k9
  induction k9 with
  | zero => intro k_ f23 f24 hk hk1 hE hB hfu; exact absurd hfu (Nat.not_lt_zero _)
  | succ k9 ih =>
    intro k_ f23 f24 hk hk1 hE hB hfu H locs ls hP hD hS hl kk0
    have hp10 : 2 ^ cc ≤ 1024 := Nat.pow_le_pow_right (n := 2) (by decide) hcc
    rcases Nat.lt_or_ge k_ (2 ^ cc) with hlt | hge
    · refine lv_iload_n hx hb dX2_findEarliestEnds_12 rfl (lv_at hl 0 rfl) ?_
      refine lv_iconst (v := 1) hx hb dX2_findEarliestEnds_13 (by decide) ?_
      refine lv_aload_n hx hb dX2_findEarliestEnds_14 rfl (lv_at hl 1 rfl) ?_
      refine va_get (D := D) (ci := 2) (v := .int (iv 20)) (C := RX2) (T := TX2) (N := 16) hx hb hts (fun _ h9 => List.mem_cons_of_mem _ (List.mem_append_left _ (List.mem_append_right _ h9))) hown hK hP 0 rfl rfl 12 (by decide) (hts (.fieldLink RX2 76 "BuoyTender$Planner" "count" "I") (by decide +kernel)) (fun _ h9 => h9) rfl dX2_findEarliestEnds_15 ?_
      refine lv_topi (fun z_1 ez_1 => ?_)
      obtain rfl : z_1 = nI cc := ez_1.trans h_c
      refine lv_ishl hx hb dX2_findEarliestEnds_18 ?_
      refine lv_topi (fun z_2 ez_2 => ?_)
      obtain rfl : z_2 = nI (2 ^ cc) := ez_2.trans (nx_shl1 (by omega))
      refine lv_icmp_ge (tgt := 156) hx hb dX2_findEarliestEnds_19 (by decide) (fun c_3 => absurd c_3 (nI_ge hlt (by omega))) (fun c_3 => ?_)
      refine lv_ldc (v := 1000000) hx hb hown (hts (.constant RX2 131 1000000) (by decide +kernel)) dX2_findEarliestEnds_22 ?_
      refine lv_istore_n (lv' := [(3, .int 1000000), (2, .int (nI k_)), (0, .ref (a 6)), (1, .ref (a 5))]) hx hb dX2_findEarliestEnds_24 rfl hl (by decide) rfl (fun ls hl => ?_)
      refine lv_aload_n hx hb dX2_findEarliestEnds_25 rfl (lv_at hl 2 rfl) ?_
      refine lv_iload_n hx hb dX2_findEarliestEnds_26 rfl (lv_at hl 1 rfl) ?_
      refine lv_aload_n hx hb dX2_findEarliestEnds_27 rfl (lv_at hl 2 rfl) ?_
      refine va_get (D := D) (ci := 2) (v := .ref (a 18)) (C := RX2) (T := TX2) (N := 16) hx hb hts (fun _ h9 => List.mem_cons_of_mem _ (List.mem_append_left _ (List.mem_append_right _ h9))) hown hK hP 0 rfl rfl 2 (by decide) (hts (.fieldLink RX2 18 "BuoyTender$Planner" "loads" "[I") (by decide +kernel)) (fun _ h9 => h9) rfl dX2_findEarliestEnds_28 ?_
      have hPc := hP.sub (ws' := [(a 6, .inr (2, [.ref (a 16), .ref (a 17), .ref (a 18), .ref (a 19), .ref (a 20), .ref (a 21), .ref (a 22), .ref (a 23), .ref (a 24), .ref (a 25), .ref (a 26), .ref (a 27), .int (iv 20), .int (iv 21), .int (iv 22), .int (iv 23)])), (a 18, .inl (cI, 10, .inl (av 18)))]) [0, 2] rfl
      refine vp_callSi (va_Run.run (va_runV (As := [.int (nI k_), .ref (a 18)]) (rest := []) ⟨hx, hb, hml, hown, hts⟩ (k_X2_sumOver l D cI cJ cZ cM a iv (a 18) (av 18) cc h_c hcc ld (pt_ld hpt) k_ (by omega)) (cwV 2 hts gX2_findEarliestEnds_X2_sumOver rfl rfl rfl (by decide +kernel) ⟨Nat.le_of_ble_eq_true rfl, Nat.le_of_ble_eq_true rfl⟩) (ro_V hG hPc (va_recv hK hPc (ci := 2) (q0 := 0) rfl rfl)) rfl rfl hl.1 rfl (lv_room (Nat.le_of_ble_eq_true rfl)) dX2_findEarliestEnds_31 ⟨Nat.le_of_ble_eq_true rfl, Nat.le_of_ble_eq_true rfl⟩)) (fun r_4 h_4 => ?_)
      obtain rfl : r_4 = nI (zsm ld k_ cc) := h_4
      have hsm_5 := sm_le2 (f := ld) (S := k_) cc (fun i hi => ((pt_ld hpt) i hi).2)
      refine lv_aload_n hx hb dX2_findEarliestEnds_34 rfl (lv_at hl 3 rfl) ?_
      refine va_getN (D := D) (ci := 4) (v := .int (iv 12)) (C := RX4) (T := TX4) (N := 10) hx hb hts (fun _ h9 => List.mem_cons_of_mem _ (List.mem_append_right _ h9)) hown hK hP 7 rfl rfl 9 (by decide) (va_Nw.use rfl (hN.1 (RX2, 143, "BuoyTender$Ship", "carried", "I", "BuoyTender") (by decide +kernel))) (fun _ h9 => h9) rfl dX2_findEarliestEnds_35 ?_
      refine lv_topi (fun z_6 ez_6 => ?_)
      obtain rfl : z_6 = nI car := ez_6.trans h_ca
      refine lv_icmp_gt (tgt := 45) hx hb dX2_findEarliestEnds_38 (by decide) (fun c_7 => ?_) (fun c_7 => ?_)
      · refine lv_iconst (v := 0) hx hb dX2_findEarliestEnds_45 (by decide) ?_
        refine lv_istore (lv' := [(4, .int 0), (3, .int 1000000), (2, .int (nI k_)), (0, .ref (a 6)), (1, .ref (a 5))]) hx hb dX2_findEarliestEnds_46 hl (by decide) rfl (fun ls hl => ?_)
        refine lv_iconst (v := 0) hx hb dX2_findEarliestEnds_48 (by decide) ?_
        refine lv_istore (lv' := [(5, .int 0), (4, .int 0), (3, .int 1000000), (2, .int (nI k_)), (0, .ref (a 6)), (1, .ref (a 5))]) hx hb dX2_findEarliestEnds_49 hl (by decide) rfl (fun ls hl => ?_)
        refine lp_X2_feeI0 hx hb hml hts hown hG hA h_c hcc hpt h_bg h_ls h_ca hbl hls hca hlt (show ¬ zsm ld k_ cc ≤ car by have := (nI_ltI (by omega) (by omega)).mp c_7; omega) (cc + 1) 0 1000000 f23 (Nat.zero_le _) pq_zero hE (fun j hj => absurd hj (Nat.not_lt_zero _)) (by omega) _ _ _ hP hD hS (lv_sub hl [0, 2, 1, 3, 4, 5] rfl) (fun z_8 f23_8 H locs ls e_8_0 e_8_1 hP hD hS hl => ?_)
        have bz := least_le e_8_0
        have hpb := pb_step (wh := whW wr) (show k_ ≠ 0 by omega) hlt hls e_8_0
        refine lv_aload_n hx hb dX2_findEarliestEnds_130 rfl (lv_at hl 3 rfl) ?_
        refine va_get (D := D) (ci := 2) (v := .ref (a 24)) (C := RX2) (T := TX2) (N := 16) hx hb hts (fun _ h9 => List.mem_cons_of_mem _ (List.mem_append_left _ (List.mem_append_right _ h9))) hown hK hP 0 rfl rfl 8 (by decide) (hts (.fieldLink RX2 36 "BuoyTender$Planner" "backs" "[I") (by decide +kernel)) (fun _ h9 => h9) rfl dX2_findEarliestEnds_131 ?_
        refine lv_iload_n hx hb dX2_findEarliestEnds_134 rfl (lv_at hl 2 rfl) ?_
        refine lv_iload_n hx hb dX2_findEarliestEnds_135 rfl (lv_at hl 0 rfl) ?_
        refine lv_aload_n hx hb dX2_findEarliestEnds_136 rfl (lv_at hl 4 rfl) ?_
        refine va_getN (D := D) (ci := 4) (v := .int (iv 8)) (C := RX4) (T := TX4) (N := 10) hx hb hts (fun _ h9 => List.mem_cons_of_mem _ (List.mem_append_right _ h9)) hown hK hP 7 rfl rfl 5 (by decide) (va_Nw.use rfl (hN.1 (RX2, 150, "BuoyTender$Ship", "end", "I", "BuoyTender") (by decide +kernel))) (fun _ h9 => h9) rfl dX2_findEarliestEnds_137 ?_
        refine lv_topi (fun z_9 ez_9 => ?_)
        obtain rfl : z_9 = nI lst := ez_9.trans h_ls
        refine lv_icmp_gt (tgt := 147) hx hb dX2_findEarliestEnds_140 (by decide) (fun c_10 => ?_) (fun c_10 => ?_)
        · refine lv_ldc (v := 1000000) hx hb hown (hts (.constant RX2 131 1000000) (by decide +kernel)) dX2_findEarliestEnds_147 ?_
          refine va_iast hx hb hK hP hD hS 6 0 rfl rfl (vp_in_nI (by omega) (by decide)) dX2_findEarliestEnds_149 (fun H locs hP hD hS => ?_)
          rw [nI_clamp (by omega)] at hP hD
          have hP : va_P D vwCl [(a 6, .inr (2, [.ref (a 16), .ref (a 17), .ref (a 18), .ref (a 19), .ref (a 20), .ref (a 21), .ref (a 22), .ref (a 23), .ref (a 24), .ref (a 25), .ref (a 26), .ref (a 27), .int (iv 20), .int (iv 21), .int (iv 22), .int (iv 23)])), (a 17, .inl (cI, 10, .inl (av 17))), (a 18, .inl (cI, 10, .inl (av 18))), (a 20, .inl (cI, 121, .inl (av 20))), (a 21, .inl (cI, 240, .inl (av 21))), (a 23, .inl (cI, 10240, .inl f23_8)), (a 24, .inl (cI, 1024, .inl (upd f24 k_ 1000000))), (a 5, .inr (4, [.ref (a 13), .ref (a 14), .int (iv 5), .int (iv 6), .int (iv 7), .int (iv 8), .int (iv 9), .int (iv 10), .int (iv 11), .int (iv 12)]))] H := hP
          have hD : va_D A [(a 6, .inr (2, [.ref (a 16), .ref (a 17), .ref (a 18), .ref (a 19), .ref (a 20), .ref (a 21), .ref (a 22), .ref (a 23), .ref (a 24), .ref (a 25), .ref (a 26), .ref (a 27), .int (iv 20), .int (iv 21), .int (iv 22), .int (iv 23)])), (a 17, .inl (cI, 10, .inl (av 17))), (a 18, .inl (cI, 10, .inl (av 18))), (a 20, .inl (cI, 121, .inl (av 20))), (a 21, .inl (cI, 240, .inl (av 21))), (a 23, .inl (cI, 10240, .inl f23_8)), (a 24, .inl (cI, 1024, .inl (upd f24 k_ 1000000))), (a 5, .inr (4, [.ref (a 13), .ref (a 14), .int (iv 5), .int (iv 6), .int (iv 7), .int (iv 8), .int (iv 9), .int (iv 10), .int (iv 11), .int (iv 12)]))] := hD
          refine lv_iinc (v := nI (k_ + 1)) (lv' := [(2, .int (nI (k_ + 1))), (3, .int (nI z_8)), (4, .int 0), (0, .ref (a 6)), (1, .ref (a 5))]) hx hb dX2_findEarliestEnds_150 hl (k := 2) rfl (nI_add k_ 1) (by decide) rfl (fun ls hl => ?_)
          refine lv_goto (tgt := 12) hx hb dX2_findEarliestEnds_153 (by decide) ?_
          exact ih (k_ + 1) f23_8 (upd f24 k_ 1000000) (by omega) (by omega) e_8_1 (bk_step hB rfl (by rw [if_neg (show ¬ z_8 ≤ lst by have := (nI_ltI (by omega) (by omega)).mp c_10; omega)] at hpb; exact hpb)) (by omega) _ _ _ hP hD hS (lv_sub hl [0, 3, 4] rfl) kk0
        refine lv_iload_n hx hb dX2_findEarliestEnds_143 rfl (lv_at hl 0 rfl) ?_
        refine lv_goto (tgt := 149) hx hb dX2_findEarliestEnds_144 (by decide) ?_
        refine va_iast hx hb hK hP hD hS 6 0 rfl rfl (vp_in_nI (by omega) (by decide)) dX2_findEarliestEnds_149 (fun H locs hP hD hS => ?_)
        rw [nI_clamp (by omega)] at hP hD
        have hP : va_P D vwCl [(a 6, .inr (2, [.ref (a 16), .ref (a 17), .ref (a 18), .ref (a 19), .ref (a 20), .ref (a 21), .ref (a 22), .ref (a 23), .ref (a 24), .ref (a 25), .ref (a 26), .ref (a 27), .int (iv 20), .int (iv 21), .int (iv 22), .int (iv 23)])), (a 17, .inl (cI, 10, .inl (av 17))), (a 18, .inl (cI, 10, .inl (av 18))), (a 20, .inl (cI, 121, .inl (av 20))), (a 21, .inl (cI, 240, .inl (av 21))), (a 23, .inl (cI, 10240, .inl f23_8)), (a 24, .inl (cI, 1024, .inl (upd f24 k_ (nI z_8)))), (a 5, .inr (4, [.ref (a 13), .ref (a 14), .int (iv 5), .int (iv 6), .int (iv 7), .int (iv 8), .int (iv 9), .int (iv 10), .int (iv 11), .int (iv 12)]))] H := hP
        have hD : va_D A [(a 6, .inr (2, [.ref (a 16), .ref (a 17), .ref (a 18), .ref (a 19), .ref (a 20), .ref (a 21), .ref (a 22), .ref (a 23), .ref (a 24), .ref (a 25), .ref (a 26), .ref (a 27), .int (iv 20), .int (iv 21), .int (iv 22), .int (iv 23)])), (a 17, .inl (cI, 10, .inl (av 17))), (a 18, .inl (cI, 10, .inl (av 18))), (a 20, .inl (cI, 121, .inl (av 20))), (a 21, .inl (cI, 240, .inl (av 21))), (a 23, .inl (cI, 10240, .inl f23_8)), (a 24, .inl (cI, 1024, .inl (upd f24 k_ (nI z_8)))), (a 5, .inr (4, [.ref (a 13), .ref (a 14), .int (iv 5), .int (iv 6), .int (iv 7), .int (iv 8), .int (iv 9), .int (iv 10), .int (iv 11), .int (iv 12)]))] := hD
        refine lv_iinc (v := nI (k_ + 1)) (lv' := [(2, .int (nI (k_ + 1))), (3, .int (nI z_8)), (4, .int 0), (0, .ref (a 6)), (1, .ref (a 5))]) hx hb dX2_findEarliestEnds_150 hl (k := 2) rfl (nI_add k_ 1) (by decide) rfl (fun ls hl => ?_)
        refine lv_goto (tgt := 12) hx hb dX2_findEarliestEnds_153 (by decide) ?_
        exact ih (k_ + 1) f23_8 (upd f24 k_ (nI z_8)) (by omega) (by omega) e_8_1 (bk_step hB rfl (by rw [if_pos (show z_8 ≤ lst from le_of_nlt c_10 (by omega))] at hpb; exact hpb)) (by omega) _ _ _ hP hD hS (lv_sub hl [0, 3, 4] rfl) kk0
      refine lv_iconst (v := 1) hx hb dX2_findEarliestEnds_41 (by decide) ?_
      refine lv_goto (tgt := 46) hx hb dX2_findEarliestEnds_42 (by decide) ?_
      refine lv_istore (lv' := [(4, .int 1), (3, .int 1000000), (2, .int (nI k_)), (0, .ref (a 6)), (1, .ref (a 5))]) hx hb dX2_findEarliestEnds_46 hl (by decide) rfl (fun ls hl => ?_)
      refine lv_iconst (v := 0) hx hb dX2_findEarliestEnds_48 (by decide) ?_
      refine lv_istore (lv' := [(5, .int 0), (4, .int 1), (3, .int 1000000), (2, .int (nI k_)), (0, .ref (a 6)), (1, .ref (a 5))]) hx hb dX2_findEarliestEnds_49 hl (by decide) rfl (fun ls hl => ?_)
      refine lp_X2_feeI1 hx hb hml hts hown hG hA h_c hcc hpt h_bg h_ls h_ca hbl hls hca hlt (show zsm ld k_ cc ≤ car from le_of_nlt c_7 (by omega)) (cc + 1) 0 1000000 f23 (Nat.zero_le _) pq_zero hE (fun j hj => absurd hj (Nat.not_lt_zero _)) (by omega) _ _ _ hP hD hS (lv_sub hl [0, 2, 1, 3, 4, 5] rfl) (fun z_11 f23_11 H locs ls e_11_0 e_11_1 hP hD hS hl => ?_)
      have bz := least_le e_11_0
      have hpb := pb_step (wh := whW wr) (show k_ ≠ 0 by omega) hlt hls e_11_0
      refine lv_aload_n hx hb dX2_findEarliestEnds_130 rfl (lv_at hl 3 rfl) ?_
      refine va_get (D := D) (ci := 2) (v := .ref (a 24)) (C := RX2) (T := TX2) (N := 16) hx hb hts (fun _ h9 => List.mem_cons_of_mem _ (List.mem_append_left _ (List.mem_append_right _ h9))) hown hK hP 0 rfl rfl 8 (by decide) (hts (.fieldLink RX2 36 "BuoyTender$Planner" "backs" "[I") (by decide +kernel)) (fun _ h9 => h9) rfl dX2_findEarliestEnds_131 ?_
      refine lv_iload_n hx hb dX2_findEarliestEnds_134 rfl (lv_at hl 2 rfl) ?_
      refine lv_iload_n hx hb dX2_findEarliestEnds_135 rfl (lv_at hl 0 rfl) ?_
      refine lv_aload_n hx hb dX2_findEarliestEnds_136 rfl (lv_at hl 4 rfl) ?_
      refine va_getN (D := D) (ci := 4) (v := .int (iv 8)) (C := RX4) (T := TX4) (N := 10) hx hb hts (fun _ h9 => List.mem_cons_of_mem _ (List.mem_append_right _ h9)) hown hK hP 7 rfl rfl 5 (by decide) (va_Nw.use rfl (hN.1 (RX2, 150, "BuoyTender$Ship", "end", "I", "BuoyTender") (by decide +kernel))) (fun _ h9 => h9) rfl dX2_findEarliestEnds_137 ?_
      refine lv_topi (fun z_12 ez_12 => ?_)
      obtain rfl : z_12 = nI lst := ez_12.trans h_ls
      refine lv_icmp_gt (tgt := 147) hx hb dX2_findEarliestEnds_140 (by decide) (fun c_13 => ?_) (fun c_13 => ?_)
      · refine lv_ldc (v := 1000000) hx hb hown (hts (.constant RX2 131 1000000) (by decide +kernel)) dX2_findEarliestEnds_147 ?_
        refine va_iast hx hb hK hP hD hS 6 0 rfl rfl (vp_in_nI (by omega) (by decide)) dX2_findEarliestEnds_149 (fun H locs hP hD hS => ?_)
        rw [nI_clamp (by omega)] at hP hD
        have hP : va_P D vwCl [(a 6, .inr (2, [.ref (a 16), .ref (a 17), .ref (a 18), .ref (a 19), .ref (a 20), .ref (a 21), .ref (a 22), .ref (a 23), .ref (a 24), .ref (a 25), .ref (a 26), .ref (a 27), .int (iv 20), .int (iv 21), .int (iv 22), .int (iv 23)])), (a 17, .inl (cI, 10, .inl (av 17))), (a 18, .inl (cI, 10, .inl (av 18))), (a 20, .inl (cI, 121, .inl (av 20))), (a 21, .inl (cI, 240, .inl (av 21))), (a 23, .inl (cI, 10240, .inl f23_11)), (a 24, .inl (cI, 1024, .inl (upd f24 k_ 1000000))), (a 5, .inr (4, [.ref (a 13), .ref (a 14), .int (iv 5), .int (iv 6), .int (iv 7), .int (iv 8), .int (iv 9), .int (iv 10), .int (iv 11), .int (iv 12)]))] H := hP
        have hD : va_D A [(a 6, .inr (2, [.ref (a 16), .ref (a 17), .ref (a 18), .ref (a 19), .ref (a 20), .ref (a 21), .ref (a 22), .ref (a 23), .ref (a 24), .ref (a 25), .ref (a 26), .ref (a 27), .int (iv 20), .int (iv 21), .int (iv 22), .int (iv 23)])), (a 17, .inl (cI, 10, .inl (av 17))), (a 18, .inl (cI, 10, .inl (av 18))), (a 20, .inl (cI, 121, .inl (av 20))), (a 21, .inl (cI, 240, .inl (av 21))), (a 23, .inl (cI, 10240, .inl f23_11)), (a 24, .inl (cI, 1024, .inl (upd f24 k_ 1000000))), (a 5, .inr (4, [.ref (a 13), .ref (a 14), .int (iv 5), .int (iv 6), .int (iv 7), .int (iv 8), .int (iv 9), .int (iv 10), .int (iv 11), .int (iv 12)]))] := hD
        refine lv_iinc (v := nI (k_ + 1)) (lv' := [(2, .int (nI (k_ + 1))), (3, .int (nI z_11)), (4, .int 1), (0, .ref (a 6)), (1, .ref (a 5))]) hx hb dX2_findEarliestEnds_150 hl (k := 2) rfl (nI_add k_ 1) (by decide) rfl (fun ls hl => ?_)
        refine lv_goto (tgt := 12) hx hb dX2_findEarliestEnds_153 (by decide) ?_
        exact ih (k_ + 1) f23_11 (upd f24 k_ 1000000) (by omega) (by omega) e_11_1 (bk_step hB rfl (by rw [if_neg (show ¬ z_11 ≤ lst by have := (nI_ltI (by omega) (by omega)).mp c_13; omega)] at hpb; exact hpb)) (by omega) _ _ _ hP hD hS (lv_sub hl [0, 3, 4] rfl) kk0
      refine lv_iload_n hx hb dX2_findEarliestEnds_143 rfl (lv_at hl 0 rfl) ?_
      refine lv_goto (tgt := 149) hx hb dX2_findEarliestEnds_144 (by decide) ?_
      refine va_iast hx hb hK hP hD hS 6 0 rfl rfl (vp_in_nI (by omega) (by decide)) dX2_findEarliestEnds_149 (fun H locs hP hD hS => ?_)
      rw [nI_clamp (by omega)] at hP hD
      have hP : va_P D vwCl [(a 6, .inr (2, [.ref (a 16), .ref (a 17), .ref (a 18), .ref (a 19), .ref (a 20), .ref (a 21), .ref (a 22), .ref (a 23), .ref (a 24), .ref (a 25), .ref (a 26), .ref (a 27), .int (iv 20), .int (iv 21), .int (iv 22), .int (iv 23)])), (a 17, .inl (cI, 10, .inl (av 17))), (a 18, .inl (cI, 10, .inl (av 18))), (a 20, .inl (cI, 121, .inl (av 20))), (a 21, .inl (cI, 240, .inl (av 21))), (a 23, .inl (cI, 10240, .inl f23_11)), (a 24, .inl (cI, 1024, .inl (upd f24 k_ (nI z_11)))), (a 5, .inr (4, [.ref (a 13), .ref (a 14), .int (iv 5), .int (iv 6), .int (iv 7), .int (iv 8), .int (iv 9), .int (iv 10), .int (iv 11), .int (iv 12)]))] H := hP
      have hD : va_D A [(a 6, .inr (2, [.ref (a 16), .ref (a 17), .ref (a 18), .ref (a 19), .ref (a 20), .ref (a 21), .ref (a 22), .ref (a 23), .ref (a 24), .ref (a 25), .ref (a 26), .ref (a 27), .int (iv 20), .int (iv 21), .int (iv 22), .int (iv 23)])), (a 17, .inl (cI, 10, .inl (av 17))), (a 18, .inl (cI, 10, .inl (av 18))), (a 20, .inl (cI, 121, .inl (av 20))), (a 21, .inl (cI, 240, .inl (av 21))), (a 23, .inl (cI, 10240, .inl f23_11)), (a 24, .inl (cI, 1024, .inl (upd f24 k_ (nI z_11)))), (a 5, .inr (4, [.ref (a 13), .ref (a 14), .int (iv 5), .int (iv 6), .int (iv 7), .int (iv 8), .int (iv 9), .int (iv 10), .int (iv 11), .int (iv 12)]))] := hD
      refine lv_iinc (v := nI (k_ + 1)) (lv' := [(2, .int (nI (k_ + 1))), (3, .int (nI z_11)), (4, .int 1), (0, .ref (a 6)), (1, .ref (a 5))]) hx hb dX2_findEarliestEnds_150 hl (k := 2) rfl (nI_add k_ 1) (by decide) rfl (fun ls hl => ?_)
      refine lv_goto (tgt := 12) hx hb dX2_findEarliestEnds_153 (by decide) ?_
      exact ih (k_ + 1) f23_11 (upd f24 k_ (nI z_11)) (by omega) (by omega) e_11_1 (bk_step hB rfl (by rw [if_pos (show z_11 ≤ lst from le_of_nlt c_13 (by omega))] at hpb; exact hpb)) (by omega) _ _ _ hP hD hS (lv_sub hl [0, 3, 4] rfl) kk0
    · refine lv_iload_n hx hb dX2_findEarliestEnds_12 rfl (lv_at hl 0 rfl) ?_
      refine lv_iconst (v := 1) hx hb dX2_findEarliestEnds_13 (by decide) ?_
      refine lv_aload_n hx hb dX2_findEarliestEnds_14 rfl (lv_at hl 1 rfl) ?_
      refine va_get (D := D) (ci := 2) (v := .int (iv 20)) (C := RX2) (T := TX2) (N := 16) hx hb hts (fun _ h9 => List.mem_cons_of_mem _ (List.mem_append_left _ (List.mem_append_right _ h9))) hown hK hP 0 rfl rfl 12 (by decide) (hts (.fieldLink RX2 76 "BuoyTender$Planner" "count" "I") (by decide +kernel)) (fun _ h9 => h9) rfl dX2_findEarliestEnds_15 ?_
      refine lv_topi (fun z_14 ez_14 => ?_)
      obtain rfl : z_14 = nI cc := ez_14.trans h_c
      refine lv_ishl hx hb dX2_findEarliestEnds_18 ?_
      refine lv_topi (fun z_15 ez_15 => ?_)
      obtain rfl : z_15 = nI (2 ^ cc) := ez_15.trans (nx_shl1 (by omega))
      refine lv_icmp_ge (tgt := 156) hx hb dX2_findEarliestEnds_19 (by decide) (fun c_16 => ?_) (fun c_16 => absurd (nI_le hge (by omega)) c_16)
      exact kk0 f23 f24 _ _ _ (by have e9 : k_ = 2 ^ cc := (by omega); rw [e9] at hB; exact hB) hP hD hS (lv_sub hl [1, 2] rfl)
set_option maxHeartbeats 4000000 in
set_option maxRecDepth 100000 in
/-- X2_findEarliestEnds -/
theorem k_X2_findEarliestEnds (l : Launch) (D : va_G) (cI cJ cZ cM : Nat) (a : Nat → Nat) (iv : Nat → Int32) (av : Nat → Nat → Int32) (cc : Nat) (h_c : iv 20 = nI cc) (hcc : cc ≤ 10) (mn : Nat → Nat) (ld : Nat → Nat) (wg : Nat → Nat) (wr : Nat → Nat → Nat) (op : Nat → Nat → Prop) (hpt : PT cc av mn ld wg wr op) (bg : Nat) (lst : Nat) (car : Nat) (h_bg : iv 7 = nI bg) (h_ls : iv 8 = nI lst) (h_ca : iv 12 = nI car) (hbl : bg ≤ lst) (hls : lst ≤ 1440) (hca : car ≤ 10000) (sz : Nat) : Met l yX2_findEarliestEnds wsX2_findEarliestEnds ({ frames := 2, cells := 0, slots := 0, locals := 66 } : Room) (RW D cI cJ cZ cM [.ref (a 6), .ref (a 5)] [(a 6, .inr (2, [.ref (a 16), .ref (a 17), .ref (a 18), .ref (a 19), .ref (a 20), .ref (a 21), .ref (a 22), .ref (a 23), .ref (a 24), .ref (a 25), .ref (a 26), .ref (a 27), .int (iv 20), .int (iv 21), .int (iv 22), .int (iv 23)])), (a 17, .inl (cI, 10, .inl (av 17))), (a 18, .inl (cI, 10, .inl (av 18))), (a 20, .inl (cI, 121, .inl (av 20))), (a 21, .inl (cI, 240, .inl (av 21))), (a 23, .inl (cI, 10240, .inl (av 23))), (a 24, .inl (cI, 1024, .inl (av 24))), (a 5, .inr (4, [.ref (a 13), .ref (a 14), .int (iv 5), .int (iv 6), .int (iv 7), .int (iv 8), .int (iv 9), .int (iv 10), .int (iv 11), .int (iv 12)]))] sz) (va_Qv (S := (Nat → Int32) × (Nat → Int32)) (fun u => zBK (zPB op (wyW wr) (whW wr) mn (zLd cc ld car) bg lst) (2 ^ cc) u.2) (BB D (fun u => [(a 6, .inr (2, [.ref (a 16), .ref (a 17), .ref (a 18), .ref (a 19), .ref (a 20), .ref (a 21), .ref (a 22), .ref (a 23), .ref (a 24), .ref (a 25), .ref (a 26), .ref (a 27), .int (iv 20), .int (iv 21), .int (iv 22), .int (iv 23)])), (a 17, .inl (cI, 10, .inl (av 17))), (a 18, .inl (cI, 10, .inl (av 18))), (a 20, .inl (cI, 121, .inl (av 20))), (a 21, .inl (cI, 240, .inl (av 21))), (a 23, .inl (cI, 10240, .inl u.1)), (a 24, .inl (cI, 1024, .inl u.2)), (a 5, .inr (4, [.ref (a 13), .ref (a 14), .int (iv 5), .int (iv 6), .int (iv 7), .int (iv 8), .int (iv 9), .int (iv 10), .int (iv 11), .int (iv 12)]))]) (va_A [(a 6, .inr (2, [.ref (a 16), .ref (a 17), .ref (a 18), .ref (a 19), .ref (a 20), .ref (a 21), .ref (a 22), .ref (a 23), .ref (a 24), .ref (a 25), .ref (a 26), .ref (a 27), .int (iv 20), .int (iv 21), .int (iv 22), .int (iv 23)])), (a 17, .inl (cI, 10, .inl (av 17))), (a 18, .inl (cI, 10, .inl (av 18))), (a 20, .inl (cI, 121, .inl (av 20))), (a 21, .inl (cI, 240, .inl (av 21))), (a 23, .inl (cI, 10240, .inl (av 23))), (a 24, .inl (cI, 1024, .inl (av 24))), (a 5, .inr (4, [.ref (a 13), .ref (a 14), .int (iv 5), .int (iv 6), .int (iv 7), .int (iv 8), .int (iv 9), .int (iv 10), .int (iv 11), .int (iv 12)]))] sz)) (va_A [(a 6, .inr (2, [.ref (a 16), .ref (a 17), .ref (a 18), .ref (a 19), .ref (a 20), .ref (a 21), .ref (a 22), .ref (a 23), .ref (a 24), .ref (a 25), .ref (a 26), .ref (a 27), .int (iv 20), .int (iv 21), .int (iv 22), .int (iv 23)])), (a 17, .inl (cI, 10, .inl (av 17))), (a 18, .inl (cI, 10, .inl (av 18))), (a 20, .inl (cI, 121, .inl (av 20))), (a 21, .inl (cI, 240, .inl (av 21))), (a 23, .inl (cI, 10240, .inl (av 23))), (a 24, .inl (cI, 1024, .inl (av 24))), (a 5, .inr (4, [.ref (a 13), .ref (a 14), .int (iv 5), .int (iv 6), .int (iv 7), .int (iv 8), .int (iv 9), .int (iv 10), .int (iv 11), .int (iv 12)]))] sz)) 0 0 (va_A [(a 6, .inr (2, [.ref (a 16), .ref (a 17), .ref (a 18), .ref (a 19), .ref (a 20), .ref (a 21), .ref (a 22), .ref (a 23), .ref (a 24), .ref (a 25), .ref (a 26), .ref (a 27), .int (iv 20), .int (iv 21), .int (iv 22), .int (iv 23)])), (a 17, .inl (cI, 10, .inl (av 17))), (a 18, .inl (cI, 10, .inl (av 18))), (a 20, .inl (cI, 121, .inl (av 20))), (a 21, .inl (cI, 240, .inl (av 21))), (a 23, .inl (cI, 10240, .inl (av 23))), (a 24, .inl (cI, 1024, .inl (av 24))), (a 5, .inr (4, [.ref (a 13), .ref (a 14), .int (iv 5), .int (iv 6), .int (iv 7), .int (iv 8), .int (iv 9), .int (iv 10), .int (iv 11), .int (iv 12)]))] sz) := by
  refine Met.ofW (cc := cX2_findEarliestEnds) (maxL := 7) (ret := none) (by decide) rfl ?_
  intro p e s m args below meth c s₁ B hml hv
  obtain ⟨rfl, hsz, hG, hP, hD0⟩ := hv
  have hx := B.exec
  have hb := B.bytes
  have hr := B.returns
  have hts := atoms_spec (ws := wsX2_findEarliestEnds) B.pre
  have hown : s.vm.findClass RX2 = some m.cls := findClass_of_methodNamed B.named
  have hlocks := B.notSynchronized
  have hK := hG.1
  have hN := hG.2
  subst hsz
  have hD := hD0.self (sz := s.heap.size)
  generalize hAe : va_A [(a 6, .inr (2, [.ref (a 16), .ref (a 17), .ref (a 18), .ref (a 19), .ref (a 20), .ref (a 21), .ref (a 22), .ref (a 23), .ref (a 24), .ref (a 25), .ref (a 26), .ref (a 27), .int (iv 20), .int (iv 21), .int (iv 22), .int (iv 23)])), (a 17, .inl (cI, 10, .inl (av 17))), (a 18, .inl (cI, 10, .inl (av 18))), (a 20, .inl (cI, 121, .inl (av 20))), (a 21, .inl (cI, 240, .inl (av 21))), (a 23, .inl (cI, 10240, .inl (av 23))), (a 24, .inl (cI, 1024, .inl (av 24))), (a 5, .inr (4, [.ref (a 13), .ref (a 14), .int (iv 5), .int (iv 6), .int (iv 7), .int (iv 8), .int (iv 9), .int (iv 10), .int (iv 11), .int (iv 12)]))] s.heap.size = A at hD ⊢
  have hA : ∀ q : Nat, s.heap.size ≤ q → A q := fun q h => by rw [← hAe]; exact Or.inr h
  have hS : va_S A s.heap s.heap [] := va_S.rf
  have hP : va_P D vwCl [(a 6, .inr (2, [.ref (a 16), .ref (a 17), .ref (a 18), .ref (a 19), .ref (a 20), .ref (a 21), .ref (a 22), .ref (a 23), .ref (a 24), .ref (a 25), .ref (a 26), .ref (a 27), .int (iv 20), .int (iv 21), .int (iv 22), .int (iv 23)])), (a 17, .inl (cI, 10, .inl (av 17))), (a 18, .inl (cI, 10, .inl (av 18))), (a 20, .inl (cI, 121, .inl (av 20))), (a 21, .inl (cI, 240, .inl (av 21))), (a 23, .inl (cI, 10240, .inl (av 23))), (a 24, .inl (cI, 1024, .inl (av 24))), (a 5, .inr (4, [.ref (a 13), .ref (a 14), .int (iv 5), .int (iv 6), .int (iv 7), .int (iv 8), .int (iv 9), .int (iv 10), .int (iv 11), .int (iv 12)]))] s.heap := hP
  have hl := lv_entry ([.ref (a 6), .ref (a 5)]) (n := 7) (Nat.le_of_ble_eq_true rfl)
  rw [lg_entry_eq]
  generalize (lg_sl ([.ref (a 6), .ref (a 5)]) ++ List.replicate (7 - (lg_sl ([.ref (a 6), .ref (a 5)])).length) Slot.unset).toArray = ls at hl ⊢
  have hl : lv_has ls 7 [(0, .ref (a 6)), (1, .ref (a 5))] := hl
  have hpos : 0 < 2 ^ cc := Nat.pow_pos (by decide)
  refine lv_aload_n hx hb dX2_findEarliestEnds_0 rfl (lv_at hl 0 rfl) ?_
  refine va_get (D := D) (ci := 2) (v := .ref (a 24)) (C := RX2) (T := TX2) (N := 16) hx hb hts (fun _ h9 => List.mem_cons_of_mem _ (List.mem_append_left _ (List.mem_append_right _ h9))) hown hK hP 0 rfl rfl 8 (by decide) (hts (.fieldLink RX2 36 "BuoyTender$Planner" "backs" "[I") (by decide +kernel)) (fun _ h9 => h9) rfl dX2_findEarliestEnds_1 ?_
  refine lv_iconst (v := 0) hx hb dX2_findEarliestEnds_4 (by decide) ?_
  refine lv_aload_n hx hb dX2_findEarliestEnds_5 rfl (lv_at hl 1 rfl) ?_
  refine va_getN (D := D) (ci := 4) (v := .int (iv 7)) (C := RX4) (T := TX4) (N := 10) hx hb hts (fun _ h9 => List.mem_cons_of_mem _ (List.mem_append_right _ h9)) hown hK hP 7 rfl rfl 4 (by decide) (va_Nw.use rfl (hN.1 (RX2, 136, "BuoyTender$Ship", "minute", "I", "BuoyTender") (by decide +kernel))) (fun _ h9 => h9) rfl dX2_findEarliestEnds_6 ?_
  refine lv_topi (fun z_1 ez_1 => ?_)
  obtain rfl : z_1 = nI bg := ez_1.trans h_bg
  refine va_iast hx hb hK hP hD hS 6 0 rfl rfl (vp_in_nI (n := 0) (N := 1024) (by decide) (by decide)) dX2_findEarliestEnds_9 (fun H locs hP hD hS => ?_)
  have hP : va_P D vwCl [(a 6, .inr (2, [.ref (a 16), .ref (a 17), .ref (a 18), .ref (a 19), .ref (a 20), .ref (a 21), .ref (a 22), .ref (a 23), .ref (a 24), .ref (a 25), .ref (a 26), .ref (a 27), .int (iv 20), .int (iv 21), .int (iv 22), .int (iv 23)])), (a 17, .inl (cI, 10, .inl (av 17))), (a 18, .inl (cI, 10, .inl (av 18))), (a 20, .inl (cI, 121, .inl (av 20))), (a 21, .inl (cI, 240, .inl (av 21))), (a 23, .inl (cI, 10240, .inl (av 23))), (a 24, .inl (cI, 1024, .inl (upd (av 24) (0 : Int32).toNatClampNeg (nI bg)))), (a 5, .inr (4, [.ref (a 13), .ref (a 14), .int (iv 5), .int (iv 6), .int (iv 7), .int (iv 8), .int (iv 9), .int (iv 10), .int (iv 11), .int (iv 12)]))] H := hP
  have hD : va_D A [(a 6, .inr (2, [.ref (a 16), .ref (a 17), .ref (a 18), .ref (a 19), .ref (a 20), .ref (a 21), .ref (a 22), .ref (a 23), .ref (a 24), .ref (a 25), .ref (a 26), .ref (a 27), .int (iv 20), .int (iv 21), .int (iv 22), .int (iv 23)])), (a 17, .inl (cI, 10, .inl (av 17))), (a 18, .inl (cI, 10, .inl (av 18))), (a 20, .inl (cI, 121, .inl (av 20))), (a 21, .inl (cI, 240, .inl (av 21))), (a 23, .inl (cI, 10240, .inl (av 23))), (a 24, .inl (cI, 1024, .inl (upd (av 24) (0 : Int32).toNatClampNeg (nI bg)))), (a 5, .inr (4, [.ref (a 13), .ref (a 14), .int (iv 5), .int (iv 6), .int (iv 7), .int (iv 8), .int (iv 9), .int (iv 10), .int (iv 11), .int (iv 12)]))] := hD
  refine lv_iconst (v := 1) hx hb dX2_findEarliestEnds_10 (by decide) ?_
  refine lv_istore_n (lv' := [(2, .int 1), (0, .ref (a 6)), (1, .ref (a 5))]) hx hb dX2_findEarliestEnds_11 rfl hl (by decide) rfl (fun ls hl => ?_)
  refine lp_X2_feeO hx hb hml hts hown hG hA h_c hcc hpt h_bg h_ls h_ca hbl hls hca ((2 ^ cc) + 1) 1 (av 23) (upd (av 24) (0 : Int32).toNatClampNeg (nI bg)) hpos (Nat.le_refl _) (fun S a b => absurd b (by omega)) (bk_one hbl hls) (by omega) _ _ _ hP hD hS (lv_sub hl [0, 1, 2] rfl) (fun f23_3 f24_3 H locs ls e_3_0 hP hD hS hl => ?_)
  have hP9 := hP.sub (ws' := [(a 6, .inr (2, [.ref (a 16), .ref (a 17), .ref (a 18), .ref (a 19), .ref (a 20), .ref (a 21), .ref (a 22), .ref (a 23), .ref (a 24), .ref (a 25), .ref (a 26), .ref (a 27), .int (iv 20), .int (iv 21), .int (iv 22), .int (iv 23)])), (a 17, .inl (cI, 10, .inl (av 17))), (a 18, .inl (cI, 10, .inl (av 18))), (a 20, .inl (cI, 121, .inl (av 20))), (a 21, .inl (cI, 240, .inl (av 21))), (a 23, .inl (cI, 10240, .inl f23_3)), (a 24, .inl (cI, 1024, .inl f24_3)), (a 5, .inr (4, [.ref (a 13), .ref (a 14), .int (iv 5), .int (iv 6), .int (iv 7), .int (iv 8), .int (iv 9), .int (iv 10), .int (iv 11), .int (iv 12)]))]) [0, 1, 2, 3, 4, 5, 6, 7] rfl
  have hD9 := hD.sub (ws' := [(a 6, .inr (2, [.ref (a 16), .ref (a 17), .ref (a 18), .ref (a 19), .ref (a 20), .ref (a 21), .ref (a 22), .ref (a 23), .ref (a 24), .ref (a 25), .ref (a 26), .ref (a 27), .int (iv 20), .int (iv 21), .int (iv 22), .int (iv 23)])), (a 17, .inl (cI, 10, .inl (av 17))), (a 18, .inl (cI, 10, .inl (av 18))), (a 20, .inl (cI, 121, .inl (av 20))), (a 21, .inl (cI, 240, .inl (av 21))), (a 23, .inl (cI, 10240, .inl f23_3)), (a 24, .inl (cI, 1024, .inl f24_3)), (a 5, .inr (4, [.ref (a 13), .ref (a 14), .int (iv 5), .int (iv 6), .int (iv 7), .int (iv 8), .int (iv 9), .int (iv 10), .int (iv 11), .int (iv 12)]))]) [0, 1, 2, 3, 4, 5, 6, 7] (by decide) rfl
  exact W.vret hx hb hr (fun t ht hW => ⟨⟨(f23_3, f24_3), rfl, e_3_0, ⟨by rw [ht]; exact hP9, hD9⟩⟩, hS.F ht⟩) hS.2.2 dX2_findEarliestEnds_156
