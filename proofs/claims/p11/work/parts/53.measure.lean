section MYQ
variable {p : Program} {l : Launch} {e : Env} {R : Room} {s : State} {m : MethodId} {args : Array Value} {below : List Frame} {meth : Method} {c : Code} {H : Heap} {locs : List Loc} {cells slots : Nat} {Q : State → Prop} {cc : ByteArray} {pc : Nat} {ls : Array Slot} {rest : List Value}
theorem my_aloadq (hexec : p.tables.exec = Jvm.exec) (hb : c.code = cc) {i : Nat} {o : Option Nat} (hdg : decode cc pc = .ok (.aload i, 2)) (hl : ls[i]? = some (.val (va_rf o)))
    (k : W p l e R s m args below meth c H locs cells slots Q (F0 m (pc + 2) ls (va_rf o :: rest))) : W p l e R s m args below meth c H locs cells slots Q (F0 m pc ls (rest)) := by
  cases o with
  | none => exact lv_aloadN hexec hb hdg hl k
  | some x => exact lv_aload hexec hb hdg hl k
theorem my_aloadq_n (hexec : p.tables.exec = Jvm.exec) (hb : c.code = cc) {k : Fin 4} {i : Nat} {o : Option Nat} (hdg : decode cc pc = .ok (.aload_n k, 1)) (hi : (k : Nat) = i) (hl : ls[i]? = some (.val (va_rf o)))
    (k : W p l e R s m args below meth c H locs cells slots Q (F0 m (pc + 1) ls (va_rf o :: rest))) : W p l e R s m args below meth c H locs cells slots Q (F0 m pc ls (rest)) := by
  cases o with
  | none => exact lv_aload_nN hexec hb hdg hi hl k
  | some x => exact lv_aload_n hexec hb hdg hi hl k
theorem my_astoreq (hexec : p.tables.exec = Jvm.exec) (hb : c.code = cc) {i nL : Nat} {o : Option Nat} {lv lv' : List (Nat × Value)} (hdg : decode cc pc = .ok (.astore i, 2)) (h : lv_has ls nL lv) (hn : i < nL) (hl : (i, va_rf o) :: lv.filter (fun q => !(q.1 == i) && !(q.1 + 1 == i && q.2.category == 2)) = lv')
    (kk : ∀ ls' : Array Slot, lv_has ls' nL lv' → W p l e R s m args below meth c H locs cells slots Q (F0 m (pc + 2) ls' rest)) : W p l e R s m args below meth c H locs cells slots Q (F0 m pc ls (va_rf o :: rest)) := by
  cases o with
  | none => exact lv_astoreN hexec hb hdg h hn hl kk
  | some x => exact lv_astore hexec hb hdg h hn hl kk
theorem my_astoreq_n (hexec : p.tables.exec = Jvm.exec) (hb : c.code = cc) {k : Fin 4} {i nL : Nat} {o : Option Nat} {lv lv' : List (Nat × Value)} (hdg : decode cc pc = .ok (.astore_n k, 1)) (hi : (k : Nat) = i) (h : lv_has ls nL lv) (hn : i < nL) (hl : (i, va_rf o) :: lv.filter (fun q => !(q.1 == i) && !(q.1 + 1 == i && q.2.category == 2)) = lv')
    (kk : ∀ ls' : Array Slot, lv_has ls' nL lv' → W p l e R s m args below meth c H locs cells slots Q (F0 m (pc + 1) ls' rest)) : W p l e R s m args below meth c H locs cells slots Q (F0 m pc ls (va_rf o :: rest)) := by
  cases o with
  | none => exact lv_astore_nN hexec hb hdg hi h hn hl kk
  | some x => exact lv_astore_n hexec hb hdg hi h hn hl kk
end MYQ
theorem num_nle {x : Int32} {N : Nat} (hN : N < 2 ^ 31) (h1 : ¬ x < 0) (h2 : ¬ nI N ≤ x) : ∃ t, t < N ∧ x = nI t := by
  obtain ⟨j, hj, rfl⟩ := nI_of h1
  exact ⟨j, Nat.lt_of_not_le (fun q => h2 (nI_le q hj)), rfl⟩
theorem mk_or {n0 i : Nat} {ma : Nat → Nat → Nat} {fM : Nat → Option Nat} (hn0 : n0 ≤ 10) (hfM : ∀ i, i < 10 → (i < n0 → fM i = some (ma i 0)) ∧ (n0 ≤ i → fM i = none)) (hi : i < 10) : fM i = none ∨ ∃ k, k < n0 ∧ fM i = some (ma k 0) := by
  by_cases h : i < n0
  · exact Or.inr ⟨i, h, (hfM i hi).1 h⟩
  · exact Or.inl ((hfM i hi).2 (Nat.le_of_not_lt h))
set_option maxHeartbeats 4000000 in
set_option maxRecDepth 100000 in
/-- the mark of a job -/
theorem k_X2_markOfJob (l : Launch) (D : va_G) (cI cJ cZ cM : Nat) (a : Nat → Nat) (iv : Nat → Int32) (av : Nat → Nat → Int32) (ma : Nat → Nat → Nat) (mv : Nat → Nat → Int32) (mso : Nat → Nat → Int64) (mrs : Nat → Nat → Int32) (n0 : Nat) (fM : Nat → Option Nat) (hn0 : n0 ≤ 10) (hfM : ∀ i, i < 10 → (i < n0 → fM i = some (ma i 0)) ∧ (n0 ≤ i → fM i = none)) (j : Nat) (hj : j < 10) : Met l yX2_markOfJob wsX2_markOfJob ({ frames := 0, cells := 0, slots := 0, locals := 0 } : Room) (RO D cI cJ cZ cM [.ref (a 6), .ref (a 2), .int (nI j)] [(a 6, .inr (2, [.ref (a 16), .ref (a 17), .ref (a 18), .ref (a 19), .ref (a 20), .ref (a 21), .ref (a 22), .ref (a 23), .ref (a 24), .ref (a 25), .ref (a 26), .ref (a 27), .int (iv 20), .int (iv 21), .int (iv 22), .int (iv 23)])), (a 16, .inl (cI, 10, .inl (av 16))), (a 2, .inl (cM, 10, .inr (.inr (.inr (.inr fM)))))]) (va_Sq (fun r => r = none ∨ ∃ i, i < n0 ∧ r = some (ma i 0))) 0 0 (fun _ => False) := by
  refine Met.ofW (cc := cX2_markOfJob) (maxL := 4) (ret := (some (.object "BuoyTender$Mark"))) (by decide) rfl ?_
  intro p e s m args below meth c s₁ B hml hv
  obtain ⟨rfl, hG, hP⟩ := hv
  have hx := B.exec
  have hb := B.bytes
  have hr := B.returns
  have hts := atoms_spec (ws := wsX2_markOfJob) B.pre
  have hown : s.vm.findClass RX2 = some m.cls := findClass_of_methodNamed B.named
  have hlocks := B.notSynchronized
  have hK := hG.1
  have hN := hG.2
  have hl := lv_entry ([.ref (a 6), .ref (a 2), .int (nI j)]) (n := 4) (Nat.le_of_ble_eq_true rfl)
  rw [lg_entry_eq]
  generalize (lg_sl ([.ref (a 6), .ref (a 2), .int (nI j)]) ++ List.replicate (4 - (lg_sl ([.ref (a 6), .ref (a 2), .int (nI j)])).length) Slot.unset).toArray = ls at hl ⊢
  have hl : lv_has ls 4 [(0, .ref (a 6)), (1, .ref (a 2)), (2, .int (nI j))] := hl
  refine lv_aload_n hx hb dX2_markOfJob_0 rfl (lv_at hl 0 rfl) ?_
  refine va_get (D := D) (ci := 2) (v := .ref (a 16)) (C := RX2) (T := TX2) (N := 16) hx hb hts (fun _ h9 => List.mem_cons_of_mem _ (List.mem_append_right _ h9)) hown hK hP 0 rfl rfl 0 (by decide) (hts (.fieldLink RX2 9 "BuoyTender$Planner" "numbers" "[I") (by decide +kernel)) (fun _ h9 => h9) rfl dX2_markOfJob_1 ?_
  refine lv_iload_n hx hb dX2_markOfJob_4 rfl (lv_at hl 2 rfl) ?_
  refine va_iald hx hb hK hP 1 0 rfl rfl (vp_in_nI (by omega) (by decide)) dX2_markOfJob_5 ?_
  refine lv_topi (fun z_1 ez_1 => ?_)
  obtain rfl : z_1 = (av 16) j := ez_1.trans (congrArg (av 16) (nI_clamp (by omega)))
  refine lv_istore_n (lv' := [(3, .int ((av 16) j)), (0, .ref (a 6)), (1, .ref (a 2)), (2, .int (nI j))]) hx hb dX2_markOfJob_6 rfl hl (by decide) rfl (fun ls hl => ?_)
  refine lv_iload_n hx hb dX2_markOfJob_7 rfl (lv_at hl 0 rfl) ?_
  refine lv_if_lt (tgt := 23) hx hb dX2_markOfJob_8 (by decide) (fun c_2 => ?_) (fun c_2 => ?_)
  · refine lv_null hx hb dX2_markOfJob_23 ?_
    exact W.aret hx hb hr (Or.inl ⟨_, rfl⟩) (Or.inl rfl) (fun t ht hW => ⟨none, rfl, (Or.inl rfl), ht⟩) (fun _ h => by cases h) dX2_markOfJob_24
  refine lv_iload_n hx hb dX2_markOfJob_11 rfl (lv_at hl 0 rfl) ?_
  refine lv_aload_n hx hb dX2_markOfJob_12 rfl (lv_at hl 2 rfl) ?_
  refine va_alen (v := 10) hx hb hK hP 2 3 rfl rfl rfl dX2_markOfJob_13 ?_
  refine lv_icmp_ge (tgt := 23) hx hb dX2_markOfJob_14 (by decide) (fun c_3 => ?_) (fun c_3 => ?_)
  · refine lv_null hx hb dX2_markOfJob_23 ?_
    exact W.aret hx hb hr (Or.inl ⟨_, rfl⟩) (Or.inl rfl) (fun t ht hW => ⟨none, rfl, (Or.inl rfl), ht⟩) (fun _ h => by cases h) dX2_markOfJob_24
  obtain ⟨i9, hi9, e9⟩ := num_nle (N := 10) (by decide) c_2 c_3
  rw [e9] at hl
  have hl : lv_has ls 4 [(3, .int (nI i9)), (0, .ref (a 6)), (1, .ref (a 2)), (2, .int (nI j))] := hl
  refine lv_aload_n hx hb dX2_markOfJob_17 rfl (lv_at hl 2 rfl) ?_
  refine lv_iload_n hx hb dX2_markOfJob_18 rfl (lv_at hl 0 rfl) ?_
  refine va_aldq hx hb hK hP 2 3 rfl rfl (vp_in_nI (by omega) (by decide)) dX2_markOfJob_19 ?_
  refine W.eq (g2 := F0 m 20 ls [va_rf (fM i9)]) (by rw [nI_clamp (by omega)]) ?_
  refine lv_goto (tgt := 24) hx hb dX2_markOfJob_20 (by decide) ?_
  exact W.aret hx hb hr (Or.inl ⟨_, rfl⟩) (va_rf_or _) (fun t ht hW => ⟨fM i9, rfl, (mk_or hn0 hfM hi9), ht⟩) (fun _ h => by cases h) dX2_markOfJob_24
set_option maxHeartbeats 4000000 in
set_option maxRecDepth 100000 in
/-- X2_way -/
theorem k_X2_way (l : Launch) (D : va_G) (cI cJ cZ cM : Nat) (a : Nat → Nat) (iv : Nat → Int32) (av : Nat → Nat → Int32) (ma : Nat → Nat → Nat) (mv : Nat → Nat → Int32) (mso : Nat → Nat → Int64) (mrs : Nat → Nat → Int32) (n0 : Nat) (fM : Nat → Option Nat) (m_ : Nat) (hm_ : m_ < n0) (x1 : Int32) (x2 : Int32) : Met l yX2_way wsX2_way ({ frames := 1, cells := 0, slots := 0, locals := 40 } : Room) (RO D cI cJ cZ cM [.ref (ma m_ 0), .int x1, .int x2, .ref (a 5)] ([(a 5, .inr (4, [.ref (a 13), .ref (a 14), .int (iv 5), .int (iv 6), .int (iv 7), .int (iv 8), .int (iv 9), .int (iv 10), .int (iv 11), .int (iv 12)]))] ++ MG cI cJ ma mv mso mrs n0)) (vp_Si (fun r => True)) 0 0 (fun _ => False) := by
  refine Met.ofW (cc := cX2_way) (maxL := 4) (ret := (some .int)) (by decide) rfl ?_
  intro p e s m args below meth c s₁ B hml hv
  obtain ⟨rfl, hG, hP⟩ := hv
  have hx := B.exec
  have hb := B.bytes
  have hr := B.returns
  have hts := atoms_spec (ws := wsX2_way) B.pre
  have hown : s.vm.findClass RX2 = some m.cls := findClass_of_methodNamed B.named
  have hlocks := B.notSynchronized
  have hK := hG.1
  have hN := hG.2
  have hl := lv_entry ([.ref (ma m_ 0), .int x1, .int x2, .ref (a 5)]) (n := 4) (Nat.le_of_ble_eq_true rfl)
  rw [lg_entry_eq]
  generalize (lg_sl ([.ref (ma m_ 0), .int x1, .int x2, .ref (a 5)]) ++ List.replicate (4 - (lg_sl ([.ref (ma m_ 0), .int x1, .int x2, .ref (a 5)])).length) Slot.unset).toArray = ls at hl ⊢
  have hl : lv_has ls 4 [(0, .ref (ma m_ 0)), (1, .int x1), (2, .int x2), (3, .ref (a 5))] := hl
  refine lv_aload_n hx hb dX2_way_0 rfl (lv_at hl 0 rfl) ?_
  refine va_getN (D := D) (ci := 1) (v := .int (mv m_ 0)) (C := RX1) (T := TX1) (N := 9) hx hb hts (fun _ h9 => List.mem_cons_of_mem _ (List.mem_append_left _ (List.mem_append_right _ h9))) hown hK hP (1 + (6 * m_ + 0)) (mg_x0 rfl hm_) rfl 0 (by decide) (va_Nw.use rfl (hN.1 (RX2, 92, "BuoyTender$Mark", "x", "I", "BuoyTender") (by decide +kernel))) (fun _ h9 => h9) rfl dX2_way_1 ?_
  refine lv_iload_n hx hb dX2_way_4 rfl (lv_at hl 1 rfl) ?_
  refine lv_isub hx hb dX2_way_5 ?_
  refine va_mabs hx hb (hml.trans hl.1.symm) hown (hts (.methodLink RX2 115 Lib.Math.abs.name) (by decide +kernel)) (hts (.static Lib.Math.abs.name) (by decide +kernel)) (hts (.initialized "java/lang/Math") (by decide +kernel)) (hts (.code Lib.Math.abs.name Lib.Math.abs.code 1 (some .int)) (by decide +kernel)) (Nat.le_of_ble_eq_true rfl) (Nat.le_of_ble_eq_true rfl) (Nat.le_of_ble_eq_true rfl) (Nat.le_of_ble_eq_true rfl) dX2_way_6 ?_
  refine lv_topi (fun z_1 ez_1 => ?_)
  refine lv_aload_n hx hb dX2_way_9 rfl (lv_at hl 0 rfl) ?_
  refine va_getN (D := D) (ci := 1) (v := .int (mv m_ 1)) (C := RX1) (T := TX1) (N := 9) hx hb hts (fun _ h9 => List.mem_cons_of_mem _ (List.mem_append_left _ (List.mem_append_right _ h9))) hown hK hP (1 + (6 * m_ + 0)) (mg_x0 rfl hm_) rfl 1 (by decide) (va_Nw.use rfl (hN.1 (RX2, 89, "BuoyTender$Mark", "y", "I", "BuoyTender") (by decide +kernel))) (fun _ h9 => h9) rfl dX2_way_10 ?_
  refine lv_iload_n hx hb dX2_way_13 rfl (lv_at hl 2 rfl) ?_
  refine lv_isub hx hb dX2_way_14 ?_
  refine va_mabs hx hb (hml.trans hl.1.symm) hown (hts (.methodLink RX2 115 Lib.Math.abs.name) (by decide +kernel)) (hts (.static Lib.Math.abs.name) (by decide +kernel)) (hts (.initialized "java/lang/Math") (by decide +kernel)) (hts (.code Lib.Math.abs.name Lib.Math.abs.code 1 (some .int)) (by decide +kernel)) (Nat.le_of_ble_eq_true rfl) (Nat.le_of_ble_eq_true rfl) (Nat.le_of_ble_eq_true rfl) (Nat.le_of_ble_eq_true rfl) dX2_way_15 ?_
  refine lv_topi (fun z_2 ez_2 => ?_)
  refine va_mmax hx hb (hml.trans hl.1.symm) hown (hts (.methodLink RX2 121 Lib.Math.max.name) (by decide +kernel)) (hts (.static Lib.Math.max.name) (by decide +kernel)) (hts (.initialized "java/lang/Math") (by decide +kernel)) (hts (.code Lib.Math.max.name Lib.Math.max.code 2 (some .int)) (by decide +kernel)) (Nat.le_of_ble_eq_true rfl) (Nat.le_of_ble_eq_true rfl) (Nat.le_of_ble_eq_true rfl) (Nat.le_of_ble_eq_true rfl) dX2_way_18 ?_
  refine lv_topi (fun z_3 ez_3 => ?_)
  refine lv_aload_n hx hb dX2_way_21 rfl (lv_at hl 3 rfl) ?_
  refine va_getN (D := D) (ci := 4) (v := .int (iv 9)) (C := RX4) (T := TX4) (N := 10) hx hb hts (fun _ h9 => List.mem_cons_of_mem _ (List.mem_append_right _ h9)) hown hK hP 0 rfl rfl 6 (by decide) (va_Nw.use rfl (hN.1 (RX2, 125, "BuoyTender$Ship", "pace", "I", "BuoyTender") (by decide +kernel))) (fun _ h9 => h9) rfl dX2_way_22 ?_
  refine lv_imul hx hb dX2_way_25 ?_
  exact W.iret (v := (z_3 * (iv 9))) hx hb hr (fun t ht hW => ⟨(z_3 * (iv 9)), rfl, trivial, ht⟩) (fun _ h => by cases h) dX2_way_26
set_option maxHeartbeats 4000000 in
set_option maxRecDepth 100000 in
/-- X2_measure: the loop at 21 -/
theorem lp_X2_measureI {p : Program} {l : Launch} {e : Env} {s : State} {m : MethodId} {args : Array Value} {below : List Frame} {meth : Method} {c : Code} {Q : State → Prop} {D : va_G} {cI cJ cZ cM : Nat} {a : Nat → Nat} {iv : Nat → Int32} {av : Nat → Nat → Int32} {ma : Nat → Nat → Nat} {mv : Nat → Nat → Int32} {mso : Nat → Nat → Int64} {mrs : Nat → Nat → Int32} {n0 : Nat} {fM : Nat → Option Nat} {cc : Nat} {i_ : Nat} {o9 : Option Nat} {A : Nat → Prop} (hx : p.tables.exec = Jvm.exec) (hb : c.code = cX2_measure) (hml : c.maxLocals = 7) (hts : ∀ w ∈ wsX2_measure, w.before args s = true) (hown : s.vm.findClass RX2 = some m.cls) (hG : GK D cI cJ cZ cM s) (hA : ∀ q : Nat, s.heap.size ≤ q → A q) (hn0 : n0 ≤ 10) (hfM : ∀ i, i < 10 → (i < n0 → fM i = some (ma i 0)) ∧ (n0 ≤ i → fM i = none)) (h_c : iv 20 = nI cc) (hcc : cc ≤ 10) (hi_ : i_ < cc) (ho : o9 = none ∨ ∃ i, i < n0 ∧ o9 = some (ma i 0)) :
    ∀ (k9 : Nat) (k_ : Nat) (f20 : Nat → Int32), (k_ ≤ cc) → cc - k_ < k9 → ∀ (H : Heap) (locs : List Loc) (ls : Array Slot), va_P D vwCl ([(a 6, .inr (2, [.ref (a 16), .ref (a 17), .ref (a 18), .ref (a 19), .ref (a 20), .ref (a 21), .ref (a 22), .ref (a 23), .ref (a 24), .ref (a 25), .ref (a 26), .ref (a 27), .int (iv 20), .int (iv 21), .int (iv 22), .int (iv 23)])), (a 16, .inl (cI, 10, .inl (av 16))), (a 20, .inl (cI, 121, .inl f20)), (a 2, .inl (cM, 10, .inr (.inr (.inr (.inr fM))))), (a 5, .inr (4, [.ref (a 13), .ref (a 14), .int (iv 5), .int (iv 6), .int (iv 7), .int (iv 8), .int (iv 9), .int (iv 10), .int (iv 11), .int (iv 12)]))] ++ MG cI cJ ma mv mso mrs n0) H → va_D A ([(a 6, .inr (2, [.ref (a 16), .ref (a 17), .ref (a 18), .ref (a 19), .ref (a 20), .ref (a 21), .ref (a 22), .ref (a 23), .ref (a 24), .ref (a 25), .ref (a 26), .ref (a 27), .int (iv 20), .int (iv 21), .int (iv 22), .int (iv 23)])), (a 16, .inl (cI, 10, .inl (av 16))), (a 20, .inl (cI, 121, .inl f20)), (a 2, .inl (cM, 10, .inr (.inr (.inr (.inr fM))))), (a 5, .inr (4, [.ref (a 13), .ref (a 14), .int (iv 5), .int (iv 6), .int (iv 7), .int (iv 8), .int (iv 9), .int (iv 10), .int (iv 11), .int (iv 12)]))] ++ MG cI cJ ma mv mso mrs n0) → va_S A s.heap H locs → lv_has ls 7 [(5, .int (nI k_)), (4, va_rf o9), (3, .int (nI i_)), (0, .ref (a 6)), (1, .ref (a 2)), (2, .ref (a 5))] → (∀ (f20 : Nat → Int32) (H : Heap) (locs : List Loc) (ls : Array Slot), va_P D vwCl ([(a 6, .inr (2, [.ref (a 16), .ref (a 17), .ref (a 18), .ref (a 19), .ref (a 20), .ref (a 21), .ref (a 22), .ref (a 23), .ref (a 24), .ref (a 25), .ref (a 26), .ref (a 27), .int (iv 20), .int (iv 21), .int (iv 22), .int (iv 23)])), (a 16, .inl (cI, 10, .inl (av 16))), (a 20, .inl (cI, 121, .inl f20)), (a 2, .inl (cM, 10, .inr (.inr (.inr (.inr fM))))), (a 5, .inr (4, [.ref (a 13), .ref (a 14), .int (iv 5), .int (iv 6), .int (iv 7), .int (iv 8), .int (iv 9), .int (iv 10), .int (iv 11), .int (iv 12)]))] ++ MG cI cJ ma mv mso mrs n0) H → va_D A ([(a 6, .inr (2, [.ref (a 16), .ref (a 17), .ref (a 18), .ref (a 19), .ref (a 20), .ref (a 21), .ref (a 22), .ref (a 23), .ref (a 24), .ref (a 25), .ref (a 26), .ref (a 27), .int (iv 20), .int (iv 21), .int (iv 22), .int (iv 23)])), (a 16, .inl (cI, 10, .inl (av 16))), (a 20, .inl (cI, 121, .inl f20)), (a 2, .inl (cM, 10, .inr (.inr (.inr (.inr fM))))), (a 5, .inr (4, [.ref (a 13), .ref (a 14), .int (iv 5), .int (iv 6), .int (iv 7), .int (iv 8), .int (iv 9), .int (iv 10), .int (iv 11), .int (iv 12)]))] ++ MG cI cJ ma mv mso mrs n0) → va_S A s.heap H locs → lv_has ls 7 [(4, va_rf o9), (3, .int (nI i_)), (0, .ref (a 6)), (1, .ref (a 2)), (2, .ref (a 5))] → W p l e (headSpec wsX2_measure ({ frames := 2, cells := 0, slots := 0, locals := 63 } : Room)).room s m args below meth c H locs 0 0 Q (F0 m 83 ls [])) → W p l e (headSpec wsX2_measure ({ frames := 2, cells := 0, slots := 0, locals := 63 } : Room)).room s m args below meth c H locs 0 0 Q (F0 m 21 ls []) := by
  have hK := hG.1
  have hN := hG.2
  intro k9
  induction k9 with
  | zero => intro k_ f20 hk hfu; exact absurd hfu (Nat.not_lt_zero _)
  | succ k9 ih =>
    intro k_ f20 hk hfu H locs ls hP hD hS hl kk0
    rcases Nat.lt_or_ge k_ cc with hlt | hge
    · refine lv_iload hx hb dX2_measure_21 (lv_at hl 0 rfl) ?_
      refine lv_aload_n hx hb dX2_measure_23 rfl (lv_at hl 3 rfl) ?_
      refine va_get (D := D) (ci := 2) (v := .int (iv 20)) (C := RX2) (T := TX2) (N := 16) hx hb hts (fun _ h9 => List.mem_cons_of_mem _ (List.mem_append_left _ (List.mem_append_left _ (List.mem_append_right _ h9)))) hown hK hP 0 rfl rfl 12 (by decide) (hts (.fieldLink RX2 76 "BuoyTender$Planner" "count" "I") (by decide +kernel)) (fun _ h9 => h9) rfl dX2_measure_24 ?_
      refine lv_topi (fun z_1 ez_1 => ?_)
      obtain rfl : z_1 = nI cc := ez_1.trans h_c
      refine lv_icmp_ge (tgt := 83) hx hb dX2_measure_27 (by decide) (fun c_2 => absurd c_2 (nI_ge hlt (by omega))) (fun c_2 => ?_)
      refine lv_aload_n hx hb dX2_measure_30 rfl (lv_at hl 3 rfl) ?_
      refine lv_aload_n hx hb dX2_measure_31 rfl (lv_at hl 4 rfl) ?_
      refine lv_iload hx hb dX2_measure_32 (lv_at hl 0 rfl) ?_
      have hPc := hP.sub (ws' := [(a 6, .inr (2, [.ref (a 16), .ref (a 17), .ref (a 18), .ref (a 19), .ref (a 20), .ref (a 21), .ref (a 22), .ref (a 23), .ref (a 24), .ref (a 25), .ref (a 26), .ref (a 27), .int (iv 20), .int (iv 21), .int (iv 22), .int (iv 23)])), (a 16, .inl (cI, 10, .inl (av 16))), (a 2, .inl (cM, 10, .inr (.inr (.inr (.inr fM)))))]) [0, 1, 3] rfl
      refine va_csq (va_Run.run (va_runV (As := [.ref (a 2), .int (nI k_)]) (rest := []) ⟨hx, hb, hml, hown, hts⟩ (k_X2_markOfJob l D cI cJ cZ cM a iv av ma mv mso mrs n0 fM hn0 hfM k_ (by omega)) (cwV 2 hts gX2_measure_X2_markOfJob rfl rfl rfl (by decide +kernel) ⟨Nat.le_of_ble_eq_true rfl, Nat.le_of_ble_eq_true rfl⟩) (ro_V hG hPc (va_recv hK hPc (ci := 2) (q0 := 0) rfl rfl)) rfl rfl hl.1 rfl (lv_room (Nat.le_of_ble_eq_true rfl)) dX2_measure_34 ⟨Nat.le_of_ble_eq_true rfl, Nat.le_of_ble_eq_true rfl⟩)) (fun r_3 h_3 => ?_)
      rcases h_3 with rfl | ⟨m_3, hm_3, rfl⟩
      · refine W.eq (g2 := F0 m 37 ls [.null]) rfl ?_
        refine lv_astoreN (lv' := [(6, .null), (5, .int (nI k_)), (4, va_rf o9), (3, .int (nI i_)), (0, .ref (a 6)), (1, .ref (a 2)), (2, .ref (a 5))]) hx hb dX2_measure_37 hl (by decide) rfl (fun ls hl => ?_)
        refine my_aloadq hx hb dX2_measure_39 (lv_at hl 2 rfl) ?_
        rcases ho with rfl | ⟨m9, hm9, rfl⟩
        · have hl : lv_has ls 7 [(6, .null), (5, .int (nI k_)), (4, .null), (3, .int (nI i_)), (0, .ref (a 6)), (1, .ref (a 2)), (2, .ref (a 5))] := hl
          refine W.eq (g2 := F0 m 41 ls [.null]) rfl ?_
          refine lv_ifnullN (tgt := 77) hx hb dX2_measure_41 (by decide) ?_
          refine lv_iinc (v := nI (k_ + 1)) (lv' := [(5, .int (nI (k_ + 1))), (6, .null), (4, .null), (3, .int (nI i_)), (0, .ref (a 6)), (1, .ref (a 2)), (2, .ref (a 5))]) hx hb dX2_measure_77 hl (k := 1) rfl (nI_add k_ 1) (by decide) rfl (fun ls hl => ?_)
          refine lv_goto (tgt := 21) hx hb dX2_measure_80 (by decide) ?_
          exact ih (k_ + 1) f20 (by omega) (by omega) _ _ _ hP hD hS (lv_sub hl [0, 2, 3, 4, 5, 6] rfl) kk0
        · have hl : lv_has ls 7 [(6, .null), (5, .int (nI k_)), (4, .ref (ma m9 0)), (3, .int (nI i_)), (0, .ref (a 6)), (1, .ref (a 2)), (2, .ref (a 5))] := hl
          refine W.eq (g2 := F0 m 41 ls [.ref (ma m9 0)]) rfl ?_
          refine lv_ifnull hx hb dX2_measure_41 ?_
          refine lv_aloadN hx hb dX2_measure_44 (lv_at hl 0 rfl) ?_
          refine lv_ifnullN (tgt := 77) hx hb dX2_measure_46 (by decide) ?_
          refine lv_iinc (v := nI (k_ + 1)) (lv' := [(5, .int (nI (k_ + 1))), (6, .null), (4, .ref (ma m9 0)), (3, .int (nI i_)), (0, .ref (a 6)), (1, .ref (a 2)), (2, .ref (a 5))]) hx hb dX2_measure_77 hl (k := 1) rfl (nI_add k_ 1) (by decide) rfl (fun ls hl => ?_)
          refine lv_goto (tgt := 21) hx hb dX2_measure_80 (by decide) ?_
          exact ih (k_ + 1) f20 (by omega) (by omega) _ _ _ hP hD hS (lv_sub hl [0, 2, 3, 4, 5, 6] rfl) kk0
      · refine W.eq (g2 := F0 m 37 ls [.ref (ma m_3 0)]) rfl ?_
        refine lv_astore (lv' := [(6, .ref (ma m_3 0)), (5, .int (nI k_)), (4, va_rf o9), (3, .int (nI i_)), (0, .ref (a 6)), (1, .ref (a 2)), (2, .ref (a 5))]) hx hb dX2_measure_37 hl (by decide) rfl (fun ls hl => ?_)
        refine my_aloadq hx hb dX2_measure_39 (lv_at hl 2 rfl) ?_
        rcases ho with rfl | ⟨m9, hm9, rfl⟩
        · have hl : lv_has ls 7 [(6, .ref (ma m_3 0)), (5, .int (nI k_)), (4, .null), (3, .int (nI i_)), (0, .ref (a 6)), (1, .ref (a 2)), (2, .ref (a 5))] := hl
          refine W.eq (g2 := F0 m 41 ls [.null]) rfl ?_
          refine lv_ifnullN (tgt := 77) hx hb dX2_measure_41 (by decide) ?_
          refine lv_iinc (v := nI (k_ + 1)) (lv' := [(5, .int (nI (k_ + 1))), (6, .ref (ma m_3 0)), (4, .null), (3, .int (nI i_)), (0, .ref (a 6)), (1, .ref (a 2)), (2, .ref (a 5))]) hx hb dX2_measure_77 hl (k := 1) rfl (nI_add k_ 1) (by decide) rfl (fun ls hl => ?_)
          refine lv_goto (tgt := 21) hx hb dX2_measure_80 (by decide) ?_
          exact ih (k_ + 1) f20 (by omega) (by omega) _ _ _ hP hD hS (lv_sub hl [0, 2, 3, 4, 5, 6] rfl) kk0
        · have hl : lv_has ls 7 [(6, .ref (ma m_3 0)), (5, .int (nI k_)), (4, .ref (ma m9 0)), (3, .int (nI i_)), (0, .ref (a 6)), (1, .ref (a 2)), (2, .ref (a 5))] := hl
          refine W.eq (g2 := F0 m 41 ls [.ref (ma m9 0)]) rfl ?_
          refine lv_ifnull hx hb dX2_measure_41 ?_
          refine lv_aload hx hb dX2_measure_44 (lv_at hl 0 rfl) ?_
          refine lv_ifnull hx hb dX2_measure_46 ?_
          refine lv_aload_n hx hb dX2_measure_49 rfl (lv_at hl 4 rfl) ?_
          refine va_get (D := D) (ci := 2) (v := .ref (a 20)) (C := RX2) (T := TX2) (N := 16) hx hb hts (fun _ h9 => List.mem_cons_of_mem _ (List.mem_append_left _ (List.mem_append_left _ (List.mem_append_right _ h9)))) hown hK hP 0 rfl rfl 4 (by decide) (hts (.fieldLink RX2 24 "BuoyTender$Planner" "ways" "[I") (by decide +kernel)) (fun _ h9 => h9) rfl dX2_measure_50 ?_
          refine lv_iload_n hx hb dX2_measure_53 rfl (lv_at hl 3 rfl) ?_
          refine lv_bipush (v := 11) hx hb dX2_measure_54 (by decide) ?_
          refine lv_imul hx hb dX2_measure_56 ?_
          refine lv_topi (fun z_7 ez_7 => ?_)
          obtain rfl : z_7 = nI (i_ * 11) := ez_7.trans (pk_mul i_ 11)
          refine lv_iload hx hb dX2_measure_57 (lv_at hl 1 rfl) ?_
          refine lv_iadd hx hb dX2_measure_59 ?_
          refine lv_topi (fun z_8 ez_8 => ?_)
          obtain rfl : z_8 = nI ((i_ * 11) + k_) := ez_8.trans (nI_add (i_ * 11) k_)
          refine lv_aload hx hb dX2_measure_60 (lv_at hl 2 rfl) ?_
          refine lv_aload hx hb dX2_measure_62 (lv_at hl 0 rfl) ?_
          refine va_getN (D := D) (ci := 1) (v := .int (mv m_3 0)) (C := RX1) (T := TX1) (N := 9) hx hb hts (fun _ h9 => List.mem_cons_of_mem _ (List.mem_append_left _ (List.mem_append_right _ h9))) hown hK hP (5 + (6 * m_3 + 0)) (mg_x0 rfl hm_3) rfl 0 (by decide) (va_Nw.use rfl (hN.1 (RX2, 92, "BuoyTender$Mark", "x", "I", "BuoyTender") (by decide +kernel))) (fun _ h9 => h9) rfl dX2_measure_64 ?_
          refine lv_aload hx hb dX2_measure_67 (lv_at hl 0 rfl) ?_
          refine va_getN (D := D) (ci := 1) (v := .int (mv m_3 1)) (C := RX1) (T := TX1) (N := 9) hx hb hts (fun _ h9 => List.mem_cons_of_mem _ (List.mem_append_left _ (List.mem_append_right _ h9))) hown hK hP (5 + (6 * m_3 + 0)) (mg_x0 rfl hm_3) rfl 1 (by decide) (va_Nw.use rfl (hN.1 (RX2, 89, "BuoyTender$Mark", "y", "I", "BuoyTender") (by decide +kernel))) (fun _ h9 => h9) rfl dX2_measure_69 ?_
          refine lv_aload_n hx hb dX2_measure_72 rfl (lv_at hl 6 rfl) ?_
          have hPc := hP.part (cx := [(a 5, .inr (4, [.ref (a 13), .ref (a 14), .int (iv 5), .int (iv 6), .int (iv 7), .int (iv 8), .int (iv 9), .int (iv 10), .int (iv 11), .int (iv 12)]))]) [4] rfl
          refine vp_callSi (va_Run.run (va_runS (As := [.ref (ma m9 0), .int (mv m_3 0), .int (mv m_3 1), .ref (a 5)]) (rest := [.int (nI ((i_ * 11) + k_)), .ref (a 20)]) ⟨hx, hb, hml, hown, hts⟩ (k_X2_way l D cI cJ cZ cM a iv av ma mv mso mrs n0 fM m9 hm9 (mv m_3 0) (mv m_3 1)) (va_cwS 4 hts gX2_measure_X2_way rfl rfl rfl (by decide +kernel) ⟨Nat.le_of_ble_eq_true rfl, Nat.le_of_ble_eq_true rfl⟩) (ro_S hG hPc) rfl rfl hl.1 rfl (lv_room (Nat.le_of_ble_eq_true rfl)) dX2_measure_73 ⟨Nat.le_of_ble_eq_true rfl, Nat.le_of_ble_eq_true rfl⟩)) (fun r_9 h_9 => ?_)
          refine va_iast hx hb hK hP hD hS 2 0 rfl rfl (vp_in_nI (by omega) (by decide)) dX2_measure_76 (fun H locs hP hD hS => ?_)
          rw [nI_clamp (by omega)] at hP hD
          have hP : va_P D vwCl ([(a 6, .inr (2, [.ref (a 16), .ref (a 17), .ref (a 18), .ref (a 19), .ref (a 20), .ref (a 21), .ref (a 22), .ref (a 23), .ref (a 24), .ref (a 25), .ref (a 26), .ref (a 27), .int (iv 20), .int (iv 21), .int (iv 22), .int (iv 23)])), (a 16, .inl (cI, 10, .inl (av 16))), (a 20, .inl (cI, 121, .inl (upd f20 ((i_ * 11) + k_) r_9))), (a 2, .inl (cM, 10, .inr (.inr (.inr (.inr fM))))), (a 5, .inr (4, [.ref (a 13), .ref (a 14), .int (iv 5), .int (iv 6), .int (iv 7), .int (iv 8), .int (iv 9), .int (iv 10), .int (iv 11), .int (iv 12)]))] ++ MG cI cJ ma mv mso mrs n0) H := hP
          have hD : va_D A ([(a 6, .inr (2, [.ref (a 16), .ref (a 17), .ref (a 18), .ref (a 19), .ref (a 20), .ref (a 21), .ref (a 22), .ref (a 23), .ref (a 24), .ref (a 25), .ref (a 26), .ref (a 27), .int (iv 20), .int (iv 21), .int (iv 22), .int (iv 23)])), (a 16, .inl (cI, 10, .inl (av 16))), (a 20, .inl (cI, 121, .inl (upd f20 ((i_ * 11) + k_) r_9))), (a 2, .inl (cM, 10, .inr (.inr (.inr (.inr fM))))), (a 5, .inr (4, [.ref (a 13), .ref (a 14), .int (iv 5), .int (iv 6), .int (iv 7), .int (iv 8), .int (iv 9), .int (iv 10), .int (iv 11), .int (iv 12)]))] ++ MG cI cJ ma mv mso mrs n0) := hD
          refine lv_iinc (v := nI (k_ + 1)) (lv' := [(5, .int (nI (k_ + 1))), (6, .ref (ma m_3 0)), (4, .ref (ma m9 0)), (3, .int (nI i_)), (0, .ref (a 6)), (1, .ref (a 2)), (2, .ref (a 5))]) hx hb dX2_measure_77 hl (k := 1) rfl (nI_add k_ 1) (by decide) rfl (fun ls hl => ?_)
          refine lv_goto (tgt := 21) hx hb dX2_measure_80 (by decide) ?_
          exact ih (k_ + 1) (upd f20 ((i_ * 11) + k_) r_9) (by omega) (by omega) _ _ _ hP hD hS (lv_sub hl [0, 2, 3, 4, 5, 6] rfl) kk0
    · refine lv_iload hx hb dX2_measure_21 (lv_at hl 0 rfl) ?_
      refine lv_aload_n hx hb dX2_measure_23 rfl (lv_at hl 3 rfl) ?_
      refine va_get (D := D) (ci := 2) (v := .int (iv 20)) (C := RX2) (T := TX2) (N := 16) hx hb hts (fun _ h9 => List.mem_cons_of_mem _ (List.mem_append_left _ (List.mem_append_left _ (List.mem_append_right _ h9)))) hown hK hP 0 rfl rfl 12 (by decide) (hts (.fieldLink RX2 76 "BuoyTender$Planner" "count" "I") (by decide +kernel)) (fun _ h9 => h9) rfl dX2_measure_24 ?_
      refine lv_topi (fun z_10 ez_10 => ?_)
      obtain rfl : z_10 = nI cc := ez_10.trans h_c
      refine lv_icmp_ge (tgt := 83) hx hb dX2_measure_27 (by decide) (fun c_11 => ?_) (fun c_11 => absurd (nI_le hge (by omega)) c_11)
      exact kk0 f20 _ _ _  hP hD hS (lv_sub hl [1, 2, 3, 4, 5] rfl)
set_option maxHeartbeats 4000000 in
set_option maxRecDepth 100000 in
/-- X2_measure: the loop at 2 -/
theorem lp_X2_measureO {p : Program} {l : Launch} {e : Env} {s : State} {m : MethodId} {args : Array Value} {below : List Frame} {meth : Method} {c : Code} {Q : State → Prop} {D : va_G} {cI cJ cZ cM : Nat} {a : Nat → Nat} {iv : Nat → Int32} {av : Nat → Nat → Int32} {ma : Nat → Nat → Nat} {mv : Nat → Nat → Int32} {mso : Nat → Nat → Int64} {mrs : Nat → Nat → Int32} {n0 : Nat} {fM : Nat → Option Nat} {cc : Nat} {A : Nat → Prop} (hx : p.tables.exec = Jvm.exec) (hb : c.code = cX2_measure) (hml : c.maxLocals = 7) (hts : ∀ w ∈ wsX2_measure, w.before args s = true) (hown : s.vm.findClass RX2 = some m.cls) (hG : GK D cI cJ cZ cM s) (hA : ∀ q : Nat, s.heap.size ≤ q → A q) (hn0 : n0 ≤ 10) (hfM : ∀ i, i < 10 → (i < n0 → fM i = some (ma i 0)) ∧ (n0 ≤ i → fM i = none)) (h_c : iv 20 = nI cc) (hcc : cc ≤ 10) :
    ∀ (k9 : Nat) (i_ : Nat) (f20 : Nat → Int32), (i_ ≤ cc) → cc - i_ < k9 → ∀ (H : Heap) (locs : List Loc) (ls : Array Slot), va_P D vwCl ([(a 6, .inr (2, [.ref (a 16), .ref (a 17), .ref (a 18), .ref (a 19), .ref (a 20), .ref (a 21), .ref (a 22), .ref (a 23), .ref (a 24), .ref (a 25), .ref (a 26), .ref (a 27), .int (iv 20), .int (iv 21), .int (iv 22), .int (iv 23)])), (a 16, .inl (cI, 10, .inl (av 16))), (a 20, .inl (cI, 121, .inl f20)), (a 2, .inl (cM, 10, .inr (.inr (.inr (.inr fM))))), (a 5, .inr (4, [.ref (a 13), .ref (a 14), .int (iv 5), .int (iv 6), .int (iv 7), .int (iv 8), .int (iv 9), .int (iv 10), .int (iv 11), .int (iv 12)]))] ++ MG cI cJ ma mv mso mrs n0) H → va_D A ([(a 6, .inr (2, [.ref (a 16), .ref (a 17), .ref (a 18), .ref (a 19), .ref (a 20), .ref (a 21), .ref (a 22), .ref (a 23), .ref (a 24), .ref (a 25), .ref (a 26), .ref (a 27), .int (iv 20), .int (iv 21), .int (iv 22), .int (iv 23)])), (a 16, .inl (cI, 10, .inl (av 16))), (a 20, .inl (cI, 121, .inl f20)), (a 2, .inl (cM, 10, .inr (.inr (.inr (.inr fM))))), (a 5, .inr (4, [.ref (a 13), .ref (a 14), .int (iv 5), .int (iv 6), .int (iv 7), .int (iv 8), .int (iv 9), .int (iv 10), .int (iv 11), .int (iv 12)]))] ++ MG cI cJ ma mv mso mrs n0) → va_S A s.heap H locs → lv_has ls 7 [(3, .int (nI i_)), (0, .ref (a 6)), (1, .ref (a 2)), (2, .ref (a 5))] → (∀ (f20 : Nat → Int32) (H : Heap) (locs : List Loc) (ls : Array Slot), va_P D vwCl ([(a 6, .inr (2, [.ref (a 16), .ref (a 17), .ref (a 18), .ref (a 19), .ref (a 20), .ref (a 21), .ref (a 22), .ref (a 23), .ref (a 24), .ref (a 25), .ref (a 26), .ref (a 27), .int (iv 20), .int (iv 21), .int (iv 22), .int (iv 23)])), (a 16, .inl (cI, 10, .inl (av 16))), (a 20, .inl (cI, 121, .inl f20)), (a 2, .inl (cM, 10, .inr (.inr (.inr (.inr fM))))), (a 5, .inr (4, [.ref (a 13), .ref (a 14), .int (iv 5), .int (iv 6), .int (iv 7), .int (iv 8), .int (iv 9), .int (iv 10), .int (iv 11), .int (iv 12)]))] ++ MG cI cJ ma mv mso mrs n0) H → va_D A ([(a 6, .inr (2, [.ref (a 16), .ref (a 17), .ref (a 18), .ref (a 19), .ref (a 20), .ref (a 21), .ref (a 22), .ref (a 23), .ref (a 24), .ref (a 25), .ref (a 26), .ref (a 27), .int (iv 20), .int (iv 21), .int (iv 22), .int (iv 23)])), (a 16, .inl (cI, 10, .inl (av 16))), (a 20, .inl (cI, 121, .inl f20)), (a 2, .inl (cM, 10, .inr (.inr (.inr (.inr fM))))), (a 5, .inr (4, [.ref (a 13), .ref (a 14), .int (iv 5), .int (iv 6), .int (iv 7), .int (iv 8), .int (iv 9), .int (iv 10), .int (iv 11), .int (iv 12)]))] ++ MG cI cJ ma mv mso mrs n0) → va_S A s.heap H locs → lv_has ls 7 [(0, .ref (a 6)), (1, .ref (a 2)), (2, .ref (a 5))] → W p l e (headSpec wsX2_measure ({ frames := 2, cells := 0, slots := 0, locals := 63 } : Room)).room s m args below meth c H locs 0 0 Q (F0 m 141 ls [])) → W p l e (headSpec wsX2_measure ({ frames := 2, cells := 0, slots := 0, locals := 63 } : Room)).room s m args below meth c H locs 0 0 Q (F0 m 2 ls []) := by
  have hK := hG.1
  have hN := hG.2
  intro k9
  induction k9 with
  | zero => intro i_ f20 hi_ hfu; exact absurd hfu (Nat.not_lt_zero _)
  | succ k9 ih =>
    intro i_ f20 hi_ hfu H locs ls hP hD hS hl kk0
    rcases Nat.lt_or_ge i_ cc with hlt | hge
    · refine lv_iload_n hx hb dX2_measure_2 rfl (lv_at hl 0 rfl) ?_
      refine lv_aload_n hx hb dX2_measure_3 rfl (lv_at hl 1 rfl) ?_
      refine va_get (D := D) (ci := 2) (v := .int (iv 20)) (C := RX2) (T := TX2) (N := 16) hx hb hts (fun _ h9 => List.mem_cons_of_mem _ (List.mem_append_left _ (List.mem_append_left _ (List.mem_append_right _ h9)))) hown hK hP 0 rfl rfl 12 (by decide) (hts (.fieldLink RX2 76 "BuoyTender$Planner" "count" "I") (by decide +kernel)) (fun _ h9 => h9) rfl dX2_measure_4 ?_
      refine lv_topi (fun z_1 ez_1 => ?_)
      obtain rfl : z_1 = nI cc := ez_1.trans h_c
      refine lv_icmp_ge (tgt := 141) hx hb dX2_measure_7 (by decide) (fun c_2 => absurd c_2 (nI_ge hlt (by omega))) (fun c_2 => ?_)
      refine lv_aload_n hx hb dX2_measure_10 rfl (lv_at hl 1 rfl) ?_
      refine lv_aload_n hx hb dX2_measure_11 rfl (lv_at hl 2 rfl) ?_
      refine lv_iload_n hx hb dX2_measure_12 rfl (lv_at hl 0 rfl) ?_
      have hPc := hP.sub (ws' := [(a 6, .inr (2, [.ref (a 16), .ref (a 17), .ref (a 18), .ref (a 19), .ref (a 20), .ref (a 21), .ref (a 22), .ref (a 23), .ref (a 24), .ref (a 25), .ref (a 26), .ref (a 27), .int (iv 20), .int (iv 21), .int (iv 22), .int (iv 23)])), (a 16, .inl (cI, 10, .inl (av 16))), (a 2, .inl (cM, 10, .inr (.inr (.inr (.inr fM)))))]) [0, 1, 3] rfl
      refine va_csq (va_Run.run (va_runV (As := [.ref (a 2), .int (nI i_)]) (rest := []) ⟨hx, hb, hml, hown, hts⟩ (k_X2_markOfJob l D cI cJ cZ cM a iv av ma mv mso mrs n0 fM hn0 hfM i_ (by omega)) (cwV 2 hts gX2_measure_X2_markOfJob rfl rfl rfl (by decide +kernel) ⟨Nat.le_of_ble_eq_true rfl, Nat.le_of_ble_eq_true rfl⟩) (ro_V hG hPc (va_recv hK hPc (ci := 2) (q0 := 0) rfl rfl)) rfl rfl hl.1 rfl (lv_room (Nat.le_of_ble_eq_true rfl)) dX2_measure_13 ⟨Nat.le_of_ble_eq_true rfl, Nat.le_of_ble_eq_true rfl⟩)) (fun r_3 h_3 => ?_)
      rcases h_3 with rfl | ⟨m_3, hm_3, rfl⟩
      · refine W.eq (g2 := F0 m 16 ls [.null]) rfl ?_
        refine lv_astoreN (lv' := [(4, .null), (3, .int (nI i_)), (0, .ref (a 6)), (1, .ref (a 2)), (2, .ref (a 5))]) hx hb dX2_measure_16 hl (by decide) rfl (fun ls hl => ?_)
        refine lv_iconst (v := 0) hx hb dX2_measure_18 (by decide) ?_
        refine lv_istore (lv' := [(5, .int 0), (4, .null), (3, .int (nI i_)), (0, .ref (a 6)), (1, .ref (a 2)), (2, .ref (a 5))]) hx hb dX2_measure_19 hl (by decide) rfl (fun ls hl => ?_)
        refine lp_X2_measureI (o9 := none) hx hb hml hts hown hG hA hn0 hfM h_c hcc hlt (Or.inl rfl) (cc + 1) 0 f20 (Nat.zero_le _) (by omega) _ _ _ hP hD hS (lv_sub hl [0, 1, 2, 3, 4, 5] rfl) (fun f20_5 H locs ls  hP hD hS hl => ?_)
        have hl : lv_has ls 7 [(4, .null), (3, .int (nI i_)), (0, .ref (a 6)), (1, .ref (a 2)), (2, .ref (a 5))] := hl
        refine lv_aloadN hx hb dX2_measure_83 (lv_at hl 0 rfl) ?_
        refine lv_ifnullN (tgt := 135) hx hb dX2_measure_85 (by decide) ?_
        refine lv_iinc (v := nI (i_ + 1)) (lv' := [(3, .int (nI (i_ + 1))), (4, .null), (0, .ref (a 6)), (1, .ref (a 2)), (2, .ref (a 5))]) hx hb dX2_measure_135 hl (k := 1) rfl (nI_add i_ 1) (by decide) rfl (fun ls hl => ?_)
        refine lv_goto (tgt := 2) hx hb dX2_measure_138 (by decide) ?_
        exact ih (i_ + 1) f20_5 (by omega) (by omega) _ _ _ hP hD hS (lv_sub hl [0, 2, 3, 4] rfl) kk0
      · refine W.eq (g2 := F0 m 16 ls [.ref (ma m_3 0)]) rfl ?_
        refine lv_astore (lv' := [(4, .ref (ma m_3 0)), (3, .int (nI i_)), (0, .ref (a 6)), (1, .ref (a 2)), (2, .ref (a 5))]) hx hb dX2_measure_16 hl (by decide) rfl (fun ls hl => ?_)
        refine lv_iconst (v := 0) hx hb dX2_measure_18 (by decide) ?_
        refine lv_istore (lv' := [(5, .int 0), (4, .ref (ma m_3 0)), (3, .int (nI i_)), (0, .ref (a 6)), (1, .ref (a 2)), (2, .ref (a 5))]) hx hb dX2_measure_19 hl (by decide) rfl (fun ls hl => ?_)
        refine lp_X2_measureI (o9 := (some (ma m_3 0))) hx hb hml hts hown hG hA hn0 hfM h_c hcc hlt (Or.inr ⟨m_3, hm_3, rfl⟩) (cc + 1) 0 f20 (Nat.zero_le _) (by omega) _ _ _ hP hD hS (lv_sub hl [0, 1, 2, 3, 4, 5] rfl) (fun f20_6 H locs ls  hP hD hS hl => ?_)
        have hl : lv_has ls 7 [(4, .ref (ma m_3 0)), (3, .int (nI i_)), (0, .ref (a 6)), (1, .ref (a 2)), (2, .ref (a 5))] := hl
        refine lv_aload hx hb dX2_measure_83 (lv_at hl 0 rfl) ?_
        refine lv_ifnull hx hb dX2_measure_85 ?_
        refine lv_aload_n hx hb dX2_measure_88 rfl (lv_at hl 2 rfl) ?_
        refine va_get (D := D) (ci := 2) (v := .ref (a 20)) (C := RX2) (T := TX2) (N := 16) hx hb hts (fun _ h9 => List.mem_cons_of_mem _ (List.mem_append_left _ (List.mem_append_left _ (List.mem_append_right _ h9)))) hown hK hP 0 rfl rfl 4 (by decide) (hts (.fieldLink RX2 24 "BuoyTender$Planner" "ways" "[I") (by decide +kernel)) (fun _ h9 => h9) rfl dX2_measure_89 ?_
        refine lv_iload_n hx hb dX2_measure_92 rfl (lv_at hl 1 rfl) ?_
        refine lv_bipush (v := 11) hx hb dX2_measure_93 (by decide) ?_
        refine lv_imul hx hb dX2_measure_95 ?_
        refine lv_topi (fun z_7 ez_7 => ?_)
        obtain rfl : z_7 = nI (i_ * 11) := ez_7.trans (pk_mul i_ 11)
        refine lv_bipush (v := 10) hx hb dX2_measure_96 (by decide) ?_
        refine lv_iadd hx hb dX2_measure_98 ?_
        refine lv_topi (fun z_8 ez_8 => ?_)
        obtain rfl : z_8 = nI ((i_ * 11) + 10) := ez_8.trans (nI_add (i_ * 11) 10)
        refine lv_aload hx hb dX2_measure_99 (lv_at hl 0 rfl) ?_
        refine lv_aload_n hx hb dX2_measure_101 rfl (lv_at hl 4 rfl) ?_
        refine va_getN (D := D) (ci := 4) (v := .int (iv 5)) (C := RX4) (T := TX4) (N := 10) hx hb hts (fun _ h9 => List.mem_cons_of_mem _ (List.mem_append_right _ h9)) hown hK hP 4 rfl rfl 2 (by decide) (va_Nw.use rfl (hN.1 (RX2, 113, "BuoyTender$Ship", "x", "I", "BuoyTender") (by decide +kernel))) (fun _ h9 => h9) rfl dX2_measure_102 ?_
        refine lv_aload_n hx hb dX2_measure_105 rfl (lv_at hl 4 rfl) ?_
        refine va_getN (D := D) (ci := 4) (v := .int (iv 6)) (C := RX4) (T := TX4) (N := 10) hx hb hts (fun _ h9 => List.mem_cons_of_mem _ (List.mem_append_right _ h9)) hown hK hP 4 rfl rfl 3 (by decide) (va_Nw.use rfl (hN.1 (RX2, 114, "BuoyTender$Ship", "y", "I", "BuoyTender") (by decide +kernel))) (fun _ h9 => h9) rfl dX2_measure_106 ?_
        refine lv_aload_n hx hb dX2_measure_109 rfl (lv_at hl 4 rfl) ?_
        have hPc := hP.part (cx := [(a 5, .inr (4, [.ref (a 13), .ref (a 14), .int (iv 5), .int (iv 6), .int (iv 7), .int (iv 8), .int (iv 9), .int (iv 10), .int (iv 11), .int (iv 12)]))]) [4] rfl
        refine vp_callSi (va_Run.run (va_runS (As := [.ref (ma m_3 0), .int (iv 5), .int (iv 6), .ref (a 5)]) (rest := [.int (nI ((i_ * 11) + 10)), .ref (a 20)]) ⟨hx, hb, hml, hown, hts⟩ (k_X2_way l D cI cJ cZ cM a iv av ma mv mso mrs n0 fM m_3 hm_3 (iv 5) (iv 6)) (va_cwS 4 hts gX2_measure_X2_way rfl rfl rfl (by decide +kernel) ⟨Nat.le_of_ble_eq_true rfl, Nat.le_of_ble_eq_true rfl⟩) (ro_S hG hPc) rfl rfl hl.1 rfl (lv_room (Nat.le_of_ble_eq_true rfl)) dX2_measure_110 ⟨Nat.le_of_ble_eq_true rfl, Nat.le_of_ble_eq_true rfl⟩)) (fun r_9 h_9 => ?_)
        refine va_iast hx hb hK hP hD hS 2 0 rfl rfl (vp_in_nI (by omega) (by decide)) dX2_measure_113 (fun H locs hP hD hS => ?_)
        rw [nI_clamp (by omega)] at hP hD
        have hP : va_P D vwCl ([(a 6, .inr (2, [.ref (a 16), .ref (a 17), .ref (a 18), .ref (a 19), .ref (a 20), .ref (a 21), .ref (a 22), .ref (a 23), .ref (a 24), .ref (a 25), .ref (a 26), .ref (a 27), .int (iv 20), .int (iv 21), .int (iv 22), .int (iv 23)])), (a 16, .inl (cI, 10, .inl (av 16))), (a 20, .inl (cI, 121, .inl (upd f20_6 ((i_ * 11) + 10) r_9))), (a 2, .inl (cM, 10, .inr (.inr (.inr (.inr fM))))), (a 5, .inr (4, [.ref (a 13), .ref (a 14), .int (iv 5), .int (iv 6), .int (iv 7), .int (iv 8), .int (iv 9), .int (iv 10), .int (iv 11), .int (iv 12)]))] ++ MG cI cJ ma mv mso mrs n0) H := hP
        have hD : va_D A ([(a 6, .inr (2, [.ref (a 16), .ref (a 17), .ref (a 18), .ref (a 19), .ref (a 20), .ref (a 21), .ref (a 22), .ref (a 23), .ref (a 24), .ref (a 25), .ref (a 26), .ref (a 27), .int (iv 20), .int (iv 21), .int (iv 22), .int (iv 23)])), (a 16, .inl (cI, 10, .inl (av 16))), (a 20, .inl (cI, 121, .inl (upd f20_6 ((i_ * 11) + 10) r_9))), (a 2, .inl (cM, 10, .inr (.inr (.inr (.inr fM))))), (a 5, .inr (4, [.ref (a 13), .ref (a 14), .int (iv 5), .int (iv 6), .int (iv 7), .int (iv 8), .int (iv 9), .int (iv 10), .int (iv 11), .int (iv 12)]))] ++ MG cI cJ ma mv mso mrs n0) := hD
        refine lv_aload_n hx hb dX2_measure_114 rfl (lv_at hl 2 rfl) ?_
        refine va_get (D := D) (ci := 2) (v := .ref (a 20)) (C := RX2) (T := TX2) (N := 16) hx hb hts (fun _ h9 => List.mem_cons_of_mem _ (List.mem_append_left _ (List.mem_append_left _ (List.mem_append_right _ h9)))) hown hK hP 0 rfl rfl 4 (by decide) (hts (.fieldLink RX2 24 "BuoyTender$Planner" "ways" "[I") (by decide +kernel)) (fun _ h9 => h9) rfl dX2_measure_115 ?_
        refine lv_bipush (v := 110) hx hb dX2_measure_118 (by decide) ?_
        refine lv_iload_n hx hb dX2_measure_120 rfl (lv_at hl 1 rfl) ?_
        refine lv_iadd hx hb dX2_measure_121 ?_
        refine lv_topi (fun z_10 ez_10 => ?_)
        obtain rfl : z_10 = nI (110 + i_) := ez_10.trans (nI_add 110 i_)
        refine lv_aload_n hx hb dX2_measure_122 rfl (lv_at hl 2 rfl) ?_
        refine va_get (D := D) (ci := 2) (v := .ref (a 20)) (C := RX2) (T := TX2) (N := 16) hx hb hts (fun _ h9 => List.mem_cons_of_mem _ (List.mem_append_left _ (List.mem_append_left _ (List.mem_append_right _ h9)))) hown hK hP 0 rfl rfl 4 (by decide) (hts (.fieldLink RX2 24 "BuoyTender$Planner" "ways" "[I") (by decide +kernel)) (fun _ h9 => h9) rfl dX2_measure_123 ?_
        refine lv_iload_n hx hb dX2_measure_126 rfl (lv_at hl 1 rfl) ?_
        refine lv_bipush (v := 11) hx hb dX2_measure_127 (by decide) ?_
        refine lv_imul hx hb dX2_measure_129 ?_
        refine lv_topi (fun z_11 ez_11 => ?_)
        obtain rfl : z_11 = nI (i_ * 11) := ez_11.trans (pk_mul i_ 11)
        refine lv_bipush (v := 10) hx hb dX2_measure_130 (by decide) ?_
        refine lv_iadd hx hb dX2_measure_132 ?_
        refine lv_topi (fun z_12 ez_12 => ?_)
        obtain rfl : z_12 = nI ((i_ * 11) + 10) := ez_12.trans (nI_add (i_ * 11) 10)
        refine va_iald hx hb hK hP 2 0 rfl rfl (vp_in_nI (by omega) (by decide)) dX2_measure_133 ?_
        refine lv_topi (fun z_13 ez_13 => ?_)
        obtain rfl : z_13 = (upd f20_6 ((i_ * 11) + 10) r_9) ((i_ * 11) + 10) := ez_13.trans (congrArg (upd f20_6 ((i_ * 11) + 10) r_9) (nI_clamp (by omega)))
        refine va_iast hx hb hK hP hD hS 2 0 rfl rfl (vp_in_nI (by omega) (by decide)) dX2_measure_134 (fun H locs hP hD hS => ?_)
        rw [nI_clamp (by omega)] at hP hD
        have hP : va_P D vwCl ([(a 6, .inr (2, [.ref (a 16), .ref (a 17), .ref (a 18), .ref (a 19), .ref (a 20), .ref (a 21), .ref (a 22), .ref (a 23), .ref (a 24), .ref (a 25), .ref (a 26), .ref (a 27), .int (iv 20), .int (iv 21), .int (iv 22), .int (iv 23)])), (a 16, .inl (cI, 10, .inl (av 16))), (a 20, .inl (cI, 121, .inl (upd (upd f20_6 ((i_ * 11) + 10) r_9) (110 + i_) ((upd f20_6 ((i_ * 11) + 10) r_9) ((i_ * 11) + 10))))), (a 2, .inl (cM, 10, .inr (.inr (.inr (.inr fM))))), (a 5, .inr (4, [.ref (a 13), .ref (a 14), .int (iv 5), .int (iv 6), .int (iv 7), .int (iv 8), .int (iv 9), .int (iv 10), .int (iv 11), .int (iv 12)]))] ++ MG cI cJ ma mv mso mrs n0) H := hP
        have hD : va_D A ([(a 6, .inr (2, [.ref (a 16), .ref (a 17), .ref (a 18), .ref (a 19), .ref (a 20), .ref (a 21), .ref (a 22), .ref (a 23), .ref (a 24), .ref (a 25), .ref (a 26), .ref (a 27), .int (iv 20), .int (iv 21), .int (iv 22), .int (iv 23)])), (a 16, .inl (cI, 10, .inl (av 16))), (a 20, .inl (cI, 121, .inl (upd (upd f20_6 ((i_ * 11) + 10) r_9) (110 + i_) ((upd f20_6 ((i_ * 11) + 10) r_9) ((i_ * 11) + 10))))), (a 2, .inl (cM, 10, .inr (.inr (.inr (.inr fM))))), (a 5, .inr (4, [.ref (a 13), .ref (a 14), .int (iv 5), .int (iv 6), .int (iv 7), .int (iv 8), .int (iv 9), .int (iv 10), .int (iv 11), .int (iv 12)]))] ++ MG cI cJ ma mv mso mrs n0) := hD
        refine lv_iinc (v := nI (i_ + 1)) (lv' := [(3, .int (nI (i_ + 1))), (4, .ref (ma m_3 0)), (0, .ref (a 6)), (1, .ref (a 2)), (2, .ref (a 5))]) hx hb dX2_measure_135 hl (k := 1) rfl (nI_add i_ 1) (by decide) rfl (fun ls hl => ?_)
        refine lv_goto (tgt := 2) hx hb dX2_measure_138 (by decide) ?_
        exact ih (i_ + 1) (upd (upd f20_6 ((i_ * 11) + 10) r_9) (110 + i_) ((upd f20_6 ((i_ * 11) + 10) r_9) ((i_ * 11) + 10))) (by omega) (by omega) _ _ _ hP hD hS (lv_sub hl [0, 2, 3, 4] rfl) kk0
    · refine lv_iload_n hx hb dX2_measure_2 rfl (lv_at hl 0 rfl) ?_
      refine lv_aload_n hx hb dX2_measure_3 rfl (lv_at hl 1 rfl) ?_
      refine va_get (D := D) (ci := 2) (v := .int (iv 20)) (C := RX2) (T := TX2) (N := 16) hx hb hts (fun _ h9 => List.mem_cons_of_mem _ (List.mem_append_left _ (List.mem_append_left _ (List.mem_append_right _ h9)))) hown hK hP 0 rfl rfl 12 (by decide) (hts (.fieldLink RX2 76 "BuoyTender$Planner" "count" "I") (by decide +kernel)) (fun _ h9 => h9) rfl dX2_measure_4 ?_
      refine lv_topi (fun z_14 ez_14 => ?_)
      obtain rfl : z_14 = nI cc := ez_14.trans h_c
      refine lv_icmp_ge (tgt := 141) hx hb dX2_measure_7 (by decide) (fun c_15 => ?_) (fun c_15 => absurd (nI_le hge (by omega)) c_15)
      exact kk0 f20 _ _ _  hP hD hS (lv_sub hl [1, 2, 3] rfl)
set_option maxHeartbeats 4000000 in
set_option maxRecDepth 100000 in
/-- X2_measure -/
theorem k_X2_measure (l : Launch) (D : va_G) (cI cJ cZ cM : Nat) (a : Nat → Nat) (iv : Nat → Int32) (av : Nat → Nat → Int32) (ma : Nat → Nat → Nat) (mv : Nat → Nat → Int32) (mso : Nat → Nat → Int64) (mrs : Nat → Nat → Int32) (n0 : Nat) (fM : Nat → Option Nat) (hn0 : n0 ≤ 10) (hfM : ∀ i, i < 10 → (i < n0 → fM i = some (ma i 0)) ∧ (n0 ≤ i → fM i = none)) (cc : Nat) (h_c : iv 20 = nI cc) (hcc : cc ≤ 10) (sz : Nat) : Met l yX2_measure wsX2_measure ({ frames := 2, cells := 0, slots := 0, locals := 63 } : Room) (RW D cI cJ cZ cM [.ref (a 6), .ref (a 2), .ref (a 5)] ([(a 6, .inr (2, [.ref (a 16), .ref (a 17), .ref (a 18), .ref (a 19), .ref (a 20), .ref (a 21), .ref (a 22), .ref (a 23), .ref (a 24), .ref (a 25), .ref (a 26), .ref (a 27), .int (iv 20), .int (iv 21), .int (iv 22), .int (iv 23)])), (a 16, .inl (cI, 10, .inl (av 16))), (a 20, .inl (cI, 121, .inl (av 20))), (a 2, .inl (cM, 10, .inr (.inr (.inr (.inr fM))))), (a 5, .inr (4, [.ref (a 13), .ref (a 14), .int (iv 5), .int (iv 6), .int (iv 7), .int (iv 8), .int (iv 9), .int (iv 10), .int (iv 11), .int (iv 12)]))] ++ MG cI cJ ma mv mso mrs n0) sz) (va_Qv (S := (Nat → Int32)) (fun u => True) (BB D (fun u => [(a 6, .inr (2, [.ref (a 16), .ref (a 17), .ref (a 18), .ref (a 19), .ref (a 20), .ref (a 21), .ref (a 22), .ref (a 23), .ref (a 24), .ref (a 25), .ref (a 26), .ref (a 27), .int (iv 20), .int (iv 21), .int (iv 22), .int (iv 23)])), (a 16, .inl (cI, 10, .inl (av 16))), (a 20, .inl (cI, 121, .inl u)), (a 2, .inl (cM, 10, .inr (.inr (.inr (.inr fM))))), (a 5, .inr (4, [.ref (a 13), .ref (a 14), .int (iv 5), .int (iv 6), .int (iv 7), .int (iv 8), .int (iv 9), .int (iv 10), .int (iv 11), .int (iv 12)]))] ++ MG cI cJ ma mv mso mrs n0) (va_A ([(a 6, .inr (2, [.ref (a 16), .ref (a 17), .ref (a 18), .ref (a 19), .ref (a 20), .ref (a 21), .ref (a 22), .ref (a 23), .ref (a 24), .ref (a 25), .ref (a 26), .ref (a 27), .int (iv 20), .int (iv 21), .int (iv 22), .int (iv 23)])), (a 16, .inl (cI, 10, .inl (av 16))), (a 20, .inl (cI, 121, .inl (av 20))), (a 2, .inl (cM, 10, .inr (.inr (.inr (.inr fM))))), (a 5, .inr (4, [.ref (a 13), .ref (a 14), .int (iv 5), .int (iv 6), .int (iv 7), .int (iv 8), .int (iv 9), .int (iv 10), .int (iv 11), .int (iv 12)]))] ++ MG cI cJ ma mv mso mrs n0) sz)) (va_A ([(a 6, .inr (2, [.ref (a 16), .ref (a 17), .ref (a 18), .ref (a 19), .ref (a 20), .ref (a 21), .ref (a 22), .ref (a 23), .ref (a 24), .ref (a 25), .ref (a 26), .ref (a 27), .int (iv 20), .int (iv 21), .int (iv 22), .int (iv 23)])), (a 16, .inl (cI, 10, .inl (av 16))), (a 20, .inl (cI, 121, .inl (av 20))), (a 2, .inl (cM, 10, .inr (.inr (.inr (.inr fM))))), (a 5, .inr (4, [.ref (a 13), .ref (a 14), .int (iv 5), .int (iv 6), .int (iv 7), .int (iv 8), .int (iv 9), .int (iv 10), .int (iv 11), .int (iv 12)]))] ++ MG cI cJ ma mv mso mrs n0) sz)) 0 0 (va_A ([(a 6, .inr (2, [.ref (a 16), .ref (a 17), .ref (a 18), .ref (a 19), .ref (a 20), .ref (a 21), .ref (a 22), .ref (a 23), .ref (a 24), .ref (a 25), .ref (a 26), .ref (a 27), .int (iv 20), .int (iv 21), .int (iv 22), .int (iv 23)])), (a 16, .inl (cI, 10, .inl (av 16))), (a 20, .inl (cI, 121, .inl (av 20))), (a 2, .inl (cM, 10, .inr (.inr (.inr (.inr fM))))), (a 5, .inr (4, [.ref (a 13), .ref (a 14), .int (iv 5), .int (iv 6), .int (iv 7), .int (iv 8), .int (iv 9), .int (iv 10), .int (iv 11), .int (iv 12)]))] ++ MG cI cJ ma mv mso mrs n0) sz) := by
  refine Met.ofW (cc := cX2_measure) (maxL := 7) (ret := none) (by decide) rfl ?_
  intro p e s m args below meth c s₁ B hml hv
  obtain ⟨rfl, hsz, hG, hP, hD0⟩ := hv
  have hx := B.exec
  have hb := B.bytes
  have hr := B.returns
  have hts := atoms_spec (ws := wsX2_measure) B.pre
  have hown : s.vm.findClass RX2 = some m.cls := findClass_of_methodNamed B.named
  have hlocks := B.notSynchronized
  have hK := hG.1
  have hN := hG.2
  subst hsz
  have hD := hD0.self (sz := s.heap.size)
  generalize hAe : va_A ([(a 6, .inr (2, [.ref (a 16), .ref (a 17), .ref (a 18), .ref (a 19), .ref (a 20), .ref (a 21), .ref (a 22), .ref (a 23), .ref (a 24), .ref (a 25), .ref (a 26), .ref (a 27), .int (iv 20), .int (iv 21), .int (iv 22), .int (iv 23)])), (a 16, .inl (cI, 10, .inl (av 16))), (a 20, .inl (cI, 121, .inl (av 20))), (a 2, .inl (cM, 10, .inr (.inr (.inr (.inr fM))))), (a 5, .inr (4, [.ref (a 13), .ref (a 14), .int (iv 5), .int (iv 6), .int (iv 7), .int (iv 8), .int (iv 9), .int (iv 10), .int (iv 11), .int (iv 12)]))] ++ MG cI cJ ma mv mso mrs n0) s.heap.size = A at hD ⊢
  have hA : ∀ q : Nat, s.heap.size ≤ q → A q := fun q h => by rw [← hAe]; exact Or.inr h
  have hS : va_S A s.heap s.heap [] := va_S.rf
  have hP : va_P D vwCl ([(a 6, .inr (2, [.ref (a 16), .ref (a 17), .ref (a 18), .ref (a 19), .ref (a 20), .ref (a 21), .ref (a 22), .ref (a 23), .ref (a 24), .ref (a 25), .ref (a 26), .ref (a 27), .int (iv 20), .int (iv 21), .int (iv 22), .int (iv 23)])), (a 16, .inl (cI, 10, .inl (av 16))), (a 20, .inl (cI, 121, .inl (av 20))), (a 2, .inl (cM, 10, .inr (.inr (.inr (.inr fM))))), (a 5, .inr (4, [.ref (a 13), .ref (a 14), .int (iv 5), .int (iv 6), .int (iv 7), .int (iv 8), .int (iv 9), .int (iv 10), .int (iv 11), .int (iv 12)]))] ++ MG cI cJ ma mv mso mrs n0) s.heap := hP
  have hl := lv_entry ([.ref (a 6), .ref (a 2), .ref (a 5)]) (n := 7) (Nat.le_of_ble_eq_true rfl)
  rw [lg_entry_eq]
  generalize (lg_sl ([.ref (a 6), .ref (a 2), .ref (a 5)]) ++ List.replicate (7 - (lg_sl ([.ref (a 6), .ref (a 2), .ref (a 5)])).length) Slot.unset).toArray = ls at hl ⊢
  have hl : lv_has ls 7 [(0, .ref (a 6)), (1, .ref (a 2)), (2, .ref (a 5))] := hl
  refine lv_iconst (v := 0) hx hb dX2_measure_0 (by decide) ?_
  refine lv_istore_n (lv' := [(3, .int 0), (0, .ref (a 6)), (1, .ref (a 2)), (2, .ref (a 5))]) hx hb dX2_measure_1 rfl hl (by decide) rfl (fun ls hl => ?_)
  refine lp_X2_measureO hx hb hml hts hown hG hA hn0 hfM h_c hcc (cc + 1) 0 (av 20) (Nat.zero_le _) (by omega) _ _ _ hP hD hS (lv_sub hl [0, 1, 2, 3] rfl) (fun f20_1 H locs ls  hP hD hS hl => ?_)
  have hP9 := hP.part (cx := [(a 6, .inr (2, [.ref (a 16), .ref (a 17), .ref (a 18), .ref (a 19), .ref (a 20), .ref (a 21), .ref (a 22), .ref (a 23), .ref (a 24), .ref (a 25), .ref (a 26), .ref (a 27), .int (iv 20), .int (iv 21), .int (iv 22), .int (iv 23)])), (a 16, .inl (cI, 10, .inl (av 16))), (a 20, .inl (cI, 121, .inl f20_1)), (a 2, .inl (cM, 10, .inr (.inr (.inr (.inr fM))))), (a 5, .inr (4, [.ref (a 13), .ref (a 14), .int (iv 5), .int (iv 6), .int (iv 7), .int (iv 8), .int (iv 9), .int (iv 10), .int (iv 11), .int (iv 12)]))]) [0, 1, 2, 3, 4] rfl
  have hD9 := hD.part (cx := [(a 6, .inr (2, [.ref (a 16), .ref (a 17), .ref (a 18), .ref (a 19), .ref (a 20), .ref (a 21), .ref (a 22), .ref (a 23), .ref (a 24), .ref (a 25), .ref (a 26), .ref (a 27), .int (iv 20), .int (iv 21), .int (iv 22), .int (iv 23)])), (a 16, .inl (cI, 10, .inl (av 16))), (a 20, .inl (cI, 121, .inl f20_1)), (a 2, .inl (cM, 10, .inr (.inr (.inr (.inr fM))))), (a 5, .inr (4, [.ref (a 13), .ref (a 14), .int (iv 5), .int (iv 6), .int (iv 7), .int (iv 8), .int (iv 9), .int (iv 10), .int (iv 11), .int (iv 12)]))]) [0, 1, 2, 3, 4] (by decide) rfl
  exact W.vret hx hb hr (fun t ht hW => ⟨⟨f20_1, rfl, trivial, ⟨by rw [ht]; exact hP9, hD9⟩⟩, hS.F ht⟩) hS.2.2 dX2_measure_141
