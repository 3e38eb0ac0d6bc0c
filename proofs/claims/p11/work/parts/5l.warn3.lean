theorem wn_join {A B C E : Prop} {r x y : Int32} {S : Type} {u v w : S} (ha : A) (hb : B) (h : (r = x ∧ (C ∧ E) ∧ u = v) ∨ (r = y ∧ ¬ (C ∧ E) ∧ u = w)) : (r = x ∧ (A ∧ B ∧ C ∧ E) ∧ u = v) ∨ (r = y ∧ ¬ (A ∧ B ∧ C ∧ E) ∧ u = w) := by
  rcases h with ⟨h1, h2, h3⟩ | ⟨h1, h2, h3⟩
  · exact Or.inl ⟨h1, ⟨ha, hb, h2⟩, h3⟩
  · exact Or.inr ⟨h1, fun q => h2 q.2.2, h3⟩
/-- what a warning's number tells -/
def wgP (f0 f1 f2 f3 : Nat → Int32) (i : Nat) (x r : Int32) : Prop := (x = 0 ∧ r = f0 i) ∨ (x = 1 ∧ r = f1 i) ∨ (x = 2 ∧ r = f2 i) ∨ (x = 3 ∧ r = f3 i) ∨ (¬ x = 0 ∧ ¬ x = 1 ∧ ¬ x = 2 ∧ ¬ x = 3 ∧ r = -1)
section WG
variable {f0 f1 f2 f3 : Nat → Int32} {i : Nat} {x r : Int32}
theorem wg0 (h : x = 0) (e : r = f0 i) : wgP f0 f1 f2 f3 i x r := Or.inl ⟨h, e⟩
theorem wg1 (h : x = 1) (e : r = f1 i) : wgP f0 f1 f2 f3 i x r := Or.inr (Or.inl ⟨h, e⟩)
theorem wg2 (h : x = 2) (e : r = f2 i) : wgP f0 f1 f2 f3 i x r := Or.inr (Or.inr (Or.inl ⟨h, e⟩))
theorem wg3 (h : x = 3) (e : r = f3 i) : wgP f0 f1 f2 f3 i x r := Or.inr (Or.inr (Or.inr (Or.inl ⟨h, e⟩)))
theorem wg4 (h0 : ¬ x = 0) (h1 : ¬ x = 1) (h2 : ¬ x = 2) (h3 : ¬ x = 3) (e : r = -1) : wgP f0 f1 f2 f3 i x r := Or.inr (Or.inr (Or.inr (Or.inr ⟨h0, h1, h2, h3, e⟩)))
end WG
set_option maxHeartbeats 4000000 in
set_option maxRecDepth 100000 in
/-- X7_tell -/
theorem k_X7_tell (l : Launch) (D : va_G) (cI cJ cZ cM : Nat) (a : Nat → Nat) (iv : Nat → Int32) (av : Nat → Nat → Int32) (wc : Nat) (h_w : iv 4 = nI wc) (hwc : wc ≤ 100) (x1 : Int32) (x2 : Int32) (x3 : Int32) (sz : Nat) : Met l yX7_tell wsX7_tell ({ frames := 1, cells := 0, slots := 0, locals := 23 } : Room) (RW D cI cJ cZ cM [.ref (a 4), .int x1, .int x2, .int x3] [(a 4, .inr (7, [.ref (a 9), .ref (a 10), .ref (a 11), .ref (a 12), .int (iv 4)])), (a 9, .inl (cI, 100, .inl (av 9))), (a 10, .inl (cI, 100, .inl (av 10))), (a 11, .inl (cI, 100, .inl (av 11))), (a 12, .inl (cI, 100, .inl (av 12)))] sz) (va_Qi (S := Int32 × (Nat → Int32) × (Nat → Int32) × (Nat → Int32) × (Nat → Int32)) (fun r u => (r = nI wc ∧ (wc < 100 ∧ ¬ (∃ w, w < wc ∧ opC (av 9) (av 10) (av 12) x1 x2 w)) ∧ u = (nI (wc + 1), upd (av 9) wc x1, upd (av 10) wc x2, upd (av 11) wc x3, upd (av 12) wc (-1))) ∨ (r = -1 ∧ ¬ (wc < 100 ∧ ¬ (∃ w, w < wc ∧ opC (av 9) (av 10) (av 12) x1 x2 w)) ∧ u = (iv 4, av 9, av 10, av 11, av 12))) (BB D (fun u => [(a 4, .inr (7, [.ref (a 9), .ref (a 10), .ref (a 11), .ref (a 12), .int u.1])), (a 9, .inl (cI, 100, .inl u.2.1)), (a 10, .inl (cI, 100, .inl u.2.2.1)), (a 11, .inl (cI, 100, .inl u.2.2.2.1)), (a 12, .inl (cI, 100, .inl u.2.2.2.2))]) (va_A [(a 4, .inr (7, [.ref (a 9), .ref (a 10), .ref (a 11), .ref (a 12), .int (iv 4)])), (a 9, .inl (cI, 100, .inl (av 9))), (a 10, .inl (cI, 100, .inl (av 10))), (a 11, .inl (cI, 100, .inl (av 11))), (a 12, .inl (cI, 100, .inl (av 12)))] sz)) (va_A [(a 4, .inr (7, [.ref (a 9), .ref (a 10), .ref (a 11), .ref (a 12), .int (iv 4)])), (a 9, .inl (cI, 100, .inl (av 9))), (a 10, .inl (cI, 100, .inl (av 10))), (a 11, .inl (cI, 100, .inl (av 11))), (a 12, .inl (cI, 100, .inl (av 12)))] sz)) 0 0 (va_A [(a 4, .inr (7, [.ref (a 9), .ref (a 10), .ref (a 11), .ref (a 12), .int (iv 4)])), (a 9, .inl (cI, 100, .inl (av 9))), (a 10, .inl (cI, 100, .inl (av 10))), (a 11, .inl (cI, 100, .inl (av 11))), (a 12, .inl (cI, 100, .inl (av 12)))] sz) := by
  refine Met.ofW (cc := cX7_tell) (maxL := 5) (ret := (some .int)) (by decide) rfl ?_
  intro p e s m args below meth c s₁ B hml hv
  obtain ⟨rfl, hsz, hG, hP, hD0⟩ := hv
  have hx := B.exec
  have hb := B.bytes
  have hr := B.returns
  have hts := atoms_spec (ws := wsX7_tell) B.pre
  have hown : s.vm.findClass RX7 = some m.cls := findClass_of_methodNamed B.named
  have hlocks := B.notSynchronized
  have hK := hG.1
  have hN := hG.2
  subst hsz
  have hD := hD0.self (sz := s.heap.size)
  generalize hAe : va_A [(a 4, .inr (7, [.ref (a 9), .ref (a 10), .ref (a 11), .ref (a 12), .int (iv 4)])), (a 9, .inl (cI, 100, .inl (av 9))), (a 10, .inl (cI, 100, .inl (av 10))), (a 11, .inl (cI, 100, .inl (av 11))), (a 12, .inl (cI, 100, .inl (av 12)))] s.heap.size = A at hD ⊢
  have hA : ∀ q : Nat, s.heap.size ≤ q → A q := fun q h => by rw [← hAe]; exact Or.inr h
  have hS : va_S A s.heap s.heap [] := va_S.rf
  have hP : va_P D vwCl [(a 4, .inr (7, [.ref (a 9), .ref (a 10), .ref (a 11), .ref (a 12), .int (iv 4)])), (a 9, .inl (cI, 100, .inl (av 9))), (a 10, .inl (cI, 100, .inl (av 10))), (a 11, .inl (cI, 100, .inl (av 11))), (a 12, .inl (cI, 100, .inl (av 12)))] s.heap := hP
  have hl := lv_entry ([.ref (a 4), .int x1, .int x2, .int x3]) (n := 5) (Nat.le_of_ble_eq_true rfl)
  rw [lg_entry_eq]
  generalize (lg_sl ([.ref (a 4), .int x1, .int x2, .int x3]) ++ List.replicate (5 - (lg_sl ([.ref (a 4), .int x1, .int x2, .int x3])).length) Slot.unset).toArray = ls at hl ⊢
  have hl : lv_has ls 5 [(0, .ref (a 4)), (1, .int x1), (2, .int x2), (3, .int x3)] := hl
  refine lv_aload_n hx hb dX7_tell_0 rfl (lv_at hl 0 rfl) ?_
  refine va_get (D := D) (ci := 7) (v := .int (iv 4)) (C := RX7) (T := TX7) (N := 5) hx hb hts (fun _ h9 => List.mem_cons_of_mem _ (List.mem_append_right _ h9)) hown hK hP 0 rfl rfl 4 (by decide) (hts (.fieldLink RX7 24 "BuoyTender$Warnings" "count" "I") (by decide +kernel)) (fun _ h9 => h9) rfl dX7_tell_1 ?_
  refine lv_topi (fun z_1 ez_1 => ?_)
  obtain rfl : z_1 = nI wc := ez_1.trans h_w
  refine lv_bipush (v := 100) hx hb dX7_tell_4 (by decide) ?_
  refine lv_icmp_ge (tgt := 18) hx hb dX7_tell_6 (by decide) (fun c_2 => ?_) (fun c_2 => ?_)
  · refine lv_iconst (v := (-1)) hx hb dX7_tell_18 (by decide) ?_
    have hP9 := hP.sub (ws' := [(a 4, .inr (7, [.ref (a 9), .ref (a 10), .ref (a 11), .ref (a 12), .int (iv 4)])), (a 9, .inl (cI, 100, .inl (av 9))), (a 10, .inl (cI, 100, .inl (av 10))), (a 11, .inl (cI, 100, .inl (av 11))), (a 12, .inl (cI, 100, .inl (av 12)))]) [0, 1, 2, 3, 4] rfl
    have hD9 := hD.sub (ws' := [(a 4, .inr (7, [.ref (a 9), .ref (a 10), .ref (a 11), .ref (a 12), .int (iv 4)])), (a 9, .inl (cI, 100, .inl (av 9))), (a 10, .inl (cI, 100, .inl (av 10))), (a 11, .inl (cI, 100, .inl (av 11))), (a 12, .inl (cI, 100, .inl (av 12)))]) [0, 1, 2, 3, 4] (by decide) rfl
    exact W.iret (v := (-1)) hx hb hr (fun t ht hW => ⟨⟨(-1), (iv 4, av 9, av 10, av 11, av 12), rfl, (Or.inr ⟨rfl, fun h9 => nI_ge h9.1 (by decide) c_2, rfl⟩), ⟨by rw [ht]; exact hP9, hD9⟩⟩, hS.F ht⟩) hS.2.2 dX7_tell_19
  refine lv_aload_n hx hb dX7_tell_9 rfl (lv_at hl 0 rfl) ?_
  refine lv_iload_n hx hb dX7_tell_10 rfl (lv_at hl 1 rfl) ?_
  refine lv_iload_n hx hb dX7_tell_11 rfl (lv_at hl 2 rfl) ?_
  have hPc := hP.sub (ws' := [(a 4, .inr (7, [.ref (a 9), .ref (a 10), .ref (a 11), .ref (a 12), .int (iv 4)])), (a 9, .inl (cI, 100, .inl (av 9))), (a 10, .inl (cI, 100, .inl (av 10))), (a 11, .inl (cI, 100, .inl (av 11))), (a 12, .inl (cI, 100, .inl (av 12)))]) [0, 1, 2, 3, 4] rfl
  refine vp_callSi (va_Run.run (va_runV (As := [.int x1, .int x2]) (rest := []) ⟨hx, hb, hml, hown, hts⟩ (k_X7_isOpen l D cI cJ cZ cM a iv av wc h_w hwc x1 x2) (cwV 2 hts gX7_tell_X7_isOpen rfl rfl rfl (by decide +kernel) ⟨Nat.le_of_ble_eq_true rfl, Nat.le_of_ble_eq_true rfl⟩) (ro_V hG hPc (va_recv hK hPc (ci := 7) (q0 := 0) rfl rfl)) rfl rfl hl.1 rfl (lv_room (Nat.le_of_ble_eq_true rfl)) dX7_tell_12 ⟨Nat.le_of_ble_eq_true rfl, Nat.le_of_ble_eq_true rfl⟩)) (fun r_3 h_3 => ?_)
  rcases h_3 with ⟨rfl, h_3⟩ | ⟨rfl, h_3⟩
  · refine lv_if_eq (tgt := 20) hx hb dX7_tell_15 (by decide) (fun c_4 => False.elim (by revert c_4; decide)) (fun _ => ?_)
    refine lv_iconst (v := (-1)) hx hb dX7_tell_18 (by decide) ?_
    have hP9 := hP.sub (ws' := [(a 4, .inr (7, [.ref (a 9), .ref (a 10), .ref (a 11), .ref (a 12), .int (iv 4)])), (a 9, .inl (cI, 100, .inl (av 9))), (a 10, .inl (cI, 100, .inl (av 10))), (a 11, .inl (cI, 100, .inl (av 11))), (a 12, .inl (cI, 100, .inl (av 12)))]) [0, 1, 2, 3, 4] rfl
    have hD9 := hD.sub (ws' := [(a 4, .inr (7, [.ref (a 9), .ref (a 10), .ref (a 11), .ref (a 12), .int (iv 4)])), (a 9, .inl (cI, 100, .inl (av 9))), (a 10, .inl (cI, 100, .inl (av 10))), (a 11, .inl (cI, 100, .inl (av 11))), (a 12, .inl (cI, 100, .inl (av 12)))]) [0, 1, 2, 3, 4] (by decide) rfl
    exact W.iret (v := (-1)) hx hb hr (fun t ht hW => ⟨⟨(-1), (iv 4, av 9, av 10, av 11, av 12), rfl, (Or.inr ⟨rfl, fun h9 => h9.2 h_3, rfl⟩), ⟨by rw [ht]; exact hP9, hD9⟩⟩, hS.F ht⟩) hS.2.2 dX7_tell_19
  refine lv_if_eq (tgt := 20) hx hb dX7_tell_15 (by decide) (fun _ => ?_) (fun c_5 => False.elim (by revert c_5; decide))
  have hlt9 : wc < 100 := Nat.lt_of_not_le (fun q => c_2 (nI_le q (by omega)))
  refine lv_aload_n hx hb dX7_tell_20 rfl (lv_at hl 0 rfl) ?_
  refine va_get (D := D) (ci := 7) (v := .int (iv 4)) (C := RX7) (T := TX7) (N := 5) hx hb hts (fun _ h9 => List.mem_cons_of_mem _ (List.mem_append_right _ h9)) hown hK hP 0 rfl rfl 4 (by decide) (hts (.fieldLink RX7 24 "BuoyTender$Warnings" "count" "I") (by decide +kernel)) (fun _ h9 => h9) rfl dX7_tell_21 ?_
  refine lv_topi (fun z_6 ez_6 => ?_)
  obtain rfl : z_6 = nI wc := ez_6.trans h_w
  refine lv_istore (lv' := [(4, .int (nI wc)), (0, .ref (a 4)), (1, .int x1), (2, .int x2), (3, .int x3)]) hx hb dX7_tell_24 hl (by decide) rfl (fun ls hl => ?_)
  refine lv_aload_n hx hb dX7_tell_26 rfl (lv_at hl 1 rfl) ?_
  refine va_get (D := D) (ci := 7) (v := .ref (a 9)) (C := RX7) (T := TX7) (N := 5) hx hb hts (fun _ h9 => List.mem_cons_of_mem _ (List.mem_append_right _ h9)) hown hK hP 0 rfl rfl 0 (by decide) (hts (.fieldLink RX7 9 "BuoyTender$Warnings" "markOf" "[I") (by decide +kernel)) (fun _ h9 => h9) rfl dX7_tell_27 ?_
  refine lv_iload hx hb dX7_tell_30 (lv_at hl 0 rfl) ?_
  refine lv_iload_n hx hb dX7_tell_32 rfl (lv_at hl 2 rfl) ?_
  refine va_iast hx hb hK hP hD hS 1 0 rfl rfl (vp_in_nI (by omega) (by decide)) dX7_tell_33 (fun H locs hP hD hS => ?_)
  rw [nI_clamp (by omega)] at hP hD
  have hP : va_P D vwCl [(a 4, .inr (7, [.ref (a 9), .ref (a 10), .ref (a 11), .ref (a 12), .int (iv 4)])), (a 9, .inl (cI, 100, .inl (upd (av 9) wc x1))), (a 10, .inl (cI, 100, .inl (av 10))), (a 11, .inl (cI, 100, .inl (av 11))), (a 12, .inl (cI, 100, .inl (av 12)))] H := hP
  have hD : va_D A [(a 4, .inr (7, [.ref (a 9), .ref (a 10), .ref (a 11), .ref (a 12), .int (iv 4)])), (a 9, .inl (cI, 100, .inl (upd (av 9) wc x1))), (a 10, .inl (cI, 100, .inl (av 10))), (a 11, .inl (cI, 100, .inl (av 11))), (a 12, .inl (cI, 100, .inl (av 12)))] := hD
  refine lv_aload_n hx hb dX7_tell_34 rfl (lv_at hl 1 rfl) ?_
  refine va_get (D := D) (ci := 7) (v := .ref (a 10)) (C := RX7) (T := TX7) (N := 5) hx hb hts (fun _ h9 => List.mem_cons_of_mem _ (List.mem_append_right _ h9)) hown hK hP 0 rfl rfl 1 (by decide) (hts (.fieldLink RX7 15 "BuoyTender$Warnings" "reasonOf" "[I") (by decide +kernel)) (fun _ h9 => h9) rfl dX7_tell_35 ?_
  refine lv_iload hx hb dX7_tell_38 (lv_at hl 0 rfl) ?_
  refine lv_iload_n hx hb dX7_tell_40 rfl (lv_at hl 3 rfl) ?_
  refine va_iast hx hb hK hP hD hS 2 0 rfl rfl (vp_in_nI (by omega) (by decide)) dX7_tell_41 (fun H locs hP hD hS => ?_)
  rw [nI_clamp (by omega)] at hP hD
  have hP : va_P D vwCl [(a 4, .inr (7, [.ref (a 9), .ref (a 10), .ref (a 11), .ref (a 12), .int (iv 4)])), (a 9, .inl (cI, 100, .inl (upd (av 9) wc x1))), (a 10, .inl (cI, 100, .inl (upd (av 10) wc x2))), (a 11, .inl (cI, 100, .inl (av 11))), (a 12, .inl (cI, 100, .inl (av 12)))] H := hP
  have hD : va_D A [(a 4, .inr (7, [.ref (a 9), .ref (a 10), .ref (a 11), .ref (a 12), .int (iv 4)])), (a 9, .inl (cI, 100, .inl (upd (av 9) wc x1))), (a 10, .inl (cI, 100, .inl (upd (av 10) wc x2))), (a 11, .inl (cI, 100, .inl (av 11))), (a 12, .inl (cI, 100, .inl (av 12)))] := hD
  refine lv_aload_n hx hb dX7_tell_42 rfl (lv_at hl 1 rfl) ?_
  refine va_get (D := D) (ci := 7) (v := .ref (a 11)) (C := RX7) (T := TX7) (N := 5) hx hb hts (fun _ h9 => List.mem_cons_of_mem _ (List.mem_append_right _ h9)) hown hK hP 0 rfl rfl 2 (by decide) (hts (.fieldLink RX7 18 "BuoyTender$Warnings" "toldOn" "[I") (by decide +kernel)) (fun _ h9 => h9) rfl dX7_tell_43 ?_
  refine lv_iload hx hb dX7_tell_46 (lv_at hl 0 rfl) ?_
  refine lv_iload_n hx hb dX7_tell_48 rfl (lv_at hl 4 rfl) ?_
  refine va_iast hx hb hK hP hD hS 3 0 rfl rfl (vp_in_nI (by omega) (by decide)) dX7_tell_49 (fun H locs hP hD hS => ?_)
  rw [nI_clamp (by omega)] at hP hD
  have hP : va_P D vwCl [(a 4, .inr (7, [.ref (a 9), .ref (a 10), .ref (a 11), .ref (a 12), .int (iv 4)])), (a 9, .inl (cI, 100, .inl (upd (av 9) wc x1))), (a 10, .inl (cI, 100, .inl (upd (av 10) wc x2))), (a 11, .inl (cI, 100, .inl (upd (av 11) wc x3))), (a 12, .inl (cI, 100, .inl (av 12)))] H := hP
  have hD : va_D A [(a 4, .inr (7, [.ref (a 9), .ref (a 10), .ref (a 11), .ref (a 12), .int (iv 4)])), (a 9, .inl (cI, 100, .inl (upd (av 9) wc x1))), (a 10, .inl (cI, 100, .inl (upd (av 10) wc x2))), (a 11, .inl (cI, 100, .inl (upd (av 11) wc x3))), (a 12, .inl (cI, 100, .inl (av 12)))] := hD
  refine lv_aload_n hx hb dX7_tell_50 rfl (lv_at hl 1 rfl) ?_
  refine va_get (D := D) (ci := 7) (v := .ref (a 12)) (C := RX7) (T := TX7) (N := 5) hx hb hts (fun _ h9 => List.mem_cons_of_mem _ (List.mem_append_right _ h9)) hown hK hP 0 rfl rfl 3 (by decide) (hts (.fieldLink RX7 21 "BuoyTender$Warnings" "cancelledOn" "[I") (by decide +kernel)) (fun _ h9 => h9) rfl dX7_tell_51 ?_
  refine lv_iload hx hb dX7_tell_54 (lv_at hl 0 rfl) ?_
  refine lv_iconst (v := (-1)) hx hb dX7_tell_56 (by decide) ?_
  refine va_iast hx hb hK hP hD hS 4 0 rfl rfl (vp_in_nI (by omega) (by decide)) dX7_tell_57 (fun H locs hP hD hS => ?_)
  rw [nI_clamp (by omega)] at hP hD
  have hP : va_P D vwCl [(a 4, .inr (7, [.ref (a 9), .ref (a 10), .ref (a 11), .ref (a 12), .int (iv 4)])), (a 9, .inl (cI, 100, .inl (upd (av 9) wc x1))), (a 10, .inl (cI, 100, .inl (upd (av 10) wc x2))), (a 11, .inl (cI, 100, .inl (upd (av 11) wc x3))), (a 12, .inl (cI, 100, .inl (upd (av 12) wc (-1))))] H := hP
  have hD : va_D A [(a 4, .inr (7, [.ref (a 9), .ref (a 10), .ref (a 11), .ref (a 12), .int (iv 4)])), (a 9, .inl (cI, 100, .inl (upd (av 9) wc x1))), (a 10, .inl (cI, 100, .inl (upd (av 10) wc x2))), (a 11, .inl (cI, 100, .inl (upd (av 11) wc x3))), (a 12, .inl (cI, 100, .inl (upd (av 12) wc (-1))))] := hD
  refine lv_aload_n hx hb dX7_tell_58 rfl (lv_at hl 1 rfl) ?_
  refine lv_dup hx hb dX7_tell_59 rfl ?_
  refine va_get (D := D) (ci := 7) (v := .int (iv 4)) (C := RX7) (T := TX7) (N := 5) hx hb hts (fun _ h9 => List.mem_cons_of_mem _ (List.mem_append_right _ h9)) hown hK hP 0 rfl rfl 4 (by decide) (hts (.fieldLink RX7 24 "BuoyTender$Warnings" "count" "I") (by decide +kernel)) (fun _ h9 => h9) rfl dX7_tell_60 ?_
  refine lv_topi (fun z_7 ez_7 => ?_)
  obtain rfl : z_7 = nI wc := ez_7.trans h_w
  refine lv_iconst (v := 1) hx hb dX7_tell_63 (by decide) ?_
  refine lv_iadd hx hb dX7_tell_64 ?_
  refine lv_topi (fun z_8 ez_8 => ?_)
  obtain rfl : z_8 = nI (wc + 1) := ez_8.trans (nI_add wc 1)
  refine va_put (D := D) (ci := 7) (v := .int (nI (wc + 1))) (ty := (tyX7 4)) (C := RX7) (T := TX7) (N := 5) hx hb hts (fun _ h9 => List.mem_cons_of_mem _ (List.mem_append_right _ h9)) tyX7 tyX7_ok nmX7 hown hK hP hD hS 0 rfl rfl 4 (by decide) (hts (.fieldLink RX7 24 "BuoyTender$Warnings" "count" "I") (by decide +kernel)) (fun _ h9 => h9) rfl (by decide +kernel) rfl rfl (Nat.le_of_ble_eq_true rfl) dX7_tell_65 (fun H locs hP hD hS => ?_)
  have hP : va_P D vwCl [(a 4, .inr (7, [.ref (a 9), .ref (a 10), .ref (a 11), .ref (a 12), .int (nI (wc + 1))])), (a 9, .inl (cI, 100, .inl (upd (av 9) wc x1))), (a 10, .inl (cI, 100, .inl (upd (av 10) wc x2))), (a 11, .inl (cI, 100, .inl (upd (av 11) wc x3))), (a 12, .inl (cI, 100, .inl (upd (av 12) wc (-1))))] H := hP
  have hD : va_D A [(a 4, .inr (7, [.ref (a 9), .ref (a 10), .ref (a 11), .ref (a 12), .int (nI (wc + 1))])), (a 9, .inl (cI, 100, .inl (upd (av 9) wc x1))), (a 10, .inl (cI, 100, .inl (upd (av 10) wc x2))), (a 11, .inl (cI, 100, .inl (upd (av 11) wc x3))), (a 12, .inl (cI, 100, .inl (upd (av 12) wc (-1))))] := hD
  refine lv_iload hx hb dX7_tell_68 (lv_at hl 0 rfl) ?_
  have hP9 := hP.sub (ws' := [(a 4, .inr (7, [.ref (a 9), .ref (a 10), .ref (a 11), .ref (a 12), .int (nI (wc + 1))])), (a 9, .inl (cI, 100, .inl (upd (av 9) wc x1))), (a 10, .inl (cI, 100, .inl (upd (av 10) wc x2))), (a 11, .inl (cI, 100, .inl (upd (av 11) wc x3))), (a 12, .inl (cI, 100, .inl (upd (av 12) wc (-1))))]) [0, 1, 2, 3, 4] rfl
  have hD9 := hD.sub (ws' := [(a 4, .inr (7, [.ref (a 9), .ref (a 10), .ref (a 11), .ref (a 12), .int (nI (wc + 1))])), (a 9, .inl (cI, 100, .inl (upd (av 9) wc x1))), (a 10, .inl (cI, 100, .inl (upd (av 10) wc x2))), (a 11, .inl (cI, 100, .inl (upd (av 11) wc x3))), (a 12, .inl (cI, 100, .inl (upd (av 12) wc (-1))))]) [0, 1, 2, 3, 4] (by decide) rfl
  exact W.iret (v := (nI wc)) hx hb hr (fun t ht hW => ⟨⟨(nI wc), (nI (wc + 1), (upd (av 9) wc x1), (upd (av 10) wc x2), (upd (av 11) wc x3), (upd (av 12) wc (-1))), rfl, (Or.inl ⟨rfl, ⟨hlt9, h_3⟩, rfl⟩), ⟨by rw [ht]; exact hP9, hD9⟩⟩, hS.F ht⟩) hS.2.2 dX7_tell_70
set_option maxHeartbeats 4000000 in
set_option maxRecDepth 100000 in
/-- X8_warn -/
theorem k_X8_warn (l : Launch) (D : va_G) (cI cJ cZ cM : Nat) (h0 : Nat) (a : Nat → Nat) (iv : Nat → Int32) (av : Nat → Nat → Int32) (ma : Nat → Nat → Nat) (n0 : Nat) (fM : Nat → Option Nat) (hn0 : n0 ≤ 10) (hfM : ∀ i, i < 10 → (i < n0 → fM i = some (ma i 0)) ∧ (n0 ≤ i → fM i = none)) (h_n : iv 0 = nI n0) (wc : Nat) (h_w : iv 4 = nI wc) (hwc : wc ≤ 100) (x1 : Int32) (x2 : Int32) (sz : Nat) : Met l yX8_warn wsX8_warn ({ frames := 2, cells := 0, slots := 0, locals := 47 } : Room) (RW D cI cJ cZ cM [.ref h0, .int x1, .int x2] [(h0, .inr (8, [.ref (a 1), .ref (a 2), .ref (a 3), .ref (a 4), .ref (a 5), .ref (a 6), .ref (a 7), .ref (a 8), .int (iv 0), .int (iv 1), .int (iv 2), .int (iv 3)])), (a 2, .inl (cM, 10, .inr (.inr (.inr (.inr fM))))), (a 4, .inr (7, [.ref (a 9), .ref (a 10), .ref (a 11), .ref (a 12), .int (iv 4)])), (a 9, .inl (cI, 100, .inl (av 9))), (a 10, .inl (cI, 100, .inl (av 10))), (a 11, .inl (cI, 100, .inl (av 11))), (a 12, .inl (cI, 100, .inl (av 12)))] sz) (va_Qi (S := Int32 × (Nat → Int32) × (Nat → Int32) × (Nat → Int32) × (Nat → Int32)) (fun r u => (r = nI wc ∧ (isM n0 x1 ∧ (1 ≤ x2 ∧ x2 ≤ 9) ∧ wc < 100 ∧ ¬ (∃ w, w < wc ∧ opC (av 9) (av 10) (av 12) x1 x2 w)) ∧ u = (nI (wc + 1), upd (av 9) wc x1, upd (av 10) wc x2, upd (av 11) wc (iv 1), upd (av 12) wc (-1))) ∨ (r = -1 ∧ ¬ (isM n0 x1 ∧ (1 ≤ x2 ∧ x2 ≤ 9) ∧ wc < 100 ∧ ¬ (∃ w, w < wc ∧ opC (av 9) (av 10) (av 12) x1 x2 w)) ∧ u = (iv 4, av 9, av 10, av 11, av 12))) (BB D (fun u => [(h0, .inr (8, [.ref (a 1), .ref (a 2), .ref (a 3), .ref (a 4), .ref (a 5), .ref (a 6), .ref (a 7), .ref (a 8), .int (iv 0), .int (iv 1), .int (iv 2), .int (iv 3)])), (a 2, .inl (cM, 10, .inr (.inr (.inr (.inr fM))))), (a 4, .inr (7, [.ref (a 9), .ref (a 10), .ref (a 11), .ref (a 12), .int u.1])), (a 9, .inl (cI, 100, .inl u.2.1)), (a 10, .inl (cI, 100, .inl u.2.2.1)), (a 11, .inl (cI, 100, .inl u.2.2.2.1)), (a 12, .inl (cI, 100, .inl u.2.2.2.2))]) (va_A [(h0, .inr (8, [.ref (a 1), .ref (a 2), .ref (a 3), .ref (a 4), .ref (a 5), .ref (a 6), .ref (a 7), .ref (a 8), .int (iv 0), .int (iv 1), .int (iv 2), .int (iv 3)])), (a 2, .inl (cM, 10, .inr (.inr (.inr (.inr fM))))), (a 4, .inr (7, [.ref (a 9), .ref (a 10), .ref (a 11), .ref (a 12), .int (iv 4)])), (a 9, .inl (cI, 100, .inl (av 9))), (a 10, .inl (cI, 100, .inl (av 10))), (a 11, .inl (cI, 100, .inl (av 11))), (a 12, .inl (cI, 100, .inl (av 12)))] sz)) (va_A [(h0, .inr (8, [.ref (a 1), .ref (a 2), .ref (a 3), .ref (a 4), .ref (a 5), .ref (a 6), .ref (a 7), .ref (a 8), .int (iv 0), .int (iv 1), .int (iv 2), .int (iv 3)])), (a 2, .inl (cM, 10, .inr (.inr (.inr (.inr fM))))), (a 4, .inr (7, [.ref (a 9), .ref (a 10), .ref (a 11), .ref (a 12), .int (iv 4)])), (a 9, .inl (cI, 100, .inl (av 9))), (a 10, .inl (cI, 100, .inl (av 10))), (a 11, .inl (cI, 100, .inl (av 11))), (a 12, .inl (cI, 100, .inl (av 12)))] sz)) 0 0 (va_A [(h0, .inr (8, [.ref (a 1), .ref (a 2), .ref (a 3), .ref (a 4), .ref (a 5), .ref (a 6), .ref (a 7), .ref (a 8), .int (iv 0), .int (iv 1), .int (iv 2), .int (iv 3)])), (a 2, .inl (cM, 10, .inr (.inr (.inr (.inr fM))))), (a 4, .inr (7, [.ref (a 9), .ref (a 10), .ref (a 11), .ref (a 12), .int (iv 4)])), (a 9, .inl (cI, 100, .inl (av 9))), (a 10, .inl (cI, 100, .inl (av 10))), (a 11, .inl (cI, 100, .inl (av 11))), (a 12, .inl (cI, 100, .inl (av 12)))] sz) := by
  refine Met.ofW (cc := cX8_warn) (maxL := 3) (ret := (some .int)) (by decide) rfl ?_
  intro p e s m args below meth c s₁ B hml hv
  obtain ⟨rfl, hsz, hG, hP, hD0⟩ := hv
  have hx := B.exec
  have hb := B.bytes
  have hr := B.returns
  have hts := atoms_spec (ws := wsX8_warn) B.pre
  have hown : s.vm.findClass RX8 = some m.cls := findClass_of_methodNamed B.named
  have hlocks := B.notSynchronized
  have hK := hG.1
  have hN := hG.2
  subst hsz
  have hD := hD0.self (sz := s.heap.size)
  generalize hAe : va_A [(h0, .inr (8, [.ref (a 1), .ref (a 2), .ref (a 3), .ref (a 4), .ref (a 5), .ref (a 6), .ref (a 7), .ref (a 8), .int (iv 0), .int (iv 1), .int (iv 2), .int (iv 3)])), (a 2, .inl (cM, 10, .inr (.inr (.inr (.inr fM))))), (a 4, .inr (7, [.ref (a 9), .ref (a 10), .ref (a 11), .ref (a 12), .int (iv 4)])), (a 9, .inl (cI, 100, .inl (av 9))), (a 10, .inl (cI, 100, .inl (av 10))), (a 11, .inl (cI, 100, .inl (av 11))), (a 12, .inl (cI, 100, .inl (av 12)))] s.heap.size = A at hD ⊢
  have hA : ∀ q : Nat, s.heap.size ≤ q → A q := fun q h => by rw [← hAe]; exact Or.inr h
  have hS : va_S A s.heap s.heap [] := va_S.rf
  have hP : va_P D vwCl [(h0, .inr (8, [.ref (a 1), .ref (a 2), .ref (a 3), .ref (a 4), .ref (a 5), .ref (a 6), .ref (a 7), .ref (a 8), .int (iv 0), .int (iv 1), .int (iv 2), .int (iv 3)])), (a 2, .inl (cM, 10, .inr (.inr (.inr (.inr fM))))), (a 4, .inr (7, [.ref (a 9), .ref (a 10), .ref (a 11), .ref (a 12), .int (iv 4)])), (a 9, .inl (cI, 100, .inl (av 9))), (a 10, .inl (cI, 100, .inl (av 10))), (a 11, .inl (cI, 100, .inl (av 11))), (a 12, .inl (cI, 100, .inl (av 12)))] s.heap := hP
  have hl := lv_entry ([.ref h0, .int x1, .int x2]) (n := 3) (Nat.le_of_ble_eq_true rfl)
  rw [lg_entry_eq]
  generalize (lg_sl ([.ref h0, .int x1, .int x2]) ++ List.replicate (3 - (lg_sl ([.ref h0, .int x1, .int x2])).length) Slot.unset).toArray = ls at hl ⊢
  have hl : lv_has ls 3 [(0, .ref h0), (1, .int x1), (2, .int x2)] := hl
  refine lv_aload_n hx hb dX8_warn_0 rfl (lv_at hl 0 rfl) ?_
  refine lv_iload_n hx hb dX8_warn_1 rfl (lv_at hl 1 rfl) ?_
  rcases Classical.em (isM n0 x1) with ⟨m1_, hm1_, rfl⟩ | hno_1
  · have hl : lv_has ls 3 [(0, .ref h0), (1, .int (nI m1_)), (2, .int x2)] := hl
    have hPc := hP.sub (ws' := [(h0, .inr (8, [.ref (a 1), .ref (a 2), .ref (a 3), .ref (a 4), .ref (a 5), .ref (a 6), .ref (a 7), .ref (a 8), .int (iv 0), .int (iv 1), .int (iv 2), .int (iv 3)])), (a 2, .inl (cM, 10, .inr (.inr (.inr (.inr fM)))))]) [0, 1] rfl
    refine va_csq (va_Run.run (va_runV (As := [.int (nI m1_)]) (rest := []) ⟨hx, hb, hml, hown, hts⟩ (k_X8_known_y l D cI cJ cZ cM h0 a iv ma n0 fM hn0 hfM h_n m1_ hm1_) (cwV 1 hts gX8_warn_X8_known rfl rfl rfl (by decide +kernel) ⟨Nat.le_of_ble_eq_true rfl, Nat.le_of_ble_eq_true rfl⟩) (ro_V hG hPc (va_recv hK hPc (ci := 8) (q0 := 0) rfl rfl)) rfl rfl hl.1 rfl (lv_room (Nat.le_of_ble_eq_true rfl)) dX8_warn_2 ⟨Nat.le_of_ble_eq_true rfl, Nat.le_of_ble_eq_true rfl⟩)) (fun r_1 h_1 => ?_)
    obtain rfl : r_1 = some (ma m1_ 0) := h_1
    refine W.eq (g2 := F0 m 5 ls [.ref (ma m1_ 0)]) rfl ?_
    refine lv_ifnull hx hb dX8_warn_5 ?_
    refine lv_iload_n hx hb dX8_warn_8 rfl (lv_at hl 2 rfl) ?_
    refine lv_iconst (v := 1) hx hb dX8_warn_9 (by decide) ?_
    refine lv_bipush (v := 9) hx hb dX8_warn_10 (by decide) ?_
    refine vp_callSi (va_Run.run (va_runS (As := [.int x2, .int 1, .int 9]) (rest := []) ⟨hx, hb, hml, hown, hts⟩ (k_X8_within l x2 1 9) (va_cwS 3 hts gX8_warn_X8_within rfl rfl rfl (by decide +kernel) ⟨Nat.le_of_ble_eq_true rfl, Nat.le_of_ble_eq_true rfl⟩) preEq rfl rfl hl.1 rfl (lv_room (Nat.le_of_ble_eq_true rfl)) dX8_warn_12 ⟨Nat.le_of_ble_eq_true rfl, Nat.le_of_ble_eq_true rfl⟩)) (fun r_2 h_2 => ?_)
    rcases h_2 with ⟨rfl, h_2⟩ | ⟨rfl, h_2⟩
    · refine lv_if_ne (tgt := 20) hx hb dX8_warn_15 (by decide) (fun _ => ?_) (fun c_3 => False.elim (by revert c_3; decide))
      refine lv_aload_n hx hb dX8_warn_20 rfl (lv_at hl 0 rfl) ?_
      refine va_get (D := D) (ci := 8) (v := .ref (a 4)) (C := RX8) (T := TX8) (N := 12) hx hb hts (fun _ h9 => List.mem_cons_of_mem _ (List.mem_append_left _ (List.mem_append_right _ h9))) hown hK hP 0 rfl rfl 3 (by decide) (hts (.fieldLink RX8 25 "BuoyTender" "warnings" "LBuoyTender$Warnings;") (by decide +kernel)) (fun _ h9 => h9) rfl dX8_warn_21 ?_
      refine lv_iload_n hx hb dX8_warn_24 rfl (lv_at hl 1 rfl) ?_
      refine lv_iload_n hx hb dX8_warn_25 rfl (lv_at hl 2 rfl) ?_
      refine lv_aload_n hx hb dX8_warn_26 rfl (lv_at hl 0 rfl) ?_
      refine va_get (D := D) (ci := 8) (v := .int (iv 1)) (C := RX8) (T := TX8) (N := 12) hx hb hts (fun _ h9 => List.mem_cons_of_mem _ (List.mem_append_left _ (List.mem_append_right _ h9))) hown hK hP 0 rfl rfl 9 (by decide) (hts (.fieldLink RX8 120 "BuoyTender" "today" "I") (by decide +kernel)) (fun _ h9 => h9) rfl dX8_warn_27 ?_
      have hPc := hP.sub (ws' := [(a 4, .inr (7, [.ref (a 9), .ref (a 10), .ref (a 11), .ref (a 12), .int (iv 4)])), (a 9, .inl (cI, 100, .inl (av 9))), (a 10, .inl (cI, 100, .inl (av 10))), (a 11, .inl (cI, 100, .inl (av 11))), (a 12, .inl (cI, 100, .inl (av 12)))]) [2, 3, 4, 5, 6] rfl
      have hDc := hD.sub (ws' := [(a 4, .inr (7, [.ref (a 9), .ref (a 10), .ref (a 11), .ref (a 12), .int (iv 4)])), (a 9, .inl (cI, 100, .inl (av 9))), (a 10, .inl (cI, 100, .inl (av 10))), (a 11, .inl (cI, 100, .inl (av 11))), (a 12, .inl (cI, 100, .inl (av 12)))]) [2, 3, 4, 5, 6] (by decide) rfl
      have hFc := va_free (wc := [(a 4, .inr (7, [.ref (a 9), .ref (a 10), .ref (a 11), .ref (a 12), .int (iv 4)])), (a 9, .inl (cI, 100, .inl (av 9))), (a 10, .inl (cI, 100, .inl (av 10))), (a 11, .inl (cI, 100, .inl (av 11))), (a 12, .inl (cI, 100, .inl (av 12)))]) hD hS hA [2, 3, 4, 5, 6] rfl
      refine va_calli (va_runVN (As := [.int (nI m1_), .int x2, .int (iv 1)]) (rest := []) ⟨hx, hb, hml, hown, hts⟩ (k_X7_tell l D cI cJ cZ cM a iv av wc h_w hwc (nI m1_) x2 (iv 1) _) ⟨(va_cnB 3 hts gX8_warn_X7_tell_n189 rfl rfl rfl (hN.2.1 (RX8, 189, yX7_tell, "BuoyTender") (by decide +kernel)) (hts (.initialized RX7) (by decide +kernel)) (by decide +kernel) ⟨Nat.le_of_ble_eq_true rfl, Nat.le_of_ble_eq_true rfl⟩), hts (.instanceMethod yX7_tell) (by decide +kernel), hts (.selects RX7 yX7_tell yX7_tell) (by decide +kernel)⟩ (rw_V hG hPc hDc (va_recv hK hPc (ci := 7) (q0 := 0) rfl rfl)) rfl rfl hl.1 rfl (lv_room (Nat.le_of_ble_eq_true rfl)) dX8_warn_30 ⟨Nat.le_of_ble_eq_true rfl, Nat.le_of_ble_eq_true rfl⟩) hS (fun q _ h => hFc q h) hFc (fun r_4 u_4 t_4 H1 locs ht hvm hw hB hz1 hk1 hS => ?_)
      obtain ⟨i4_4, f9_4, f10_4, f11_4, f12_4⟩ := u_4
      obtain ⟨hP1, hD1⟩ := hB
      rw [ht] at hP1
      obtain ⟨hP, hD⟩ := va_join (wr := [(h0, .inr (8, [.ref (a 1), .ref (a 2), .ref (a 3), .ref (a 4), .ref (a 5), .ref (a 6), .ref (a 7), .ref (a 8), .int (iv 0), .int (iv 1), .int (iv 2), .int (iv 3)])), (a 2, .inl (cM, 10, .inr (.inr (.inr (.inr fM)))))]) (w1 := [(a 4, .inr (7, [.ref (a 9), .ref (a 10), .ref (a 11), .ref (a 12), .int i4_4])), (a 9, .inl (cI, 100, .inl f9_4)), (a 10, .inl (cI, 100, .inl f10_4)), (a 11, .inl (cI, 100, .inl f11_4)), (a 12, .inl (cI, 100, .inl f12_4))]) hP hD [2, 3, 4, 5, 6] [0, 1] rfl rfl (by decide) (by decide) hk1 hFc hP1 hD1
      generalize H1 = H at hP hS ⊢
      have hP : va_P D vwCl [(h0, .inr (8, [.ref (a 1), .ref (a 2), .ref (a 3), .ref (a 4), .ref (a 5), .ref (a 6), .ref (a 7), .ref (a 8), .int (iv 0), .int (iv 1), .int (iv 2), .int (iv 3)])), (a 2, .inl (cM, 10, .inr (.inr (.inr (.inr fM))))), (a 4, .inr (7, [.ref (a 9), .ref (a 10), .ref (a 11), .ref (a 12), .int i4_4])), (a 9, .inl (cI, 100, .inl f9_4)), (a 10, .inl (cI, 100, .inl f10_4)), (a 11, .inl (cI, 100, .inl f11_4)), (a 12, .inl (cI, 100, .inl f12_4))] H := hP
      have hD : va_D A [(h0, .inr (8, [.ref (a 1), .ref (a 2), .ref (a 3), .ref (a 4), .ref (a 5), .ref (a 6), .ref (a 7), .ref (a 8), .int (iv 0), .int (iv 1), .int (iv 2), .int (iv 3)])), (a 2, .inl (cM, 10, .inr (.inr (.inr (.inr fM))))), (a 4, .inr (7, [.ref (a 9), .ref (a 10), .ref (a 11), .ref (a 12), .int i4_4])), (a 9, .inl (cI, 100, .inl f9_4)), (a 10, .inl (cI, 100, .inl f10_4)), (a 11, .inl (cI, 100, .inl f11_4)), (a 12, .inl (cI, 100, .inl f12_4))] := hD
      have hw_4 := hw
      have hP9 := hP.sub (ws' := [(h0, .inr (8, [.ref (a 1), .ref (a 2), .ref (a 3), .ref (a 4), .ref (a 5), .ref (a 6), .ref (a 7), .ref (a 8), .int (iv 0), .int (iv 1), .int (iv 2), .int (iv 3)])), (a 2, .inl (cM, 10, .inr (.inr (.inr (.inr fM))))), (a 4, .inr (7, [.ref (a 9), .ref (a 10), .ref (a 11), .ref (a 12), .int i4_4])), (a 9, .inl (cI, 100, .inl f9_4)), (a 10, .inl (cI, 100, .inl f10_4)), (a 11, .inl (cI, 100, .inl f11_4)), (a 12, .inl (cI, 100, .inl f12_4))]) [0, 1, 2, 3, 4, 5, 6] rfl
      have hD9 := hD.sub (ws' := [(h0, .inr (8, [.ref (a 1), .ref (a 2), .ref (a 3), .ref (a 4), .ref (a 5), .ref (a 6), .ref (a 7), .ref (a 8), .int (iv 0), .int (iv 1), .int (iv 2), .int (iv 3)])), (a 2, .inl (cM, 10, .inr (.inr (.inr (.inr fM))))), (a 4, .inr (7, [.ref (a 9), .ref (a 10), .ref (a 11), .ref (a 12), .int i4_4])), (a 9, .inl (cI, 100, .inl f9_4)), (a 10, .inl (cI, 100, .inl f10_4)), (a 11, .inl (cI, 100, .inl f11_4)), (a 12, .inl (cI, 100, .inl f12_4))]) [0, 1, 2, 3, 4, 5, 6] (by decide) rfl
      exact W.iret (v := r_4) hx hb hr (fun t ht hW => ⟨⟨r_4, (i4_4, f9_4, f10_4, f11_4, f12_4), rfl, (wn_join ⟨m1_, hm1_, rfl⟩ h_2 hw_4), ⟨by rw [ht]; exact hP9, hD9⟩⟩, hS.F ht⟩) hS.2.2 dX8_warn_33
    refine lv_if_ne (tgt := 20) hx hb dX8_warn_15 (by decide) (fun c_5 => False.elim (by revert c_5; decide)) (fun _ => ?_)
    refine lv_iconst (v := (-1)) hx hb dX8_warn_18 (by decide) ?_
    have hP9 := hP.sub (ws' := [(h0, .inr (8, [.ref (a 1), .ref (a 2), .ref (a 3), .ref (a 4), .ref (a 5), .ref (a 6), .ref (a 7), .ref (a 8), .int (iv 0), .int (iv 1), .int (iv 2), .int (iv 3)])), (a 2, .inl (cM, 10, .inr (.inr (.inr (.inr fM))))), (a 4, .inr (7, [.ref (a 9), .ref (a 10), .ref (a 11), .ref (a 12), .int (iv 4)])), (a 9, .inl (cI, 100, .inl (av 9))), (a 10, .inl (cI, 100, .inl (av 10))), (a 11, .inl (cI, 100, .inl (av 11))), (a 12, .inl (cI, 100, .inl (av 12)))]) [0, 1, 2, 3, 4, 5, 6] rfl
    have hD9 := hD.sub (ws' := [(h0, .inr (8, [.ref (a 1), .ref (a 2), .ref (a 3), .ref (a 4), .ref (a 5), .ref (a 6), .ref (a 7), .ref (a 8), .int (iv 0), .int (iv 1), .int (iv 2), .int (iv 3)])), (a 2, .inl (cM, 10, .inr (.inr (.inr (.inr fM))))), (a 4, .inr (7, [.ref (a 9), .ref (a 10), .ref (a 11), .ref (a 12), .int (iv 4)])), (a 9, .inl (cI, 100, .inl (av 9))), (a 10, .inl (cI, 100, .inl (av 10))), (a 11, .inl (cI, 100, .inl (av 11))), (a 12, .inl (cI, 100, .inl (av 12)))]) [0, 1, 2, 3, 4, 5, 6] (by decide) rfl
    exact W.iret (v := (-1)) hx hb hr (fun t ht hW => ⟨⟨(-1), (iv 4, av 9, av 10, av 11, av 12), rfl, (Or.inr ⟨rfl, fun h9 => h_2 (h9.2.1), rfl⟩), ⟨by rw [ht]; exact hP9, hD9⟩⟩, hS.F ht⟩) hS.2.2 dX8_warn_19
  · have hPc := hP.sub (ws' := [(h0, .inr (8, [.ref (a 1), .ref (a 2), .ref (a 3), .ref (a 4), .ref (a 5), .ref (a 6), .ref (a 7), .ref (a 8), .int (iv 0), .int (iv 1), .int (iv 2), .int (iv 3)])), (a 2, .inl (cM, 10, .inr (.inr (.inr (.inr fM)))))]) [0, 1] rfl
    refine va_csq (va_Run.run (va_runV (As := [.int x1]) (rest := []) ⟨hx, hb, hml, hown, hts⟩ (k_X8_known_n l D cI cJ cZ cM h0 a iv ma n0 fM hn0 hfM h_n x1 hno_1) (cwV 1 hts gX8_warn_X8_known rfl rfl rfl (by decide +kernel) ⟨Nat.le_of_ble_eq_true rfl, Nat.le_of_ble_eq_true rfl⟩) (ro_V hG hPc (va_recv hK hPc (ci := 8) (q0 := 0) rfl rfl)) rfl rfl hl.1 rfl (lv_room (Nat.le_of_ble_eq_true rfl)) dX8_warn_2 ⟨Nat.le_of_ble_eq_true rfl, Nat.le_of_ble_eq_true rfl⟩)) (fun r_1 h_1 => ?_)
    obtain rfl : r_1 = none := h_1
    refine W.eq (g2 := F0 m 5 ls [.null]) rfl ?_
    refine lv_ifnullN (tgt := 18) hx hb dX8_warn_5 (by decide) ?_
    refine lv_iconst (v := (-1)) hx hb dX8_warn_18 (by decide) ?_
    have hP9 := hP.sub (ws' := [(h0, .inr (8, [.ref (a 1), .ref (a 2), .ref (a 3), .ref (a 4), .ref (a 5), .ref (a 6), .ref (a 7), .ref (a 8), .int (iv 0), .int (iv 1), .int (iv 2), .int (iv 3)])), (a 2, .inl (cM, 10, .inr (.inr (.inr (.inr fM))))), (a 4, .inr (7, [.ref (a 9), .ref (a 10), .ref (a 11), .ref (a 12), .int (iv 4)])), (a 9, .inl (cI, 100, .inl (av 9))), (a 10, .inl (cI, 100, .inl (av 10))), (a 11, .inl (cI, 100, .inl (av 11))), (a 12, .inl (cI, 100, .inl (av 12)))]) [0, 1, 2, 3, 4, 5, 6] rfl
    have hD9 := hD.sub (ws' := [(h0, .inr (8, [.ref (a 1), .ref (a 2), .ref (a 3), .ref (a 4), .ref (a 5), .ref (a 6), .ref (a 7), .ref (a 8), .int (iv 0), .int (iv 1), .int (iv 2), .int (iv 3)])), (a 2, .inl (cM, 10, .inr (.inr (.inr (.inr fM))))), (a 4, .inr (7, [.ref (a 9), .ref (a 10), .ref (a 11), .ref (a 12), .int (iv 4)])), (a 9, .inl (cI, 100, .inl (av 9))), (a 10, .inl (cI, 100, .inl (av 10))), (a 11, .inl (cI, 100, .inl (av 11))), (a 12, .inl (cI, 100, .inl (av 12)))]) [0, 1, 2, 3, 4, 5, 6] (by decide) rfl
    exact W.iret (v := (-1)) hx hb hr (fun t ht hW => ⟨⟨(-1), (iv 4, av 9, av 10, av 11, av 12), rfl, (Or.inr ⟨rfl, fun h9 => hno_1 (h9.1), rfl⟩), ⟨by rw [ht]; exact hP9, hD9⟩⟩, hS.F ht⟩) hS.2.2 dX8_warn_19
set_option maxHeartbeats 4000000 in
set_option maxRecDepth 100000 in
/-- X7_end -/
theorem k_X7_end (l : Launch) (D : va_G) (cI cJ cZ cM : Nat) (a : Nat → Nat) (iv : Nat → Int32) (av : Nat → Nat → Int32) (wc : Nat) (h_w : iv 4 = nI wc) (hwc : wc ≤ 100) (x1 : Int32) (x2 : Int32) (sz : Nat) : Met l yX7_end wsX7_end ({ frames := 1, cells := 0, slots := 0, locals := 21 } : Room) (RW D cI cJ cZ cM [.ref (a 4), .int x1, .int x2] [(a 4, .inr (7, [.ref (a 9), .ref (a 10), .ref (a 11), .ref (a 12), .int (iv 4)])), (a 9, .inl (cI, 100, .inl (av 9))), (a 10, .inl (cI, 100, .inl (av 10))), (a 11, .inl (cI, 100, .inl (av 11))), (a 12, .inl (cI, 100, .inl (av 12)))] sz) (va_Qi (S := (Nat → Int32)) (fun r u => (r = 1 ∧ ∃ i, i < wc ∧ x1 = nI i ∧ av 12 i = -1 ∧ u = upd (av 12) i x2) ∨ (r = 0 ∧ (¬ ∃ i, i < wc ∧ x1 = nI i ∧ av 12 i = -1) ∧ u = av 12)) (BB D (fun u => [(a 4, .inr (7, [.ref (a 9), .ref (a 10), .ref (a 11), .ref (a 12), .int (iv 4)])), (a 9, .inl (cI, 100, .inl (av 9))), (a 10, .inl (cI, 100, .inl (av 10))), (a 11, .inl (cI, 100, .inl (av 11))), (a 12, .inl (cI, 100, .inl u))]) (va_A [(a 4, .inr (7, [.ref (a 9), .ref (a 10), .ref (a 11), .ref (a 12), .int (iv 4)])), (a 9, .inl (cI, 100, .inl (av 9))), (a 10, .inl (cI, 100, .inl (av 10))), (a 11, .inl (cI, 100, .inl (av 11))), (a 12, .inl (cI, 100, .inl (av 12)))] sz)) (va_A [(a 4, .inr (7, [.ref (a 9), .ref (a 10), .ref (a 11), .ref (a 12), .int (iv 4)])), (a 9, .inl (cI, 100, .inl (av 9))), (a 10, .inl (cI, 100, .inl (av 10))), (a 11, .inl (cI, 100, .inl (av 11))), (a 12, .inl (cI, 100, .inl (av 12)))] sz)) 0 0 (va_A [(a 4, .inr (7, [.ref (a 9), .ref (a 10), .ref (a 11), .ref (a 12), .int (iv 4)])), (a 9, .inl (cI, 100, .inl (av 9))), (a 10, .inl (cI, 100, .inl (av 10))), (a 11, .inl (cI, 100, .inl (av 11))), (a 12, .inl (cI, 100, .inl (av 12)))] sz) := by
  refine Met.ofW (cc := cX7_end) (maxL := 3) (ret := (some .boolean)) (by decide) rfl ?_
  intro p e s m args below meth c s₁ B hml hv
  obtain ⟨rfl, hsz, hG, hP, hD0⟩ := hv
  have hx := B.exec
  have hb := B.bytes
  have hr := B.returns
  have hts := atoms_spec (ws := wsX7_end) B.pre
  have hown : s.vm.findClass RX7 = some m.cls := findClass_of_methodNamed B.named
  have hlocks := B.notSynchronized
  have hK := hG.1
  have hN := hG.2
  subst hsz
  have hD := hD0.self (sz := s.heap.size)
  generalize hAe : va_A [(a 4, .inr (7, [.ref (a 9), .ref (a 10), .ref (a 11), .ref (a 12), .int (iv 4)])), (a 9, .inl (cI, 100, .inl (av 9))), (a 10, .inl (cI, 100, .inl (av 10))), (a 11, .inl (cI, 100, .inl (av 11))), (a 12, .inl (cI, 100, .inl (av 12)))] s.heap.size = A at hD ⊢
  have hA : ∀ q : Nat, s.heap.size ≤ q → A q := fun q h => by rw [← hAe]; exact Or.inr h
  have hS : va_S A s.heap s.heap [] := va_S.rf
  have hP : va_P D vwCl [(a 4, .inr (7, [.ref (a 9), .ref (a 10), .ref (a 11), .ref (a 12), .int (iv 4)])), (a 9, .inl (cI, 100, .inl (av 9))), (a 10, .inl (cI, 100, .inl (av 10))), (a 11, .inl (cI, 100, .inl (av 11))), (a 12, .inl (cI, 100, .inl (av 12)))] s.heap := hP
  have hl := lv_entry ([.ref (a 4), .int x1, .int x2]) (n := 3) (Nat.le_of_ble_eq_true rfl)
  rw [lg_entry_eq]
  generalize (lg_sl ([.ref (a 4), .int x1, .int x2]) ++ List.replicate (3 - (lg_sl ([.ref (a 4), .int x1, .int x2])).length) Slot.unset).toArray = ls at hl ⊢
  have hl : lv_has ls 3 [(0, .ref (a 4)), (1, .int x1), (2, .int x2)] := hl
  refine lv_aload_n hx hb dX7_end_0 rfl (lv_at hl 0 rfl) ?_
  refine lv_iload_n hx hb dX7_end_1 rfl (lv_at hl 1 rfl) ?_
  have hPc := hP.sub (ws' := [(a 4, .inr (7, [.ref (a 9), .ref (a 10), .ref (a 11), .ref (a 12), .int (iv 4)]))]) [0] rfl
  refine vp_callSi (va_Run.run (va_runV (As := [.int x1]) (rest := []) ⟨hx, hb, hml, hown, hts⟩ (k_X7_has l D cI cJ cZ cM a iv wc h_w hwc x1) (cwV 1 hts gX7_end_X7_has rfl rfl rfl (by decide +kernel) ⟨Nat.le_of_ble_eq_true rfl, Nat.le_of_ble_eq_true rfl⟩) (ro_V hG hPc (va_recv hK hPc (ci := 7) (q0 := 0) rfl rfl)) rfl rfl hl.1 rfl (lv_room (Nat.le_of_ble_eq_true rfl)) dX7_end_2 ⟨Nat.le_of_ble_eq_true rfl, Nat.le_of_ble_eq_true rfl⟩)) (fun r_1 h_1 => ?_)
  rcases h_1 with ⟨rfl, w1_, hw1_, rfl⟩ | ⟨rfl, h_1⟩
  · have hl : lv_has ls 3 [(0, .ref (a 4)), (1, .int (nI w1_)), (2, .int x2)] := hl
    refine W.eq (g2 := F0 m 5 ls [.int 1]) rfl ?_
    refine lv_if_eq (tgt := 18) hx hb dX7_end_5 (by decide) (fun c_2 => False.elim (by revert c_2; decide)) (fun _ => ?_)
    refine lv_aload_n hx hb dX7_end_8 rfl (lv_at hl 0 rfl) ?_
    refine va_get (D := D) (ci := 7) (v := .ref (a 12)) (C := RX7) (T := TX7) (N := 5) hx hb hts (fun _ h9 => List.mem_cons_of_mem _ (List.mem_append_right _ h9)) hown hK hP 0 rfl rfl 3 (by decide) (hts (.fieldLink RX7 21 "BuoyTender$Warnings" "cancelledOn" "[I") (by decide +kernel)) (fun _ h9 => h9) rfl dX7_end_9 ?_
    refine lv_iload_n hx hb dX7_end_12 rfl (lv_at hl 1 rfl) ?_
    refine va_iald hx hb hK hP 4 0 rfl rfl (vp_in_nI (by omega) (by decide)) dX7_end_13 ?_
    refine lv_topi (fun z_3 ez_3 => ?_)
    obtain rfl : z_3 = (av 12) w1_ := ez_3.trans (congrArg (av 12) (nI_clamp (by omega)))
    refine lv_iconst (v := (-1)) hx hb dX7_end_14 (by decide) ?_
    refine lv_icmp_eq (tgt := 20) hx hb dX7_end_15 (by decide) (fun c_4 => ?_) (fun c_4 => ?_)
    · refine lv_aload_n hx hb dX7_end_20 rfl (lv_at hl 0 rfl) ?_
      refine va_get (D := D) (ci := 7) (v := .ref (a 12)) (C := RX7) (T := TX7) (N := 5) hx hb hts (fun _ h9 => List.mem_cons_of_mem _ (List.mem_append_right _ h9)) hown hK hP 0 rfl rfl 3 (by decide) (hts (.fieldLink RX7 21 "BuoyTender$Warnings" "cancelledOn" "[I") (by decide +kernel)) (fun _ h9 => h9) rfl dX7_end_21 ?_
      refine lv_iload_n hx hb dX7_end_24 rfl (lv_at hl 1 rfl) ?_
      refine lv_iload_n hx hb dX7_end_25 rfl (lv_at hl 2 rfl) ?_
      refine va_iast hx hb hK hP hD hS 4 0 rfl rfl (vp_in_nI (by omega) (by decide)) dX7_end_26 (fun H locs hP hD hS => ?_)
      rw [nI_clamp (by omega)] at hP hD
      have hP : va_P D vwCl [(a 4, .inr (7, [.ref (a 9), .ref (a 10), .ref (a 11), .ref (a 12), .int (iv 4)])), (a 9, .inl (cI, 100, .inl (av 9))), (a 10, .inl (cI, 100, .inl (av 10))), (a 11, .inl (cI, 100, .inl (av 11))), (a 12, .inl (cI, 100, .inl (upd (av 12) w1_ x2)))] H := hP
      have hD : va_D A [(a 4, .inr (7, [.ref (a 9), .ref (a 10), .ref (a 11), .ref (a 12), .int (iv 4)])), (a 9, .inl (cI, 100, .inl (av 9))), (a 10, .inl (cI, 100, .inl (av 10))), (a 11, .inl (cI, 100, .inl (av 11))), (a 12, .inl (cI, 100, .inl (upd (av 12) w1_ x2)))] := hD
      refine lv_iconst (v := 1) hx hb dX7_end_27 (by decide) ?_
      have hP9 := hP.sub (ws' := [(a 4, .inr (7, [.ref (a 9), .ref (a 10), .ref (a 11), .ref (a 12), .int (iv 4)])), (a 9, .inl (cI, 100, .inl (av 9))), (a 10, .inl (cI, 100, .inl (av 10))), (a 11, .inl (cI, 100, .inl (av 11))), (a 12, .inl (cI, 100, .inl (upd (av 12) w1_ x2)))]) [0, 1, 2, 3, 4] rfl
      have hD9 := hD.sub (ws' := [(a 4, .inr (7, [.ref (a 9), .ref (a 10), .ref (a 11), .ref (a 12), .int (iv 4)])), (a 9, .inl (cI, 100, .inl (av 9))), (a 10, .inl (cI, 100, .inl (av 10))), (a 11, .inl (cI, 100, .inl (av 11))), (a 12, .inl (cI, 100, .inl (upd (av 12) w1_ x2)))]) [0, 1, 2, 3, 4] (by decide) rfl
      exact W.zret (v := 1) hx hb hr rfl (fun t ht hW => ⟨⟨1, (upd (av 12) w1_ x2), rfl, (Or.inl ⟨rfl, _, hw1_, rfl, c_4, rfl⟩), ⟨by rw [ht]; exact hP9, hD9⟩⟩, hS.F ht⟩) hS.2.2 dX7_end_28
    refine lv_iconst (v := 0) hx hb dX7_end_18 (by decide) ?_
    have hP9 := hP.sub (ws' := [(a 4, .inr (7, [.ref (a 9), .ref (a 10), .ref (a 11), .ref (a 12), .int (iv 4)])), (a 9, .inl (cI, 100, .inl (av 9))), (a 10, .inl (cI, 100, .inl (av 10))), (a 11, .inl (cI, 100, .inl (av 11))), (a 12, .inl (cI, 100, .inl (av 12)))]) [0, 1, 2, 3, 4] rfl
    have hD9 := hD.sub (ws' := [(a 4, .inr (7, [.ref (a 9), .ref (a 10), .ref (a 11), .ref (a 12), .int (iv 4)])), (a 9, .inl (cI, 100, .inl (av 9))), (a 10, .inl (cI, 100, .inl (av 10))), (a 11, .inl (cI, 100, .inl (av 11))), (a 12, .inl (cI, 100, .inl (av 12)))]) [0, 1, 2, 3, 4] (by decide) rfl
    exact W.zret (v := 0) hx hb hr rfl (fun t ht hW => ⟨⟨0, av 12, rfl, (Or.inr ⟨rfl, fun ⟨i, h1, h2, h3⟩ => c_4 (by have := (nI_inj9 (by omega) (by omega)).mp h2; subst this; exact h3), rfl⟩), ⟨by rw [ht]; exact hP9, hD9⟩⟩, hS.F ht⟩) hS.2.2 dX7_end_19
  refine lv_if_eq (tgt := 18) hx hb dX7_end_5 (by decide) (fun _ => ?_) (fun c_5 => False.elim (by revert c_5; decide))
  refine lv_iconst (v := 0) hx hb dX7_end_18 (by decide) ?_
  have hP9 := hP.sub (ws' := [(a 4, .inr (7, [.ref (a 9), .ref (a 10), .ref (a 11), .ref (a 12), .int (iv 4)])), (a 9, .inl (cI, 100, .inl (av 9))), (a 10, .inl (cI, 100, .inl (av 10))), (a 11, .inl (cI, 100, .inl (av 11))), (a 12, .inl (cI, 100, .inl (av 12)))]) [0, 1, 2, 3, 4] rfl
  have hD9 := hD.sub (ws' := [(a 4, .inr (7, [.ref (a 9), .ref (a 10), .ref (a 11), .ref (a 12), .int (iv 4)])), (a 9, .inl (cI, 100, .inl (av 9))), (a 10, .inl (cI, 100, .inl (av 10))), (a 11, .inl (cI, 100, .inl (av 11))), (a 12, .inl (cI, 100, .inl (av 12)))]) [0, 1, 2, 3, 4] (by decide) rfl
  exact W.zret (v := 0) hx hb hr rfl (fun t ht hW => ⟨⟨0, av 12, rfl, (Or.inr ⟨rfl, fun ⟨i, h1, h2, _⟩ => h_1 ⟨i, h1, h2⟩, rfl⟩), ⟨by rw [ht]; exact hP9, hD9⟩⟩, hS.F ht⟩) hS.2.2 dX7_end_19
set_option maxHeartbeats 4000000 in
set_option maxRecDepth 100000 in
/-- X8_cancel -/
theorem k_X8_cancel (l : Launch) (D : va_G) (cI cJ cZ cM : Nat) (h0 : Nat) (a : Nat → Nat) (iv : Nat → Int32) (av : Nat → Nat → Int32) (wc : Nat) (h_w : iv 4 = nI wc) (hwc : wc ≤ 100) (x1 : Int32) (sz : Nat) : Met l yX8_cancel wsX8_cancel ({ frames := 2, cells := 0, slots := 0, locals := 43 } : Room) (RW D cI cJ cZ cM [.ref h0, .int x1] [(h0, .inr (8, [.ref (a 1), .ref (a 2), .ref (a 3), .ref (a 4), .ref (a 5), .ref (a 6), .ref (a 7), .ref (a 8), .int (iv 0), .int (iv 1), .int (iv 2), .int (iv 3)])), (a 4, .inr (7, [.ref (a 9), .ref (a 10), .ref (a 11), .ref (a 12), .int (iv 4)])), (a 9, .inl (cI, 100, .inl (av 9))), (a 10, .inl (cI, 100, .inl (av 10))), (a 11, .inl (cI, 100, .inl (av 11))), (a 12, .inl (cI, 100, .inl (av 12)))] sz) (va_Qi (S := (Nat → Int32)) (fun r u => (r = 1 ∧ ∃ i, i < wc ∧ x1 = nI i ∧ av 12 i = -1 ∧ u = upd (av 12) i (iv 1)) ∨ (r = 0 ∧ (¬ ∃ i, i < wc ∧ x1 = nI i ∧ av 12 i = -1) ∧ u = av 12)) (BB D (fun u => [(h0, .inr (8, [.ref (a 1), .ref (a 2), .ref (a 3), .ref (a 4), .ref (a 5), .ref (a 6), .ref (a 7), .ref (a 8), .int (iv 0), .int (iv 1), .int (iv 2), .int (iv 3)])), (a 4, .inr (7, [.ref (a 9), .ref (a 10), .ref (a 11), .ref (a 12), .int (iv 4)])), (a 9, .inl (cI, 100, .inl (av 9))), (a 10, .inl (cI, 100, .inl (av 10))), (a 11, .inl (cI, 100, .inl (av 11))), (a 12, .inl (cI, 100, .inl u))]) (va_A [(h0, .inr (8, [.ref (a 1), .ref (a 2), .ref (a 3), .ref (a 4), .ref (a 5), .ref (a 6), .ref (a 7), .ref (a 8), .int (iv 0), .int (iv 1), .int (iv 2), .int (iv 3)])), (a 4, .inr (7, [.ref (a 9), .ref (a 10), .ref (a 11), .ref (a 12), .int (iv 4)])), (a 9, .inl (cI, 100, .inl (av 9))), (a 10, .inl (cI, 100, .inl (av 10))), (a 11, .inl (cI, 100, .inl (av 11))), (a 12, .inl (cI, 100, .inl (av 12)))] sz)) (va_A [(h0, .inr (8, [.ref (a 1), .ref (a 2), .ref (a 3), .ref (a 4), .ref (a 5), .ref (a 6), .ref (a 7), .ref (a 8), .int (iv 0), .int (iv 1), .int (iv 2), .int (iv 3)])), (a 4, .inr (7, [.ref (a 9), .ref (a 10), .ref (a 11), .ref (a 12), .int (iv 4)])), (a 9, .inl (cI, 100, .inl (av 9))), (a 10, .inl (cI, 100, .inl (av 10))), (a 11, .inl (cI, 100, .inl (av 11))), (a 12, .inl (cI, 100, .inl (av 12)))] sz)) 0 0 (va_A [(h0, .inr (8, [.ref (a 1), .ref (a 2), .ref (a 3), .ref (a 4), .ref (a 5), .ref (a 6), .ref (a 7), .ref (a 8), .int (iv 0), .int (iv 1), .int (iv 2), .int (iv 3)])), (a 4, .inr (7, [.ref (a 9), .ref (a 10), .ref (a 11), .ref (a 12), .int (iv 4)])), (a 9, .inl (cI, 100, .inl (av 9))), (a 10, .inl (cI, 100, .inl (av 10))), (a 11, .inl (cI, 100, .inl (av 11))), (a 12, .inl (cI, 100, .inl (av 12)))] sz) := by
  refine Met.ofW (cc := cX8_cancel) (maxL := 2) (ret := (some .boolean)) (by decide) rfl ?_
  intro p e s m args below meth c s₁ B hml hv
  obtain ⟨rfl, hsz, hG, hP, hD0⟩ := hv
  have hx := B.exec
  have hb := B.bytes
  have hr := B.returns
  have hts := atoms_spec (ws := wsX8_cancel) B.pre
  have hown : s.vm.findClass RX8 = some m.cls := findClass_of_methodNamed B.named
  have hlocks := B.notSynchronized
  have hK := hG.1
  have hN := hG.2
  subst hsz
  have hD := hD0.self (sz := s.heap.size)
  generalize hAe : va_A [(h0, .inr (8, [.ref (a 1), .ref (a 2), .ref (a 3), .ref (a 4), .ref (a 5), .ref (a 6), .ref (a 7), .ref (a 8), .int (iv 0), .int (iv 1), .int (iv 2), .int (iv 3)])), (a 4, .inr (7, [.ref (a 9), .ref (a 10), .ref (a 11), .ref (a 12), .int (iv 4)])), (a 9, .inl (cI, 100, .inl (av 9))), (a 10, .inl (cI, 100, .inl (av 10))), (a 11, .inl (cI, 100, .inl (av 11))), (a 12, .inl (cI, 100, .inl (av 12)))] s.heap.size = A at hD ⊢
  have hA : ∀ q : Nat, s.heap.size ≤ q → A q := fun q h => by rw [← hAe]; exact Or.inr h
  have hS : va_S A s.heap s.heap [] := va_S.rf
  have hP : va_P D vwCl [(h0, .inr (8, [.ref (a 1), .ref (a 2), .ref (a 3), .ref (a 4), .ref (a 5), .ref (a 6), .ref (a 7), .ref (a 8), .int (iv 0), .int (iv 1), .int (iv 2), .int (iv 3)])), (a 4, .inr (7, [.ref (a 9), .ref (a 10), .ref (a 11), .ref (a 12), .int (iv 4)])), (a 9, .inl (cI, 100, .inl (av 9))), (a 10, .inl (cI, 100, .inl (av 10))), (a 11, .inl (cI, 100, .inl (av 11))), (a 12, .inl (cI, 100, .inl (av 12)))] s.heap := hP
  have hl := lv_entry ([.ref h0, .int x1]) (n := 2) (Nat.le_of_ble_eq_true rfl)
  rw [lg_entry_eq]
  generalize (lg_sl ([.ref h0, .int x1]) ++ List.replicate (2 - (lg_sl ([.ref h0, .int x1])).length) Slot.unset).toArray = ls at hl ⊢
  have hl : lv_has ls 2 [(0, .ref h0), (1, .int x1)] := hl
  refine lv_aload_n hx hb dX8_cancel_0 rfl (lv_at hl 0 rfl) ?_
  refine va_get (D := D) (ci := 8) (v := .ref (a 4)) (C := RX8) (T := TX8) (N := 12) hx hb hts (fun _ h9 => List.mem_cons_of_mem _ (List.mem_append_left _ (List.mem_append_right _ h9))) hown hK hP 0 rfl rfl 3 (by decide) (hts (.fieldLink RX8 25 "BuoyTender" "warnings" "LBuoyTender$Warnings;") (by decide +kernel)) (fun _ h9 => h9) rfl dX8_cancel_1 ?_
  refine lv_iload_n hx hb dX8_cancel_4 rfl (lv_at hl 1 rfl) ?_
  refine lv_aload_n hx hb dX8_cancel_5 rfl (lv_at hl 0 rfl) ?_
  refine va_get (D := D) (ci := 8) (v := .int (iv 1)) (C := RX8) (T := TX8) (N := 12) hx hb hts (fun _ h9 => List.mem_cons_of_mem _ (List.mem_append_left _ (List.mem_append_right _ h9))) hown hK hP 0 rfl rfl 9 (by decide) (hts (.fieldLink RX8 120 "BuoyTender" "today" "I") (by decide +kernel)) (fun _ h9 => h9) rfl dX8_cancel_6 ?_
  have hPc := hP.sub (ws' := [(a 4, .inr (7, [.ref (a 9), .ref (a 10), .ref (a 11), .ref (a 12), .int (iv 4)])), (a 9, .inl (cI, 100, .inl (av 9))), (a 10, .inl (cI, 100, .inl (av 10))), (a 11, .inl (cI, 100, .inl (av 11))), (a 12, .inl (cI, 100, .inl (av 12)))]) [1, 2, 3, 4, 5] rfl
  have hDc := hD.sub (ws' := [(a 4, .inr (7, [.ref (a 9), .ref (a 10), .ref (a 11), .ref (a 12), .int (iv 4)])), (a 9, .inl (cI, 100, .inl (av 9))), (a 10, .inl (cI, 100, .inl (av 10))), (a 11, .inl (cI, 100, .inl (av 11))), (a 12, .inl (cI, 100, .inl (av 12)))]) [1, 2, 3, 4, 5] (by decide) rfl
  have hFc := va_free (wc := [(a 4, .inr (7, [.ref (a 9), .ref (a 10), .ref (a 11), .ref (a 12), .int (iv 4)])), (a 9, .inl (cI, 100, .inl (av 9))), (a 10, .inl (cI, 100, .inl (av 10))), (a 11, .inl (cI, 100, .inl (av 11))), (a 12, .inl (cI, 100, .inl (av 12)))]) hD hS hA [1, 2, 3, 4, 5] rfl
  refine va_calli (va_runVN (As := [.int x1, .int (iv 1)]) (rest := []) ⟨hx, hb, hml, hown, hts⟩ (k_X7_end l D cI cJ cZ cM a iv av wc h_w hwc x1 (iv 1) _) ⟨(va_cnB 2 hts gX8_cancel_X7_end_n193 rfl rfl rfl (hN.2.1 (RX8, 193, yX7_end, "BuoyTender") (by decide +kernel)) (hts (.initialized RX7) (by decide +kernel)) (by decide +kernel) ⟨Nat.le_of_ble_eq_true rfl, Nat.le_of_ble_eq_true rfl⟩), hts (.instanceMethod yX7_end) (by decide +kernel), hts (.selects RX7 yX7_end yX7_end) (by decide +kernel)⟩ (rw_V hG hPc hDc (va_recv hK hPc (ci := 7) (q0 := 0) rfl rfl)) rfl rfl hl.1 rfl (lv_room (Nat.le_of_ble_eq_true rfl)) dX8_cancel_9 ⟨Nat.le_of_ble_eq_true rfl, Nat.le_of_ble_eq_true rfl⟩) hS (fun q _ h => hFc q h) hFc (fun r_1 u_1 t_1 H1 locs ht hvm hw hB hz1 hk1 hS => ?_)
  obtain ⟨f12_1, rfl⟩ : ∃ z, z = u_1 := ⟨_, rfl⟩
  obtain ⟨hP1, hD1⟩ := hB
  rw [ht] at hP1
  obtain ⟨hP, hD⟩ := va_join (wr := [(h0, .inr (8, [.ref (a 1), .ref (a 2), .ref (a 3), .ref (a 4), .ref (a 5), .ref (a 6), .ref (a 7), .ref (a 8), .int (iv 0), .int (iv 1), .int (iv 2), .int (iv 3)]))]) (w1 := [(a 4, .inr (7, [.ref (a 9), .ref (a 10), .ref (a 11), .ref (a 12), .int (iv 4)])), (a 9, .inl (cI, 100, .inl (av 9))), (a 10, .inl (cI, 100, .inl (av 10))), (a 11, .inl (cI, 100, .inl (av 11))), (a 12, .inl (cI, 100, .inl f12_1))]) hP hD [1, 2, 3, 4, 5] [0] rfl rfl (by decide) (by decide) hk1 hFc hP1 hD1
  generalize H1 = H at hP hS ⊢
  have hP : va_P D vwCl [(h0, .inr (8, [.ref (a 1), .ref (a 2), .ref (a 3), .ref (a 4), .ref (a 5), .ref (a 6), .ref (a 7), .ref (a 8), .int (iv 0), .int (iv 1), .int (iv 2), .int (iv 3)])), (a 4, .inr (7, [.ref (a 9), .ref (a 10), .ref (a 11), .ref (a 12), .int (iv 4)])), (a 9, .inl (cI, 100, .inl (av 9))), (a 10, .inl (cI, 100, .inl (av 10))), (a 11, .inl (cI, 100, .inl (av 11))), (a 12, .inl (cI, 100, .inl f12_1))] H := hP
  have hD : va_D A [(h0, .inr (8, [.ref (a 1), .ref (a 2), .ref (a 3), .ref (a 4), .ref (a 5), .ref (a 6), .ref (a 7), .ref (a 8), .int (iv 0), .int (iv 1), .int (iv 2), .int (iv 3)])), (a 4, .inr (7, [.ref (a 9), .ref (a 10), .ref (a 11), .ref (a 12), .int (iv 4)])), (a 9, .inl (cI, 100, .inl (av 9))), (a 10, .inl (cI, 100, .inl (av 10))), (a 11, .inl (cI, 100, .inl (av 11))), (a 12, .inl (cI, 100, .inl f12_1))] := hD
  have hw_1 := hw
  have hP9 := hP.sub (ws' := [(h0, .inr (8, [.ref (a 1), .ref (a 2), .ref (a 3), .ref (a 4), .ref (a 5), .ref (a 6), .ref (a 7), .ref (a 8), .int (iv 0), .int (iv 1), .int (iv 2), .int (iv 3)])), (a 4, .inr (7, [.ref (a 9), .ref (a 10), .ref (a 11), .ref (a 12), .int (iv 4)])), (a 9, .inl (cI, 100, .inl (av 9))), (a 10, .inl (cI, 100, .inl (av 10))), (a 11, .inl (cI, 100, .inl (av 11))), (a 12, .inl (cI, 100, .inl f12_1))]) [0, 1, 2, 3, 4, 5] rfl
  have hD9 := hD.sub (ws' := [(h0, .inr (8, [.ref (a 1), .ref (a 2), .ref (a 3), .ref (a 4), .ref (a 5), .ref (a 6), .ref (a 7), .ref (a 8), .int (iv 0), .int (iv 1), .int (iv 2), .int (iv 3)])), (a 4, .inr (7, [.ref (a 9), .ref (a 10), .ref (a 11), .ref (a 12), .int (iv 4)])), (a 9, .inl (cI, 100, .inl (av 9))), (a 10, .inl (cI, 100, .inl (av 10))), (a 11, .inl (cI, 100, .inl (av 11))), (a 12, .inl (cI, 100, .inl f12_1))]) [0, 1, 2, 3, 4, 5] (by decide) rfl
  exact W.zret (v := r_1) hx hb hr (by rcases hw_1 with ⟨q, _⟩ | ⟨q, _⟩ <;> (rw [q]; rfl)) (fun t ht hW => ⟨⟨r_1, f12_1, rfl, hw_1, ⟨by rw [ht]; exact hP9, hD9⟩⟩, hS.F ht⟩) hS.2.2 dX8_cancel_12
set_option maxHeartbeats 4000000 in
set_option maxRecDepth 100000 in
/-- X8_list -/
theorem k_X8_list (l : Launch) (D : va_G) (cI cJ cZ cM : Nat) (h0 : Nat) (a : Nat → Nat) (iv : Nat → Int32) (av : Nat → Nat → Int32) (wc : Nat) (h_w : iv 4 = nI wc) (hwc : wc ≤ 100) (x1 : Int32) : Met l yX8_list wsX8_list ({ frames := 2, cells := 0, slots := 0, locals := 45 } : Room) (RO D cI cJ cZ cM [.ref h0, .int x1] [(h0, .inr (8, [.ref (a 1), .ref (a 2), .ref (a 3), .ref (a 4), .ref (a 5), .ref (a 6), .ref (a 7), .ref (a 8), .int (iv 0), .int (iv 1), .int (iv 2), .int (iv 3)])), (a 4, .inr (7, [.ref (a 9), .ref (a 10), .ref (a 11), .ref (a 12), .int (iv 4)])), (a 9, .inl (cI, 100, .inl (av 9))), (a 10, .inl (cI, 100, .inl (av 10))), (a 11, .inl (cI, 100, .inl (av 11))), (a 12, .inl (cI, 100, .inl (av 12)))]) (vp_Si (fun r => okI (nI (cntP (outC (av 11) (av 12) x1) wc)) (-1) (0 ≤ x1 ∧ x1 ≤ iv 1) r)) 0 0 (fun _ => False) := by
  refine Met.ofW (cc := cX8_list) (maxL := 2) (ret := (some .int)) (by decide) rfl ?_
  intro p e s m args below meth c s₁ B hml hv
  obtain ⟨rfl, hG, hP⟩ := hv
  have hx := B.exec
  have hb := B.bytes
  have hr := B.returns
  have hts := atoms_spec (ws := wsX8_list) B.pre
  have hown : s.vm.findClass RX8 = some m.cls := findClass_of_methodNamed B.named
  have hlocks := B.notSynchronized
  have hK := hG.1
  have hN := hG.2
  have hl := lv_entry ([.ref h0, .int x1]) (n := 2) (Nat.le_of_ble_eq_true rfl)
  rw [lg_entry_eq]
  generalize (lg_sl ([.ref h0, .int x1]) ++ List.replicate (2 - (lg_sl ([.ref h0, .int x1])).length) Slot.unset).toArray = ls at hl ⊢
  have hl : lv_has ls 2 [(0, .ref h0), (1, .int x1)] := hl
  refine lv_iload_n hx hb dX8_list_0 rfl (lv_at hl 1 rfl) ?_
  refine lv_iconst (v := 0) hx hb dX8_list_1 (by decide) ?_
  refine lv_aload_n hx hb dX8_list_2 rfl (lv_at hl 0 rfl) ?_
  refine va_get (D := D) (ci := 8) (v := .int (iv 1)) (C := RX8) (T := TX8) (N := 12) hx hb hts (fun _ h9 => List.mem_cons_of_mem _ (List.mem_append_left _ (List.mem_append_right _ h9))) hown hK hP 0 rfl rfl 9 (by decide) (hts (.fieldLink RX8 120 "BuoyTender" "today" "I") (by decide +kernel)) (fun _ h9 => h9) rfl dX8_list_3 ?_
  refine vp_callSi (va_Run.run (va_runS (As := [.int x1, .int 0, .int (iv 1)]) (rest := []) ⟨hx, hb, hml, hown, hts⟩ (k_X8_within l x1 0 (iv 1)) (va_cwS 3 hts gX8_list_X8_within rfl rfl rfl (by decide +kernel) ⟨Nat.le_of_ble_eq_true rfl, Nat.le_of_ble_eq_true rfl⟩) preEq rfl rfl hl.1 rfl (lv_room (Nat.le_of_ble_eq_true rfl)) dX8_list_6 ⟨Nat.le_of_ble_eq_true rfl, Nat.le_of_ble_eq_true rfl⟩)) (fun r_1 h_1 => ?_)
  rcases h_1 with ⟨rfl, h_1⟩ | ⟨rfl, h_1⟩
  · refine lv_if_eq (tgt := 23) hx hb dX8_list_9 (by decide) (fun c_2 => False.elim (by revert c_2; decide)) (fun _ => ?_)
    refine lv_aload_n hx hb dX8_list_12 rfl (lv_at hl 0 rfl) ?_
    refine va_get (D := D) (ci := 8) (v := .ref (a 4)) (C := RX8) (T := TX8) (N := 12) hx hb hts (fun _ h9 => List.mem_cons_of_mem _ (List.mem_append_left _ (List.mem_append_right _ h9))) hown hK hP 0 rfl rfl 3 (by decide) (hts (.fieldLink RX8 25 "BuoyTender" "warnings" "LBuoyTender$Warnings;") (by decide +kernel)) (fun _ h9 => h9) rfl dX8_list_13 ?_
    refine lv_iload_n hx hb dX8_list_16 rfl (lv_at hl 1 rfl) ?_
    have hPc := hP.sub (ws' := [(a 4, .inr (7, [.ref (a 9), .ref (a 10), .ref (a 11), .ref (a 12), .int (iv 4)])), (a 9, .inl (cI, 100, .inl (av 9))), (a 10, .inl (cI, 100, .inl (av 10))), (a 11, .inl (cI, 100, .inl (av 11))), (a 12, .inl (cI, 100, .inl (av 12)))]) [1, 2, 3, 4, 5] rfl
    refine vp_callSi (va_Run.run (va_runVN (As := [.int x1]) (rest := []) ⟨hx, hb, hml, hown, hts⟩ (k_X7_countOn l D cI cJ cZ cM a iv av wc h_w hwc x1) ⟨(va_cnB 1 hts gX8_list_X7_countOn_n196 rfl rfl rfl (hN.2.1 (RX8, 196, yX7_countOn, "BuoyTender") (by decide +kernel)) (hts (.initialized RX7) (by decide +kernel)) (by decide +kernel) ⟨Nat.le_of_ble_eq_true rfl, Nat.le_of_ble_eq_true rfl⟩), hts (.instanceMethod yX7_countOn) (by decide +kernel), hts (.selects RX7 yX7_countOn yX7_countOn) (by decide +kernel)⟩ (ro_V hG hPc (va_recv hK hPc (ci := 7) (q0 := 0) rfl rfl)) rfl rfl hl.1 rfl (lv_room (Nat.le_of_ble_eq_true rfl)) dX8_list_17 ⟨Nat.le_of_ble_eq_true rfl, Nat.le_of_ble_eq_true rfl⟩)) (fun r_3 h_3 => ?_)
    obtain rfl : r_3 = nI (cntP (outC (av 11) (av 12) x1) wc) := h_3
    refine lv_goto (tgt := 24) hx hb dX8_list_20 (by decide) ?_
    exact W.iret (v := (nI (cntP (outC (av 11) (av 12) x1) wc))) hx hb hr (fun t ht hW => ⟨(nI (cntP (outC (av 11) (av 12) x1) wc)), rfl, (Or.inl ⟨rfl, h_1⟩), ht⟩) (fun _ h => by cases h) dX8_list_24
  refine lv_if_eq (tgt := 23) hx hb dX8_list_9 (by decide) (fun _ => ?_) (fun c_4 => False.elim (by revert c_4; decide))
  refine lv_iconst (v := (-1)) hx hb dX8_list_23 (by decide) ?_
  exact W.iret (v := (-1)) hx hb hr (fun t ht hW => ⟨(-1), rfl, (Or.inr ⟨rfl, h_1⟩), ht⟩) (fun _ h => by cases h) dX8_list_24
set_option maxHeartbeats 4000000 in
set_option maxRecDepth 100000 in
/-- X8_listed -/
theorem k_X8_listed (l : Launch) (D : va_G) (cI cJ cZ cM : Nat) (h0 : Nat) (a : Nat → Nat) (iv : Nat → Int32) (av : Nat → Nat → Int32) (wc : Nat) (h_w : iv 4 = nI wc) (hwc : wc ≤ 100) (x1 : Int32) (x2 : Int32) : Met l yX8_listed wsX8_listed ({ frames := 2, cells := 0, slots := 0, locals := 46 } : Room) (RO D cI cJ cZ cM [.ref h0, .int x1, .int x2] [(h0, .inr (8, [.ref (a 1), .ref (a 2), .ref (a 3), .ref (a 4), .ref (a 5), .ref (a 6), .ref (a 7), .ref (a 8), .int (iv 0), .int (iv 1), .int (iv 2), .int (iv 3)])), (a 4, .inr (7, [.ref (a 9), .ref (a 10), .ref (a 11), .ref (a 12), .int (iv 4)])), (a 9, .inl (cI, 100, .inl (av 9))), (a 10, .inl (cI, 100, .inl (av 10))), (a 11, .inl (cI, 100, .inl (av 11))), (a 12, .inl (cI, 100, .inl (av 12)))]) (vp_Si (fun r => ((0 ≤ x1 ∧ x1 ≤ iv 1) ∧ numP (outC (av 11) (av 12) x1) wc x2 r) ∨ (¬ (0 ≤ x1 ∧ x1 ≤ iv 1) ∧ r = -1))) 0 0 (fun _ => False) := by
  refine Met.ofW (cc := cX8_listed) (maxL := 3) (ret := (some .int)) (by decide) rfl ?_
  intro p e s m args below meth c s₁ B hml hv
  obtain ⟨rfl, hG, hP⟩ := hv
  have hx := B.exec
  have hb := B.bytes
  have hr := B.returns
  have hts := atoms_spec (ws := wsX8_listed) B.pre
  have hown : s.vm.findClass RX8 = some m.cls := findClass_of_methodNamed B.named
  have hlocks := B.notSynchronized
  have hK := hG.1
  have hN := hG.2
  have hl := lv_entry ([.ref h0, .int x1, .int x2]) (n := 3) (Nat.le_of_ble_eq_true rfl)
  rw [lg_entry_eq]
  generalize (lg_sl ([.ref h0, .int x1, .int x2]) ++ List.replicate (3 - (lg_sl ([.ref h0, .int x1, .int x2])).length) Slot.unset).toArray = ls at hl ⊢
  have hl : lv_has ls 3 [(0, .ref h0), (1, .int x1), (2, .int x2)] := hl
  refine lv_iload_n hx hb dX8_listed_0 rfl (lv_at hl 1 rfl) ?_
  refine lv_iconst (v := 0) hx hb dX8_listed_1 (by decide) ?_
  refine lv_aload_n hx hb dX8_listed_2 rfl (lv_at hl 0 rfl) ?_
  refine va_get (D := D) (ci := 8) (v := .int (iv 1)) (C := RX8) (T := TX8) (N := 12) hx hb hts (fun _ h9 => List.mem_cons_of_mem _ (List.mem_append_left _ (List.mem_append_right _ h9))) hown hK hP 0 rfl rfl 9 (by decide) (hts (.fieldLink RX8 120 "BuoyTender" "today" "I") (by decide +kernel)) (fun _ h9 => h9) rfl dX8_listed_3 ?_
  refine vp_callSi (va_Run.run (va_runS (As := [.int x1, .int 0, .int (iv 1)]) (rest := []) ⟨hx, hb, hml, hown, hts⟩ (k_X8_within l x1 0 (iv 1)) (va_cwS 3 hts gX8_listed_X8_within rfl rfl rfl (by decide +kernel) ⟨Nat.le_of_ble_eq_true rfl, Nat.le_of_ble_eq_true rfl⟩) preEq rfl rfl hl.1 rfl (lv_room (Nat.le_of_ble_eq_true rfl)) dX8_listed_6 ⟨Nat.le_of_ble_eq_true rfl, Nat.le_of_ble_eq_true rfl⟩)) (fun r_1 h_1 => ?_)
  rcases h_1 with ⟨rfl, h_1⟩ | ⟨rfl, h_1⟩
  · refine lv_if_eq (tgt := 24) hx hb dX8_listed_9 (by decide) (fun c_2 => False.elim (by revert c_2; decide)) (fun _ => ?_)
    refine lv_aload_n hx hb dX8_listed_12 rfl (lv_at hl 0 rfl) ?_
    refine va_get (D := D) (ci := 8) (v := .ref (a 4)) (C := RX8) (T := TX8) (N := 12) hx hb hts (fun _ h9 => List.mem_cons_of_mem _ (List.mem_append_left _ (List.mem_append_right _ h9))) hown hK hP 0 rfl rfl 3 (by decide) (hts (.fieldLink RX8 25 "BuoyTender" "warnings" "LBuoyTender$Warnings;") (by decide +kernel)) (fun _ h9 => h9) rfl dX8_listed_13 ?_
    refine lv_iload_n hx hb dX8_listed_16 rfl (lv_at hl 1 rfl) ?_
    refine lv_iload_n hx hb dX8_listed_17 rfl (lv_at hl 2 rfl) ?_
    have hPc := hP.sub (ws' := [(a 4, .inr (7, [.ref (a 9), .ref (a 10), .ref (a 11), .ref (a 12), .int (iv 4)])), (a 9, .inl (cI, 100, .inl (av 9))), (a 10, .inl (cI, 100, .inl (av 10))), (a 11, .inl (cI, 100, .inl (av 11))), (a 12, .inl (cI, 100, .inl (av 12)))]) [1, 2, 3, 4, 5] rfl
    refine vp_callSi (va_Run.run (va_runVN (As := [.int x1, .int x2]) (rest := []) ⟨hx, hb, hml, hown, hts⟩ (k_X7_numberOn l D cI cJ cZ cM a iv av wc h_w hwc x1 x2) ⟨(va_cnB 2 hts gX8_listed_X7_numberOn_n200 rfl rfl rfl (hN.2.1 (RX8, 200, yX7_numberOn, "BuoyTender") (by decide +kernel)) (hts (.initialized RX7) (by decide +kernel)) (by decide +kernel) ⟨Nat.le_of_ble_eq_true rfl, Nat.le_of_ble_eq_true rfl⟩), hts (.instanceMethod yX7_numberOn) (by decide +kernel), hts (.selects RX7 yX7_numberOn yX7_numberOn) (by decide +kernel)⟩ (ro_V hG hPc (va_recv hK hPc (ci := 7) (q0 := 0) rfl rfl)) rfl rfl hl.1 rfl (lv_room (Nat.le_of_ble_eq_true rfl)) dX8_listed_18 ⟨Nat.le_of_ble_eq_true rfl, Nat.le_of_ble_eq_true rfl⟩)) (fun r_3 h_3 => ?_)
    refine lv_goto (tgt := 25) hx hb dX8_listed_21 (by decide) ?_
    exact W.iret (v := r_3) hx hb hr (fun t ht hW => ⟨r_3, rfl, (Or.inl ⟨h_1, h_3⟩), ht⟩) (fun _ h => by cases h) dX8_listed_25
  refine lv_if_eq (tgt := 24) hx hb dX8_listed_9 (by decide) (fun _ => ?_) (fun c_4 => False.elim (by revert c_4; decide))
  refine lv_iconst (v := (-1)) hx hb dX8_listed_24 (by decide) ?_
  exact W.iret (v := (-1)) hx hb hr (fun t ht hW => ⟨(-1), rfl, (Or.inr ⟨h_1, rfl⟩), ht⟩) (fun _ h => by cases h) dX8_listed_25
set_option maxHeartbeats 4000000 in
set_option maxRecDepth 100000 in
/-- X8_warning -/
theorem k_X8_warning (l : Launch) (D : va_G) (cI cJ cZ cM : Nat) (h0 : Nat) (a : Nat → Nat) (iv : Nat → Int32) (av : Nat → Nat → Int32) (wc : Nat) (h_w : iv 4 = nI wc) (hwc : wc ≤ 100) (x1 : Int32) (x2 : Int32) : Met l yX8_warning wsX8_warning ({ frames := 1, cells := 0, slots := 0, locals := 21 } : Room) (RO D cI cJ cZ cM [.ref h0, .int x1, .int x2] [(h0, .inr (8, [.ref (a 1), .ref (a 2), .ref (a 3), .ref (a 4), .ref (a 5), .ref (a 6), .ref (a 7), .ref (a 8), .int (iv 0), .int (iv 1), .int (iv 2), .int (iv 3)])), (a 4, .inr (7, [.ref (a 9), .ref (a 10), .ref (a 11), .ref (a 12), .int (iv 4)])), (a 9, .inl (cI, 100, .inl (av 9))), (a 10, .inl (cI, 100, .inl (av 10))), (a 11, .inl (cI, 100, .inl (av 11))), (a 12, .inl (cI, 100, .inl (av 12)))]) (vp_Si (fun r => (∃ i, i < wc ∧ x1 = nI i ∧ wgP (av 9) (av 10) (av 11) (av 12) i x2 r) ∨ ((¬ isM wc x1) ∧ r = -1))) 0 0 (fun _ => False) := by
  refine Met.ofW (cc := cX8_warning) (maxL := 3) (ret := (some .int)) (by decide) rfl ?_
  intro p e s m args below meth c s₁ B hml hv
  obtain ⟨rfl, hG, hP⟩ := hv
  have hx := B.exec
  have hb := B.bytes
  have hr := B.returns
  have hts := atoms_spec (ws := wsX8_warning) B.pre
  have hown : s.vm.findClass RX8 = some m.cls := findClass_of_methodNamed B.named
  have hlocks := B.notSynchronized
  have hK := hG.1
  have hN := hG.2
  have hl := lv_entry ([.ref h0, .int x1, .int x2]) (n := 3) (Nat.le_of_ble_eq_true rfl)
  rw [lg_entry_eq]
  generalize (lg_sl ([.ref h0, .int x1, .int x2]) ++ List.replicate (3 - (lg_sl ([.ref h0, .int x1, .int x2])).length) Slot.unset).toArray = ls at hl ⊢
  have hl : lv_has ls 3 [(0, .ref h0), (1, .int x1), (2, .int x2)] := hl
  refine lv_aload_n hx hb dX8_warning_0 rfl (lv_at hl 0 rfl) ?_
  refine va_get (D := D) (ci := 8) (v := .ref (a 4)) (C := RX8) (T := TX8) (N := 12) hx hb hts (fun _ h9 => List.mem_cons_of_mem _ (List.mem_append_left _ (List.mem_append_right _ h9))) hown hK hP 0 rfl rfl 3 (by decide) (hts (.fieldLink RX8 25 "BuoyTender" "warnings" "LBuoyTender$Warnings;") (by decide +kernel)) (fun _ h9 => h9) rfl dX8_warning_1 ?_
  refine lv_iload_n hx hb dX8_warning_4 rfl (lv_at hl 1 rfl) ?_
  have hPc := hP.sub (ws' := [(a 4, .inr (7, [.ref (a 9), .ref (a 10), .ref (a 11), .ref (a 12), .int (iv 4)]))]) [1] rfl
  refine vp_callSi (va_Run.run (va_runVN (As := [.int x1]) (rest := []) ⟨hx, hb, hml, hown, hts⟩ (k_X7_has l D cI cJ cZ cM a iv wc h_w hwc x1) ⟨(va_cnB 1 hts gX8_warning_X7_has_n203 rfl rfl rfl (hN.2.1 (RX8, 203, yX7_has, "BuoyTender") (by decide +kernel)) (hts (.initialized RX7) (by decide +kernel)) (by decide +kernel) ⟨Nat.le_of_ble_eq_true rfl, Nat.le_of_ble_eq_true rfl⟩), hts (.instanceMethod yX7_has) (by decide +kernel), hts (.selects RX7 yX7_has yX7_has) (by decide +kernel)⟩ (ro_V hG hPc (va_recv hK hPc (ci := 7) (q0 := 0) rfl rfl)) rfl rfl hl.1 rfl (lv_room (Nat.le_of_ble_eq_true rfl)) dX8_warning_5 ⟨Nat.le_of_ble_eq_true rfl, Nat.le_of_ble_eq_true rfl⟩)) (fun r_1 h_1 => ?_)
  rcases h_1 with ⟨rfl, w1_, hw1_, rfl⟩ | ⟨rfl, h_1⟩
  · have hl : lv_has ls 3 [(0, .ref h0), (1, .int (nI w1_)), (2, .int x2)] := hl
    refine W.eq (g2 := F0 m 8 ls [.int 1]) rfl ?_
    refine lv_if_ne (tgt := 13) hx hb dX8_warning_8 (by decide) (fun _ => ?_) (fun c_2 => False.elim (by revert c_2; decide))
    refine lv_iload_n hx hb dX8_warning_13 rfl (lv_at hl 2 rfl) ?_
    by_cases s_3 : x2 = 0
    · refine lv_tableIn (off := 30) (tgt := 44) hx hb dX8_warning_14 (by rw [s_3]; decide) (by rw [s_3]; decide) (by rw [s_3]; decide) (by decide) ?_
      refine lv_aload_n hx hb dX8_warning_44 rfl (lv_at hl 0 rfl) ?_
      refine va_get (D := D) (ci := 8) (v := .ref (a 4)) (C := RX8) (T := TX8) (N := 12) hx hb hts (fun _ h9 => List.mem_cons_of_mem _ (List.mem_append_left _ (List.mem_append_right _ h9))) hown hK hP 0 rfl rfl 3 (by decide) (hts (.fieldLink RX8 25 "BuoyTender" "warnings" "LBuoyTender$Warnings;") (by decide +kernel)) (fun _ h9 => h9) rfl dX8_warning_45 ?_
      refine va_getN (D := D) (ci := 7) (v := .ref (a 9)) (C := RX7) (T := TX7) (N := 5) hx hb hts (fun _ h9 => List.mem_cons_of_mem _ (List.mem_append_right _ h9)) hown hK hP 1 rfl rfl 0 (by decide) (va_Nw.use rfl (hN.1 (RX8, 206, "BuoyTender$Warnings", "markOf", "[I", "BuoyTender") (by decide +kernel))) (fun _ h9 => h9) rfl dX8_warning_48 ?_
      refine lv_iload_n hx hb dX8_warning_51 rfl (lv_at hl 1 rfl) ?_
      refine va_iald hx hb hK hP 2 0 rfl rfl (vp_in_nI (by omega) (by decide)) dX8_warning_52 ?_
      refine lv_topi (fun z_4 ez_4 => ?_)
      obtain rfl : z_4 = (av 9) w1_ := ez_4.trans (congrArg (av 9) (nI_clamp (by omega)))
      exact W.iret (v := ((av 9) w1_)) hx hb hr (fun t ht hW => ⟨((av 9) w1_), rfl, (Or.inl ⟨_, hw1_, rfl, wg0 s_3 rfl⟩), ht⟩) (fun _ h => by cases h) dX8_warning_53
    by_cases s_5 : x2 = 1
    · refine lv_tableIn (off := 40) (tgt := 54) hx hb dX8_warning_14 (by rw [s_5]; decide) (by rw [s_5]; decide) (by rw [s_5]; decide) (by decide) ?_
      refine lv_aload_n hx hb dX8_warning_54 rfl (lv_at hl 0 rfl) ?_
      refine va_get (D := D) (ci := 8) (v := .ref (a 4)) (C := RX8) (T := TX8) (N := 12) hx hb hts (fun _ h9 => List.mem_cons_of_mem _ (List.mem_append_left _ (List.mem_append_right _ h9))) hown hK hP 0 rfl rfl 3 (by decide) (hts (.fieldLink RX8 25 "BuoyTender" "warnings" "LBuoyTender$Warnings;") (by decide +kernel)) (fun _ h9 => h9) rfl dX8_warning_55 ?_
      refine va_getN (D := D) (ci := 7) (v := .ref (a 10)) (C := RX7) (T := TX7) (N := 5) hx hb hts (fun _ h9 => List.mem_cons_of_mem _ (List.mem_append_right _ h9)) hown hK hP 1 rfl rfl 1 (by decide) (va_Nw.use rfl (hN.1 (RX8, 209, "BuoyTender$Warnings", "reasonOf", "[I", "BuoyTender") (by decide +kernel))) (fun _ h9 => h9) rfl dX8_warning_58 ?_
      refine lv_iload_n hx hb dX8_warning_61 rfl (lv_at hl 1 rfl) ?_
      refine va_iald hx hb hK hP 3 0 rfl rfl (vp_in_nI (by omega) (by decide)) dX8_warning_62 ?_
      refine lv_topi (fun z_6 ez_6 => ?_)
      obtain rfl : z_6 = (av 10) w1_ := ez_6.trans (congrArg (av 10) (nI_clamp (by omega)))
      exact W.iret (v := ((av 10) w1_)) hx hb hr (fun t ht hW => ⟨((av 10) w1_), rfl, (Or.inl ⟨_, hw1_, rfl, wg1 s_5 rfl⟩), ht⟩) (fun _ h => by cases h) dX8_warning_63
    by_cases s_7 : x2 = 2
    · refine lv_tableIn (off := 50) (tgt := 64) hx hb dX8_warning_14 (by rw [s_7]; decide) (by rw [s_7]; decide) (by rw [s_7]; decide) (by decide) ?_
      refine lv_aload_n hx hb dX8_warning_64 rfl (lv_at hl 0 rfl) ?_
      refine va_get (D := D) (ci := 8) (v := .ref (a 4)) (C := RX8) (T := TX8) (N := 12) hx hb hts (fun _ h9 => List.mem_cons_of_mem _ (List.mem_append_left _ (List.mem_append_right _ h9))) hown hK hP 0 rfl rfl 3 (by decide) (hts (.fieldLink RX8 25 "BuoyTender" "warnings" "LBuoyTender$Warnings;") (by decide +kernel)) (fun _ h9 => h9) rfl dX8_warning_65 ?_
      refine va_getN (D := D) (ci := 7) (v := .ref (a 11)) (C := RX7) (T := TX7) (N := 5) hx hb hts (fun _ h9 => List.mem_cons_of_mem _ (List.mem_append_right _ h9)) hown hK hP 1 rfl rfl 2 (by decide) (va_Nw.use rfl (hN.1 (RX8, 212, "BuoyTender$Warnings", "toldOn", "[I", "BuoyTender") (by decide +kernel))) (fun _ h9 => h9) rfl dX8_warning_68 ?_
      refine lv_iload_n hx hb dX8_warning_71 rfl (lv_at hl 1 rfl) ?_
      refine va_iald hx hb hK hP 4 0 rfl rfl (vp_in_nI (by omega) (by decide)) dX8_warning_72 ?_
      refine lv_topi (fun z_8 ez_8 => ?_)
      obtain rfl : z_8 = (av 11) w1_ := ez_8.trans (congrArg (av 11) (nI_clamp (by omega)))
      exact W.iret (v := ((av 11) w1_)) hx hb hr (fun t ht hW => ⟨((av 11) w1_), rfl, (Or.inl ⟨_, hw1_, rfl, wg2 s_7 rfl⟩), ht⟩) (fun _ h => by cases h) dX8_warning_73
    by_cases s_9 : x2 = 3
    · refine lv_tableIn (off := 60) (tgt := 74) hx hb dX8_warning_14 (by rw [s_9]; decide) (by rw [s_9]; decide) (by rw [s_9]; decide) (by decide) ?_
      refine lv_aload_n hx hb dX8_warning_74 rfl (lv_at hl 0 rfl) ?_
      refine va_get (D := D) (ci := 8) (v := .ref (a 4)) (C := RX8) (T := TX8) (N := 12) hx hb hts (fun _ h9 => List.mem_cons_of_mem _ (List.mem_append_left _ (List.mem_append_right _ h9))) hown hK hP 0 rfl rfl 3 (by decide) (hts (.fieldLink RX8 25 "BuoyTender" "warnings" "LBuoyTender$Warnings;") (by decide +kernel)) (fun _ h9 => h9) rfl dX8_warning_75 ?_
      refine va_getN (D := D) (ci := 7) (v := .ref (a 12)) (C := RX7) (T := TX7) (N := 5) hx hb hts (fun _ h9 => List.mem_cons_of_mem _ (List.mem_append_right _ h9)) hown hK hP 1 rfl rfl 3 (by decide) (va_Nw.use rfl (hN.1 (RX8, 215, "BuoyTender$Warnings", "cancelledOn", "[I", "BuoyTender") (by decide +kernel))) (fun _ h9 => h9) rfl dX8_warning_78 ?_
      refine lv_iload_n hx hb dX8_warning_81 rfl (lv_at hl 1 rfl) ?_
      refine va_iald hx hb hK hP 5 0 rfl rfl (vp_in_nI (by omega) (by decide)) dX8_warning_82 ?_
      refine lv_topi (fun z_10 ez_10 => ?_)
      obtain rfl : z_10 = (av 12) w1_ := ez_10.trans (congrArg (av 12) (nI_clamp (by omega)))
      exact W.iret (v := ((av 12) w1_)) hx hb hr (fun t ht hW => ⟨((av 12) w1_), rfl, (Or.inl ⟨_, hw1_, rfl, wg3 s_9 rfl⟩), ht⟩) (fun _ h => by cases h) dX8_warning_83
    refine lv_tableOut (tgt := 84) hx hb dX8_warning_14 (my_out (hi := 3) (fun z hz => by rcases (show z = 0 ∨ z = 1 ∨ z = 2 ∨ z = 3 by omega) with rfl | rfl | rfl | rfl <;> assumption) (by decide)) (by decide) ?_
    refine lv_iconst (v := (-1)) hx hb dX8_warning_84 (by decide) ?_
    exact W.iret (v := (-1)) hx hb hr (fun t ht hW => ⟨(-1), rfl, (Or.inl ⟨_, hw1_, rfl, wg4 s_3 s_5 s_7 s_9 rfl⟩), ht⟩) (fun _ h => by cases h) dX8_warning_85
  refine lv_if_ne (tgt := 13) hx hb dX8_warning_8 (by decide) (fun c_11 => False.elim (by revert c_11; decide)) (fun _ => ?_)
  refine lv_iconst (v := (-1)) hx hb dX8_warning_11 (by decide) ?_
  exact W.iret (v := (-1)) hx hb hr (fun t ht hW => ⟨(-1), rfl, (Or.inr ⟨h_1, rfl⟩), ht⟩) (fun _ h => by cases h) dX8_warning_12
