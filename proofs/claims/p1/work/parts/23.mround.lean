set_option maxHeartbeats 4000000 in
set_option maxRecDepth 100000 in
/-- no mark -/
theorem k_X9_sums (l : Launch) (D : va_G) (cI cJ cZ cM : Nat) (h0 : Nat) (n : Nat → Nat) (sz : Nat) : Met l yX9_sums wsX9_sums ({ frames := 0, cells := 0, slots := 0, locals := 0 } : Room) (RW D cI cJ cZ cM [.ref h0] [(h0, .inr (9, [.ref (n 0), .int 0, .ref (n 2), .ref (n 3), .ref (n 4), .ref (n 5), .ref (n 6), .int 0, .ref (n 8), .ref (n 9), .ref (n 10), .ref (n 11), .ref (n 12), .ref (n 13), .ref (n 14), .int 0, .int 0, .ref (n 17), .ref (n 18), .ref (n 19), .ref (n 20), .ref (n 21), .ref (n 22), .ref (n 23), .ref (n 24), .ref (n 25), .int 1, .int 0, .int 12, .int 0, .int 0, .int 0, .int 0, .int 1440, .ref (n 34), .ref (n 35), .int 0, .int 0, .int 0, .ref (n 39), .ref (n 40), .ref (n 41), .ref (n 42), .int 1, .int 0, .int 0])), (n 41, .inl (cI, 1024, .inl (fun _ => 0))), (n 42, .inl (cI, 1024, .inl (fun _ => 0)))] sz) (va_Qv (S := Nat → Int32) (fun u => u 0 = 0) (BB D (fun u => [(h0, .inr (9, [.ref (n 0), .int 0, .ref (n 2), .ref (n 3), .ref (n 4), .ref (n 5), .ref (n 6), .int 0, .ref (n 8), .ref (n 9), .ref (n 10), .ref (n 11), .ref (n 12), .ref (n 13), .ref (n 14), .int 0, .int 0, .ref (n 17), .ref (n 18), .ref (n 19), .ref (n 20), .ref (n 21), .ref (n 22), .ref (n 23), .ref (n 24), .ref (n 25), .int 1, .int 0, .int 12, .int 0, .int 0, .int 0, .int 0, .int 1440, .ref (n 34), .ref (n 35), .int 0, .int 0, .int 0, .ref (n 39), .ref (n 40), .ref (n 41), .ref (n 42), .int 1, .int 0, .int 0])), (n 42, .inl (cI, 1024, .inl u))]) (va_A [(h0, .inr (9, [.ref (n 0), .int 0, .ref (n 2), .ref (n 3), .ref (n 4), .ref (n 5), .ref (n 6), .int 0, .ref (n 8), .ref (n 9), .ref (n 10), .ref (n 11), .ref (n 12), .ref (n 13), .ref (n 14), .int 0, .int 0, .ref (n 17), .ref (n 18), .ref (n 19), .ref (n 20), .ref (n 21), .ref (n 22), .ref (n 23), .ref (n 24), .ref (n 25), .int 1, .int 0, .int 12, .int 0, .int 0, .int 0, .int 0, .int 1440, .ref (n 34), .ref (n 35), .int 0, .int 0, .int 0, .ref (n 39), .ref (n 40), .ref (n 41), .ref (n 42), .int 1, .int 0, .int 0])), (n 41, .inl (cI, 1024, .inl (fun _ => 0))), (n 42, .inl (cI, 1024, .inl (fun _ => 0)))] sz)) (va_A [(h0, .inr (9, [.ref (n 0), .int 0, .ref (n 2), .ref (n 3), .ref (n 4), .ref (n 5), .ref (n 6), .int 0, .ref (n 8), .ref (n 9), .ref (n 10), .ref (n 11), .ref (n 12), .ref (n 13), .ref (n 14), .int 0, .int 0, .ref (n 17), .ref (n 18), .ref (n 19), .ref (n 20), .ref (n 21), .ref (n 22), .ref (n 23), .ref (n 24), .ref (n 25), .int 1, .int 0, .int 12, .int 0, .int 0, .int 0, .int 0, .int 1440, .ref (n 34), .ref (n 35), .int 0, .int 0, .int 0, .ref (n 39), .ref (n 40), .ref (n 41), .ref (n 42), .int 1, .int 0, .int 0])), (n 41, .inl (cI, 1024, .inl (fun _ => 0))), (n 42, .inl (cI, 1024, .inl (fun _ => 0)))] sz)) 0 0 (va_A [(h0, .inr (9, [.ref (n 0), .int 0, .ref (n 2), .ref (n 3), .ref (n 4), .ref (n 5), .ref (n 6), .int 0, .ref (n 8), .ref (n 9), .ref (n 10), .ref (n 11), .ref (n 12), .ref (n 13), .ref (n 14), .int 0, .int 0, .ref (n 17), .ref (n 18), .ref (n 19), .ref (n 20), .ref (n 21), .ref (n 22), .ref (n 23), .ref (n 24), .ref (n 25), .int 1, .int 0, .int 12, .int 0, .int 0, .int 0, .int 0, .int 1440, .ref (n 34), .ref (n 35), .int 0, .int 0, .int 0, .ref (n 39), .ref (n 40), .ref (n 41), .ref (n 42), .int 1, .int 0, .int 0])), (n 41, .inl (cI, 1024, .inl (fun _ => 0))), (n 42, .inl (cI, 1024, .inl (fun _ => 0)))] sz) := by
  refine Met.ofW (cc := cX9_sums) (maxL := 3) (ret := none) (by decide) rfl ?_
  intro p e s m args below meth c s₁ B hml hv
  obtain ⟨rfl, hsz, hG, hP, hD0⟩ := hv
  have hx := B.exec
  have hb := B.bytes
  have hr := B.returns
  have hts := atoms_spec (ws := wsX9_sums) B.pre
  have hown : s.vm.findClass RX9 = some m.cls := findClass_of_methodNamed B.named
  have hlocks := B.notSynchronized
  have hK := hG.1
  have hN := hG.2
  subst hsz
  have hD := hD0.self (sz := s.heap.size)
  generalize hAe : va_A [(h0, .inr (9, [.ref (n 0), .int 0, .ref (n 2), .ref (n 3), .ref (n 4), .ref (n 5), .ref (n 6), .int 0, .ref (n 8), .ref (n 9), .ref (n 10), .ref (n 11), .ref (n 12), .ref (n 13), .ref (n 14), .int 0, .int 0, .ref (n 17), .ref (n 18), .ref (n 19), .ref (n 20), .ref (n 21), .ref (n 22), .ref (n 23), .ref (n 24), .ref (n 25), .int 1, .int 0, .int 12, .int 0, .int 0, .int 0, .int 0, .int 1440, .ref (n 34), .ref (n 35), .int 0, .int 0, .int 0, .ref (n 39), .ref (n 40), .ref (n 41), .ref (n 42), .int 1, .int 0, .int 0])), (n 41, .inl (cI, 1024, .inl (fun _ => 0))), (n 42, .inl (cI, 1024, .inl (fun _ => 0)))] s.heap.size = A at hD ⊢
  have hA : ∀ q : Nat, s.heap.size ≤ q → A q := fun q h => by rw [← hAe]; exact Or.inr h
  have hS : va_S A s.heap s.heap [] := va_S.rf
  have hP : va_P D vwCl [(h0, .inr (9, [.ref (n 0), .int 0, .ref (n 2), .ref (n 3), .ref (n 4), .ref (n 5), .ref (n 6), .int 0, .ref (n 8), .ref (n 9), .ref (n 10), .ref (n 11), .ref (n 12), .ref (n 13), .ref (n 14), .int 0, .int 0, .ref (n 17), .ref (n 18), .ref (n 19), .ref (n 20), .ref (n 21), .ref (n 22), .ref (n 23), .ref (n 24), .ref (n 25), .int 1, .int 0, .int 12, .int 0, .int 0, .int 0, .int 0, .int 1440, .ref (n 34), .ref (n 35), .int 0, .int 0, .int 0, .ref (n 39), .ref (n 40), .ref (n 41), .ref (n 42), .int 1, .int 0, .int 0])), (n 41, .inl (cI, 1024, .inl (fun _ => 0))), (n 42, .inl (cI, 1024, .inl (fun _ => 0)))] s.heap := hP
  have hl := lv_entry ([.ref h0]) (n := 3) (Nat.le_of_ble_eq_true rfl)
  rw [lg_entry_eq]
  generalize (lg_sl ([.ref h0]) ++ List.replicate (3 - (lg_sl ([.ref h0])).length) Slot.unset).toArray = ls at hl ⊢
  have hl : lv_has ls 3 [(0, .ref h0)] := hl
  refine lv_iconst (v := 0) hx hb dX9_sums_0 (by decide) ?_
  refine lv_istore_n (lv' := [(1, .int 0), (0, .ref h0)]) hx hb dX9_sums_1 rfl hl (by decide) rfl (fun ls hl => ?_)
  refine lv_iload_n hx hb dX9_sums_2 rfl (lv_at hl 0 rfl) ?_
  refine lv_iconst (v := 1) hx hb dX9_sums_3 (by decide) ?_
  refine lv_aload_n hx hb dX9_sums_4 rfl (lv_at hl 1 rfl) ?_
  refine va_get (D := D) (ci := 9) (v := .int 0) (C := RX9) (T := TX9) (N := 46) hx hb hts (fun _ h9 => List.mem_cons_of_mem _ (List.mem_append_right _ h9)) hown hK hP 0 rfl rfl 1 (by decide) (hts (.fieldLink RX9 109 "BuoyTenderModel" "marks" "I") (by decide +kernel)) (fun _ h9 => h9) rfl dX9_sums_5 ?_
  refine lv_ishl hx hb dX9_sums_8 ?_
  refine lv_topi (fun z_1 ez_1 => ?_)
  obtain rfl : z_1 = 1 := ez_1.trans (by decide)
  refine lv_icmp_ge (tgt := 104) hx hb dX9_sums_9 (by decide) (fun c_2 => False.elim (by revert c_2; decide)) (fun _ => ?_)
  refine lv_aload_n hx hb dX9_sums_12 rfl (lv_at hl 1 rfl) ?_
  refine va_get (D := D) (ci := 9) (v := .ref (n 41)) (C := RX9) (T := TX9) (N := 46) hx hb hts (fun _ h9 => List.mem_cons_of_mem _ (List.mem_append_right _ h9)) hown hK hP 0 rfl rfl 41 (by decide) (hts (.fieldLink RX9 99 "BuoyTenderModel" "loadOf" "[I") (by decide +kernel)) (fun _ h9 => h9) rfl dX9_sums_13 ?_
  refine lv_iload_n hx hb dX9_sums_16 rfl (lv_at hl 0 rfl) ?_
  refine lv_iconst (v := 0) hx hb dX9_sums_17 (by decide) ?_
  refine va_iast hx hb hK hP hD hS 1 0 rfl rfl (vp_in_nI (n := 0) (N := 1024) (by decide) (by decide)) dX9_sums_18 (fun H locs hP hD hS => ?_)
  have hP : va_P D vwCl [(h0, .inr (9, [.ref (n 0), .int 0, .ref (n 2), .ref (n 3), .ref (n 4), .ref (n 5), .ref (n 6), .int 0, .ref (n 8), .ref (n 9), .ref (n 10), .ref (n 11), .ref (n 12), .ref (n 13), .ref (n 14), .int 0, .int 0, .ref (n 17), .ref (n 18), .ref (n 19), .ref (n 20), .ref (n 21), .ref (n 22), .ref (n 23), .ref (n 24), .ref (n 25), .int 1, .int 0, .int 12, .int 0, .int 0, .int 0, .int 0, .int 1440, .ref (n 34), .ref (n 35), .int 0, .int 0, .int 0, .ref (n 39), .ref (n 40), .ref (n 41), .ref (n 42), .int 1, .int 0, .int 0])), (n 41, .inl (cI, 1024, .inl (upd (fun _ => 0) (0 : Int32).toNatClampNeg 0))), (n 42, .inl (cI, 1024, .inl (fun _ => 0)))] H := hP
  have hD : va_D A [(h0, .inr (9, [.ref (n 0), .int 0, .ref (n 2), .ref (n 3), .ref (n 4), .ref (n 5), .ref (n 6), .int 0, .ref (n 8), .ref (n 9), .ref (n 10), .ref (n 11), .ref (n 12), .ref (n 13), .ref (n 14), .int 0, .int 0, .ref (n 17), .ref (n 18), .ref (n 19), .ref (n 20), .ref (n 21), .ref (n 22), .ref (n 23), .ref (n 24), .ref (n 25), .int 1, .int 0, .int 12, .int 0, .int 0, .int 0, .int 0, .int 1440, .ref (n 34), .ref (n 35), .int 0, .int 0, .int 0, .ref (n 39), .ref (n 40), .ref (n 41), .ref (n 42), .int 1, .int 0, .int 0])), (n 41, .inl (cI, 1024, .inl (upd (fun _ => 0) (0 : Int32).toNatClampNeg 0))), (n 42, .inl (cI, 1024, .inl (fun _ => 0)))] := hD
  refine lv_aload_n hx hb dX9_sums_19 rfl (lv_at hl 1 rfl) ?_
  refine va_get (D := D) (ci := 9) (v := .ref (n 42)) (C := RX9) (T := TX9) (N := 46) hx hb hts (fun _ h9 => List.mem_cons_of_mem _ (List.mem_append_right _ h9)) hown hK hP 0 rfl rfl 42 (by decide) (hts (.fieldLink RX9 102 "BuoyTenderModel" "weightOf" "[I") (by decide +kernel)) (fun _ h9 => h9) rfl dX9_sums_20 ?_
  refine lv_iload_n hx hb dX9_sums_23 rfl (lv_at hl 0 rfl) ?_
  refine lv_iconst (v := 0) hx hb dX9_sums_24 (by decide) ?_
  refine va_iast hx hb hK hP hD hS 2 0 rfl rfl (vp_in_nI (n := 0) (N := 1024) (by decide) (by decide)) dX9_sums_25 (fun H locs hP hD hS => ?_)
  have hP : va_P D vwCl [(h0, .inr (9, [.ref (n 0), .int 0, .ref (n 2), .ref (n 3), .ref (n 4), .ref (n 5), .ref (n 6), .int 0, .ref (n 8), .ref (n 9), .ref (n 10), .ref (n 11), .ref (n 12), .ref (n 13), .ref (n 14), .int 0, .int 0, .ref (n 17), .ref (n 18), .ref (n 19), .ref (n 20), .ref (n 21), .ref (n 22), .ref (n 23), .ref (n 24), .ref (n 25), .int 1, .int 0, .int 12, .int 0, .int 0, .int 0, .int 0, .int 1440, .ref (n 34), .ref (n 35), .int 0, .int 0, .int 0, .ref (n 39), .ref (n 40), .ref (n 41), .ref (n 42), .int 1, .int 0, .int 0])), (n 41, .inl (cI, 1024, .inl (upd (fun _ => 0) (0 : Int32).toNatClampNeg 0))), (n 42, .inl (cI, 1024, .inl (upd (fun _ => 0) (0 : Int32).toNatClampNeg 0)))] H := hP
  have hD : va_D A [(h0, .inr (9, [.ref (n 0), .int 0, .ref (n 2), .ref (n 3), .ref (n 4), .ref (n 5), .ref (n 6), .int 0, .ref (n 8), .ref (n 9), .ref (n 10), .ref (n 11), .ref (n 12), .ref (n 13), .ref (n 14), .int 0, .int 0, .ref (n 17), .ref (n 18), .ref (n 19), .ref (n 20), .ref (n 21), .ref (n 22), .ref (n 23), .ref (n 24), .ref (n 25), .int 1, .int 0, .int 12, .int 0, .int 0, .int 0, .int 0, .int 1440, .ref (n 34), .ref (n 35), .int 0, .int 0, .int 0, .ref (n 39), .ref (n 40), .ref (n 41), .ref (n 42), .int 1, .int 0, .int 0])), (n 41, .inl (cI, 1024, .inl (upd (fun _ => 0) (0 : Int32).toNatClampNeg 0))), (n 42, .inl (cI, 1024, .inl (upd (fun _ => 0) (0 : Int32).toNatClampNeg 0)))] := hD
  refine lv_iconst (v := 0) hx hb dX9_sums_26 (by decide) ?_
  refine lv_istore_n (lv' := [(2, .int 0), (1, .int 0), (0, .ref h0)]) hx hb dX9_sums_27 rfl hl (by decide) rfl (fun ls hl => ?_)
  refine lv_iload_n hx hb dX9_sums_28 rfl (lv_at hl 0 rfl) ?_
  refine lv_aload_n hx hb dX9_sums_29 rfl (lv_at hl 2 rfl) ?_
  refine va_get (D := D) (ci := 9) (v := .int 0) (C := RX9) (T := TX9) (N := 46) hx hb hts (fun _ h9 => List.mem_cons_of_mem _ (List.mem_append_right _ h9)) hown hK hP 0 rfl rfl 1 (by decide) (hts (.fieldLink RX9 109 "BuoyTenderModel" "marks" "I") (by decide +kernel)) (fun _ h9 => h9) rfl dX9_sums_30 ?_
  refine lv_icmp_ge (tgt := 98) hx hb dX9_sums_33 (by decide) (fun _ => ?_) (fun c_5 => False.elim (by revert c_5; decide))
  refine lv_iinc (v := 1) (lv' := [(1, .int 1), (2, .int 0), (0, .ref h0)]) hx hb dX9_sums_98 hl (k := 1) rfl (by decide) (by decide) rfl (fun ls hl => ?_)
  refine lv_goto (tgt := 2) hx hb dX9_sums_101 (by decide) ?_
  refine lv_iload_n hx hb dX9_sums_2 rfl (lv_at hl 0 rfl) ?_
  refine lv_iconst (v := 1) hx hb dX9_sums_3 (by decide) ?_
  refine lv_aload_n hx hb dX9_sums_4 rfl (lv_at hl 2 rfl) ?_
  refine va_get (D := D) (ci := 9) (v := .int 0) (C := RX9) (T := TX9) (N := 46) hx hb hts (fun _ h9 => List.mem_cons_of_mem _ (List.mem_append_right _ h9)) hown hK hP 0 rfl rfl 1 (by decide) (hts (.fieldLink RX9 109 "BuoyTenderModel" "marks" "I") (by decide +kernel)) (fun _ h9 => h9) rfl dX9_sums_5 ?_
  refine lv_ishl hx hb dX9_sums_8 ?_
  refine lv_topi (fun z_6 ez_6 => ?_)
  obtain rfl : z_6 = 1 := ez_6.trans (by decide)
  refine lv_icmp_ge (tgt := 104) hx hb dX9_sums_9 (by decide) (fun _ => ?_) (fun c_7 => False.elim (by revert c_7; decide))
  have hP9 := hP.sub (ws' := [(h0, .inr (9, [.ref (n 0), .int 0, .ref (n 2), .ref (n 3), .ref (n 4), .ref (n 5), .ref (n 6), .int 0, .ref (n 8), .ref (n 9), .ref (n 10), .ref (n 11), .ref (n 12), .ref (n 13), .ref (n 14), .int 0, .int 0, .ref (n 17), .ref (n 18), .ref (n 19), .ref (n 20), .ref (n 21), .ref (n 22), .ref (n 23), .ref (n 24), .ref (n 25), .int 1, .int 0, .int 12, .int 0, .int 0, .int 0, .int 0, .int 1440, .ref (n 34), .ref (n 35), .int 0, .int 0, .int 0, .ref (n 39), .ref (n 40), .ref (n 41), .ref (n 42), .int 1, .int 0, .int 0])), (n 42, .inl (cI, 1024, .inl (upd (fun _ => 0) (0 : Int32).toNatClampNeg 0)))]) [0, 2] rfl
  have hD9 := hD.sub (ws' := [(h0, .inr (9, [.ref (n 0), .int 0, .ref (n 2), .ref (n 3), .ref (n 4), .ref (n 5), .ref (n 6), .int 0, .ref (n 8), .ref (n 9), .ref (n 10), .ref (n 11), .ref (n 12), .ref (n 13), .ref (n 14), .int 0, .int 0, .ref (n 17), .ref (n 18), .ref (n 19), .ref (n 20), .ref (n 21), .ref (n 22), .ref (n 23), .ref (n 24), .ref (n 25), .int 1, .int 0, .int 12, .int 0, .int 0, .int 0, .int 0, .int 1440, .ref (n 34), .ref (n 35), .int 0, .int 0, .int 0, .ref (n 39), .ref (n 40), .ref (n 41), .ref (n 42), .int 1, .int 0, .int 0])), (n 42, .inl (cI, 1024, .inl (upd (fun _ => 0) (0 : Int32).toNatClampNeg 0)))]) [0, 2] (by decide) rfl
  exact W.vret hx hb hr (fun t ht hW => ⟨⟨(upd (fun _ => 0) (0 : Int32).toNatClampNeg 0), rfl, rfl, ⟨by rw [ht]; exact hP9, hD9⟩⟩, hS.F ht⟩) hS.2.2 dX9_sums_104
set_option maxHeartbeats 4000000 in
set_option maxRecDepth 100000 in
/-- back at once -/
theorem k_X9_back (l : Launch) (D : va_G) (cI cJ cZ cM : Nat) (h0 : Nat) (n : Nat → Nat) (f : Nat → Int32) (hf : f 0 = 0) (sz : Nat) : Met l yX9_back wsX9_back ({ frames := 0, cells := 0, slots := 0, locals := 0 } : Room) (RW D cI cJ cZ cM [.ref h0, .int 0, .int (-1), .int 0] [(h0, .inr (9, [.ref (n 0), .int 0, .ref (n 2), .ref (n 3), .ref (n 4), .ref (n 5), .ref (n 6), .int 0, .ref (n 8), .ref (n 9), .ref (n 10), .ref (n 11), .ref (n 12), .ref (n 13), .ref (n 14), .int 0, .int 0, .ref (n 17), .ref (n 18), .ref (n 19), .ref (n 20), .ref (n 21), .ref (n 22), .ref (n 23), .ref (n 24), .ref (n 25), .int 1, .int 0, .int 12, .int 0, .int 0, .int 0, .int 0, .int 1440, .ref (n 34), .ref (n 35), .int 0, .int 0, .int 0, .ref (n 39), .ref (n 40), .ref (n 41), .ref (n 42), .int 1, .int (-1), .int 0])), (n 42, .inl (cI, 1024, .inl f))] sz) (va_Qv (S := Unit) (fun u => True) (BB D (fun _ => [(h0, .inr (9, [.ref (n 0), .int 0, .ref (n 2), .ref (n 3), .ref (n 4), .ref (n 5), .ref (n 6), .int 0, .ref (n 8), .ref (n 9), .ref (n 10), .ref (n 11), .ref (n 12), .ref (n 13), .ref (n 14), .int 0, .int 0, .ref (n 17), .ref (n 18), .ref (n 19), .ref (n 20), .ref (n 21), .ref (n 22), .ref (n 23), .ref (n 24), .ref (n 25), .int 1, .int 0, .int 12, .int 0, .int 0, .int 0, .int 0, .int 1440, .ref (n 34), .ref (n 35), .int 0, .int 0, .int 0, .ref (n 39), .ref (n 40), .ref (n 41), .ref (n 42), .int 1, .int 0, .int 0])), (n 42, .inl (cI, 1024, .inl f))]) (va_A [(h0, .inr (9, [.ref (n 0), .int 0, .ref (n 2), .ref (n 3), .ref (n 4), .ref (n 5), .ref (n 6), .int 0, .ref (n 8), .ref (n 9), .ref (n 10), .ref (n 11), .ref (n 12), .ref (n 13), .ref (n 14), .int 0, .int 0, .ref (n 17), .ref (n 18), .ref (n 19), .ref (n 20), .ref (n 21), .ref (n 22), .ref (n 23), .ref (n 24), .ref (n 25), .int 1, .int 0, .int 12, .int 0, .int 0, .int 0, .int 0, .int 1440, .ref (n 34), .ref (n 35), .int 0, .int 0, .int 0, .ref (n 39), .ref (n 40), .ref (n 41), .ref (n 42), .int 1, .int (-1), .int 0])), (n 42, .inl (cI, 1024, .inl f))] sz)) (va_A [(h0, .inr (9, [.ref (n 0), .int 0, .ref (n 2), .ref (n 3), .ref (n 4), .ref (n 5), .ref (n 6), .int 0, .ref (n 8), .ref (n 9), .ref (n 10), .ref (n 11), .ref (n 12), .ref (n 13), .ref (n 14), .int 0, .int 0, .ref (n 17), .ref (n 18), .ref (n 19), .ref (n 20), .ref (n 21), .ref (n 22), .ref (n 23), .ref (n 24), .ref (n 25), .int 1, .int 0, .int 12, .int 0, .int 0, .int 0, .int 0, .int 1440, .ref (n 34), .ref (n 35), .int 0, .int 0, .int 0, .ref (n 39), .ref (n 40), .ref (n 41), .ref (n 42), .int 1, .int (-1), .int 0])), (n 42, .inl (cI, 1024, .inl f))] sz)) 0 0 (va_A [(h0, .inr (9, [.ref (n 0), .int 0, .ref (n 2), .ref (n 3), .ref (n 4), .ref (n 5), .ref (n 6), .int 0, .ref (n 8), .ref (n 9), .ref (n 10), .ref (n 11), .ref (n 12), .ref (n 13), .ref (n 14), .int 0, .int 0, .ref (n 17), .ref (n 18), .ref (n 19), .ref (n 20), .ref (n 21), .ref (n 22), .ref (n 23), .ref (n 24), .ref (n 25), .int 1, .int 0, .int 12, .int 0, .int 0, .int 0, .int 0, .int 1440, .ref (n 34), .ref (n 35), .int 0, .int 0, .int 0, .ref (n 39), .ref (n 40), .ref (n 41), .ref (n 42), .int 1, .int (-1), .int 0])), (n 42, .inl (cI, 1024, .inl f))] sz) := by
  refine Met.ofW (cc := cX9_back) (maxL := 6) (ret := none) (by decide) rfl ?_
  intro p e s m args below meth c s₁ B hml hv
  obtain ⟨rfl, hsz, hG, hP, hD0⟩ := hv
  have hx := B.exec
  have hb := B.bytes
  have hr := B.returns
  have hts := atoms_spec (ws := wsX9_back) B.pre
  have hown : s.vm.findClass RX9 = some m.cls := findClass_of_methodNamed B.named
  have hlocks := B.notSynchronized
  have hK := hG.1
  have hN := hG.2
  subst hsz
  have hD := hD0.self (sz := s.heap.size)
  generalize hAe : va_A [(h0, .inr (9, [.ref (n 0), .int 0, .ref (n 2), .ref (n 3), .ref (n 4), .ref (n 5), .ref (n 6), .int 0, .ref (n 8), .ref (n 9), .ref (n 10), .ref (n 11), .ref (n 12), .ref (n 13), .ref (n 14), .int 0, .int 0, .ref (n 17), .ref (n 18), .ref (n 19), .ref (n 20), .ref (n 21), .ref (n 22), .ref (n 23), .ref (n 24), .ref (n 25), .int 1, .int 0, .int 12, .int 0, .int 0, .int 0, .int 0, .int 1440, .ref (n 34), .ref (n 35), .int 0, .int 0, .int 0, .ref (n 39), .ref (n 40), .ref (n 41), .ref (n 42), .int 1, .int (-1), .int 0])), (n 42, .inl (cI, 1024, .inl f))] s.heap.size = A at hD ⊢
  have hA : ∀ q : Nat, s.heap.size ≤ q → A q := fun q h => by rw [← hAe]; exact Or.inr h
  have hS : va_S A s.heap s.heap [] := va_S.rf
  have hP : va_P D vwCl [(h0, .inr (9, [.ref (n 0), .int 0, .ref (n 2), .ref (n 3), .ref (n 4), .ref (n 5), .ref (n 6), .int 0, .ref (n 8), .ref (n 9), .ref (n 10), .ref (n 11), .ref (n 12), .ref (n 13), .ref (n 14), .int 0, .int 0, .ref (n 17), .ref (n 18), .ref (n 19), .ref (n 20), .ref (n 21), .ref (n 22), .ref (n 23), .ref (n 24), .ref (n 25), .int 1, .int 0, .int 12, .int 0, .int 0, .int 0, .int 0, .int 1440, .ref (n 34), .ref (n 35), .int 0, .int 0, .int 0, .ref (n 39), .ref (n 40), .ref (n 41), .ref (n 42), .int 1, .int (-1), .int 0])), (n 42, .inl (cI, 1024, .inl f))] s.heap := hP
  have hl := lv_entry ([.ref h0, .int 0, .int (-1), .int 0]) (n := 6) (Nat.le_of_ble_eq_true rfl)
  rw [lg_entry_eq]
  generalize (lg_sl ([.ref h0, .int 0, .int (-1), .int 0]) ++ List.replicate (6 - (lg_sl ([.ref h0, .int 0, .int (-1), .int 0])).length) Slot.unset).toArray = ls at hl ⊢
  have hl : lv_has ls 6 [(0, .ref h0), (1, .int 0), (2, .int (-1)), (3, .int 0)] := hl
  refine lv_iload_n hx hb dX9_back_0 rfl (lv_at hl 2 rfl) ?_
  refine lv_if_ge (tgt := 8) hx hb dX9_back_1 (by decide) (fun c_1 => False.elim (by revert c_1; decide)) (fun _ => ?_)
  refine lv_iload_n hx hb dX9_back_4 rfl (lv_at hl 3 rfl) ?_
  refine lv_goto (tgt := 16) hx hb dX9_back_5 (by decide) ?_
  refine lv_istore (lv' := [(4, .int 0), (0, .ref h0), (1, .int 0), (2, .int (-1)), (3, .int 0)]) hx hb dX9_back_16 hl (by decide) rfl (fun ls hl => ?_)
  refine lv_aload_n hx hb dX9_back_18 rfl (lv_at hl 1 rfl) ?_
  refine va_get (D := D) (ci := 9) (v := .ref (n 42)) (C := RX9) (T := TX9) (N := 46) hx hb hts (fun _ h9 => List.mem_cons_of_mem _ (List.mem_append_right _ h9)) hown hK hP 0 rfl rfl 42 (by decide) (hts (.fieldLink RX9 102 "BuoyTenderModel" "weightOf" "[I") (by decide +kernel)) (fun _ h9 => h9) rfl dX9_back_19 ?_
  refine lv_iload_n hx hb dX9_back_22 rfl (lv_at hl 2 rfl) ?_
  refine va_iald hx hb hK hP 1 0 rfl rfl (vp_in_nI (n := 0) (N := 1024) (by decide) (by decide)) dX9_back_23 ?_
  refine lv_topi (fun z_2 ez_2 => ?_)
  obtain rfl : z_2 = 0 := ez_2.trans hf
  refine lv_istore (lv' := [(5, .int 0), (4, .int 0), (0, .ref h0), (1, .int 0), (2, .int (-1)), (3, .int 0)]) hx hb dX9_back_24 hl (by decide) rfl (fun ls hl => ?_)
  refine lv_iload hx hb dX9_back_26 (lv_at hl 1 rfl) ?_
  refine lv_aload_n hx hb dX9_back_28 rfl (lv_at hl 2 rfl) ?_
  refine va_get (D := D) (ci := 9) (v := .int 1440) (C := RX9) (T := TX9) (N := 46) hx hb hts (fun _ h9 => List.mem_cons_of_mem _ (List.mem_append_right _ h9)) hown hK hP 0 rfl rfl 33 (by decide) (hts (.fieldLink RX9 84 "BuoyTenderModel" "last" "I") (by decide +kernel)) (fun _ h9 => h9) rfl dX9_back_29 ?_
  refine lv_icmp_gt (tgt := 74) hx hb dX9_back_32 (by decide) (fun c_3 => False.elim (by revert c_3; decide)) (fun _ => ?_)
  refine lv_iload hx hb dX9_back_35 (lv_at hl 0 rfl) ?_
  refine lv_aload_n hx hb dX9_back_37 rfl (lv_at hl 2 rfl) ?_
  refine va_get (D := D) (ci := 9) (v := .int (-1)) (C := RX9) (T := TX9) (N := 46) hx hb hts (fun _ h9 => List.mem_cons_of_mem _ (List.mem_append_right _ h9)) hown hK hP 0 rfl rfl 44 (by decide) (hts (.fieldLink RX9 170 "BuoyTenderModel" "foundWeight" "I") (by decide +kernel)) (fun _ h9 => h9) rfl dX9_back_38 ?_
  refine lv_icmp_gt (tgt := 62) hx hb dX9_back_41 (by decide) (fun _ => ?_) (fun c_4 => False.elim (by revert c_4; decide))
  refine lv_aload_n hx hb dX9_back_62 rfl (lv_at hl 2 rfl) ?_
  refine lv_iload hx hb dX9_back_63 (lv_at hl 0 rfl) ?_
  refine va_put (D := D) (ci := 9) (v := .int 0) (ty := (tyX9 44)) (C := RX9) (T := TX9) (N := 46) hx hb hts (fun _ h9 => List.mem_cons_of_mem _ (List.mem_append_right _ h9)) tyX9 tyX9_ok nmX9 hown hK hP hD hS 0 rfl rfl 44 (by decide) (hts (.fieldLink RX9 170 "BuoyTenderModel" "foundWeight" "I") (by decide +kernel)) (fun _ h9 => h9) rfl (by decide +kernel) rfl rfl (Nat.le_of_ble_eq_true rfl) dX9_back_65 (fun H locs hP hD hS => ?_)
  have hP : va_P D vwCl [(h0, .inr (9, [.ref (n 0), .int 0, .ref (n 2), .ref (n 3), .ref (n 4), .ref (n 5), .ref (n 6), .int 0, .ref (n 8), .ref (n 9), .ref (n 10), .ref (n 11), .ref (n 12), .ref (n 13), .ref (n 14), .int 0, .int 0, .ref (n 17), .ref (n 18), .ref (n 19), .ref (n 20), .ref (n 21), .ref (n 22), .ref (n 23), .ref (n 24), .ref (n 25), .int 1, .int 0, .int 12, .int 0, .int 0, .int 0, .int 0, .int 1440, .ref (n 34), .ref (n 35), .int 0, .int 0, .int 0, .ref (n 39), .ref (n 40), .ref (n 41), .ref (n 42), .int 1, .int 0, .int 0])), (n 42, .inl (cI, 1024, .inl f))] H := hP
  have hD : va_D A [(h0, .inr (9, [.ref (n 0), .int 0, .ref (n 2), .ref (n 3), .ref (n 4), .ref (n 5), .ref (n 6), .int 0, .ref (n 8), .ref (n 9), .ref (n 10), .ref (n 11), .ref (n 12), .ref (n 13), .ref (n 14), .int 0, .int 0, .ref (n 17), .ref (n 18), .ref (n 19), .ref (n 20), .ref (n 21), .ref (n 22), .ref (n 23), .ref (n 24), .ref (n 25), .int 1, .int 0, .int 12, .int 0, .int 0, .int 0, .int 0, .int 1440, .ref (n 34), .ref (n 35), .int 0, .int 0, .int 0, .ref (n 39), .ref (n 40), .ref (n 41), .ref (n 42), .int 1, .int 0, .int 0])), (n 42, .inl (cI, 1024, .inl f))] := hD
  refine lv_aload_n hx hb dX9_back_68 rfl (lv_at hl 2 rfl) ?_
  refine lv_iload hx hb dX9_back_69 (lv_at hl 1 rfl) ?_
  refine va_put (D := D) (ci := 9) (v := .int 0) (ty := (tyX9 45)) (C := RX9) (T := TX9) (N := 46) hx hb hts (fun _ h9 => List.mem_cons_of_mem _ (List.mem_append_right _ h9)) tyX9 tyX9_ok nmX9 hown hK hP hD hS 0 rfl rfl 45 (by decide) (hts (.fieldLink RX9 182 "BuoyTenderModel" "foundBack" "I") (by decide +kernel)) (fun _ h9 => h9) rfl (by decide +kernel) rfl rfl (Nat.le_of_ble_eq_true rfl) dX9_back_71 (fun H locs hP hD hS => ?_)
  have hP : va_P D vwCl [(h0, .inr (9, [.ref (n 0), .int 0, .ref (n 2), .ref (n 3), .ref (n 4), .ref (n 5), .ref (n 6), .int 0, .ref (n 8), .ref (n 9), .ref (n 10), .ref (n 11), .ref (n 12), .ref (n 13), .ref (n 14), .int 0, .int 0, .ref (n 17), .ref (n 18), .ref (n 19), .ref (n 20), .ref (n 21), .ref (n 22), .ref (n 23), .ref (n 24), .ref (n 25), .int 1, .int 0, .int 12, .int 0, .int 0, .int 0, .int 0, .int 1440, .ref (n 34), .ref (n 35), .int 0, .int 0, .int 0, .ref (n 39), .ref (n 40), .ref (n 41), .ref (n 42), .int 1, .int 0, .int 0])), (n 42, .inl (cI, 1024, .inl f))] H := hP
  have hD : va_D A [(h0, .inr (9, [.ref (n 0), .int 0, .ref (n 2), .ref (n 3), .ref (n 4), .ref (n 5), .ref (n 6), .int 0, .ref (n 8), .ref (n 9), .ref (n 10), .ref (n 11), .ref (n 12), .ref (n 13), .ref (n 14), .int 0, .int 0, .ref (n 17), .ref (n 18), .ref (n 19), .ref (n 20), .ref (n 21), .ref (n 22), .ref (n 23), .ref (n 24), .ref (n 25), .int 1, .int 0, .int 12, .int 0, .int 0, .int 0, .int 0, .int 1440, .ref (n 34), .ref (n 35), .int 0, .int 0, .int 0, .ref (n 39), .ref (n 40), .ref (n 41), .ref (n 42), .int 1, .int 0, .int 0])), (n 42, .inl (cI, 1024, .inl f))] := hD
  have hP9 := hP.sub (ws' := [(h0, .inr (9, [.ref (n 0), .int 0, .ref (n 2), .ref (n 3), .ref (n 4), .ref (n 5), .ref (n 6), .int 0, .ref (n 8), .ref (n 9), .ref (n 10), .ref (n 11), .ref (n 12), .ref (n 13), .ref (n 14), .int 0, .int 0, .ref (n 17), .ref (n 18), .ref (n 19), .ref (n 20), .ref (n 21), .ref (n 22), .ref (n 23), .ref (n 24), .ref (n 25), .int 1, .int 0, .int 12, .int 0, .int 0, .int 0, .int 0, .int 1440, .ref (n 34), .ref (n 35), .int 0, .int 0, .int 0, .ref (n 39), .ref (n 40), .ref (n 41), .ref (n 42), .int 1, .int 0, .int 0])), (n 42, .inl (cI, 1024, .inl f))]) [0, 1] rfl
  have hD9 := hD.sub (ws' := [(h0, .inr (9, [.ref (n 0), .int 0, .ref (n 2), .ref (n 3), .ref (n 4), .ref (n 5), .ref (n 6), .int 0, .ref (n 8), .ref (n 9), .ref (n 10), .ref (n 11), .ref (n 12), .ref (n 13), .ref (n 14), .int 0, .int 0, .ref (n 17), .ref (n 18), .ref (n 19), .ref (n 20), .ref (n 21), .ref (n 22), .ref (n 23), .ref (n 24), .ref (n 25), .int 1, .int 0, .int 12, .int 0, .int 0, .int 0, .int 0, .int 1440, .ref (n 34), .ref (n 35), .int 0, .int 0, .int 0, .ref (n 39), .ref (n 40), .ref (n 41), .ref (n 42), .int 1, .int 0, .int 0])), (n 42, .inl (cI, 1024, .inl f))]) [0, 1] (by decide) rfl
  exact W.vret hx hb hr (fun t ht hW => ⟨⟨(), rfl, trivial, ⟨by rw [ht]; exact hP9, hD9⟩⟩, hS.F ht⟩) hS.2.2 dX9_back_74
set_option maxHeartbeats 4000000 in
set_option maxRecDepth 100000 in
/-- no mark -/
theorem k_X9_steps (l : Launch) (D : va_G) (cI cJ cZ cM : Nat) (h0 : Nat) (n : Nat → Nat) (x1 : Int32) (x2 : Int32) (x3 : Int32) : Met l yX9_steps wsX9_steps ({ frames := 0, cells := 0, slots := 0, locals := 0 } : Room) (RO D cI cJ cZ cM [.ref h0, .int x1, .int x2, .int x3] [(h0, .inr (9, [.ref (n 0), .int 0, .ref (n 2), .ref (n 3), .ref (n 4), .ref (n 5), .ref (n 6), .int 0, .ref (n 8), .ref (n 9), .ref (n 10), .ref (n 11), .ref (n 12), .ref (n 13), .ref (n 14), .int 0, .int 0, .ref (n 17), .ref (n 18), .ref (n 19), .ref (n 20), .ref (n 21), .ref (n 22), .ref (n 23), .ref (n 24), .ref (n 25), .int 1, .int 0, .int 12, .int 0, .int 0, .int 0, .int 0, .int 1440, .ref (n 34), .ref (n 35), .int 0, .int 0, .int 0, .ref (n 39), .ref (n 40), .ref (n 41), .ref (n 42), .int 1, .int 0, .int 0]))]) (va_Sv (fun _ => True)) 0 0 (fun _ => False) := by
  refine Met.ofW (cc := cX9_steps) (maxL := 7) (ret := none) (by decide) rfl ?_
  intro p e s m args below meth c s₁ B hml hv
  obtain ⟨rfl, hG, hP⟩ := hv
  have hx := B.exec
  have hb := B.bytes
  have hr := B.returns
  have hts := atoms_spec (ws := wsX9_steps) B.pre
  have hown : s.vm.findClass RX9 = some m.cls := findClass_of_methodNamed B.named
  have hlocks := B.notSynchronized
  have hK := hG.1
  have hN := hG.2
  have hl := lv_entry ([.ref h0, .int x1, .int x2, .int x3]) (n := 7) (Nat.le_of_ble_eq_true rfl)
  rw [lg_entry_eq]
  generalize (lg_sl ([.ref h0, .int x1, .int x2, .int x3]) ++ List.replicate (7 - (lg_sl ([.ref h0, .int x1, .int x2, .int x3])).length) Slot.unset).toArray = ls at hl ⊢
  have hl : lv_has ls 7 [(0, .ref h0), (1, .int x1), (2, .int x2), (3, .int x3)] := hl
  refine lv_iconst (v := 0) hx hb dX9_steps_0 (by decide) ?_
  refine lv_istore (lv' := [(4, .int 0), (0, .ref h0), (1, .int x1), (2, .int x2), (3, .int x3)]) hx hb dX9_steps_1 hl (by decide) rfl (fun ls hl => ?_)
  refine lv_iload hx hb dX9_steps_3 (lv_at hl 0 rfl) ?_
  refine lv_aload_n hx hb dX9_steps_5 rfl (lv_at hl 1 rfl) ?_
  refine va_get (D := D) (ci := 9) (v := .int 0) (C := RX9) (T := TX9) (N := 46) hx hb hts (fun _ h9 => List.mem_cons_of_mem _ (List.mem_append_right _ h9)) hown hK hP 0 rfl rfl 1 (by decide) (hts (.fieldLink RX9 109 "BuoyTenderModel" "marks" "I") (by decide +kernel)) (fun _ h9 => h9) rfl dX9_steps_6 ?_
  refine lv_icmp_ge (tgt := 79) hx hb dX9_steps_9 (by decide) (fun _ => ?_) (fun c_1 => False.elim (by revert c_1; decide))
  exact W.vret hx hb hr (fun t ht hW => ⟨rfl, trivial, ht⟩) (fun _ h => by cases h) dX9_steps_79
set_option maxHeartbeats 4000000 in
set_option maxRecDepth 100000 in
/-- no mark: back at once -/
theorem k_X9_goesOn (l : Launch) (D : va_G) (cI cJ cZ cM : Nat) (h0 : Nat) (n : Nat → Nat) (f : Nat → Int32) (hf : f 0 = 0) (sz : Nat) : Met l yX9_goesOn wsX9_goesOn ({ frames := 1, cells := 0, slots := 0, locals := 26 } : Room) (RW D cI cJ cZ cM [.ref h0, .int 0, .int (-1), .int 0] [(h0, .inr (9, [.ref (n 0), .int 0, .ref (n 2), .ref (n 3), .ref (n 4), .ref (n 5), .ref (n 6), .int 0, .ref (n 8), .ref (n 9), .ref (n 10), .ref (n 11), .ref (n 12), .ref (n 13), .ref (n 14), .int 0, .int 0, .ref (n 17), .ref (n 18), .ref (n 19), .ref (n 20), .ref (n 21), .ref (n 22), .ref (n 23), .ref (n 24), .ref (n 25), .int 1, .int 0, .int 12, .int 0, .int 0, .int 0, .int 0, .int 1440, .ref (n 34), .ref (n 35), .int 0, .int 0, .int 0, .ref (n 39), .ref (n 40), .ref (n 41), .ref (n 42), .int 1, .int 0, .int 0])), (n 35, .inl (cI, 10240, .inl (fun _ => 0))), (n 42, .inl (cI, 1024, .inl f))] sz) (va_Qv (S := Unit) (fun u => True) (BB D (fun _ => [(h0, .inr (9, [.ref (n 0), .int 0, .ref (n 2), .ref (n 3), .ref (n 4), .ref (n 5), .ref (n 6), .int 0, .ref (n 8), .ref (n 9), .ref (n 10), .ref (n 11), .ref (n 12), .ref (n 13), .ref (n 14), .int 0, .int 0, .ref (n 17), .ref (n 18), .ref (n 19), .ref (n 20), .ref (n 21), .ref (n 22), .ref (n 23), .ref (n 24), .ref (n 25), .int 1, .int 0, .int 12, .int 0, .int 0, .int 0, .int 0, .int 1440, .ref (n 34), .ref (n 35), .int 0, .int 0, .int 0, .ref (n 39), .ref (n 40), .ref (n 41), .ref (n 42), .int 1, .int 0, .int 0])), (n 42, .inl (cI, 1024, .inl f))]) (va_A [(h0, .inr (9, [.ref (n 0), .int 0, .ref (n 2), .ref (n 3), .ref (n 4), .ref (n 5), .ref (n 6), .int 0, .ref (n 8), .ref (n 9), .ref (n 10), .ref (n 11), .ref (n 12), .ref (n 13), .ref (n 14), .int 0, .int 0, .ref (n 17), .ref (n 18), .ref (n 19), .ref (n 20), .ref (n 21), .ref (n 22), .ref (n 23), .ref (n 24), .ref (n 25), .int 1, .int 0, .int 12, .int 0, .int 0, .int 0, .int 0, .int 1440, .ref (n 34), .ref (n 35), .int 0, .int 0, .int 0, .ref (n 39), .ref (n 40), .ref (n 41), .ref (n 42), .int 1, .int 0, .int 0])), (n 35, .inl (cI, 10240, .inl (fun _ => 0))), (n 42, .inl (cI, 1024, .inl f))] sz)) (va_A [(h0, .inr (9, [.ref (n 0), .int 0, .ref (n 2), .ref (n 3), .ref (n 4), .ref (n 5), .ref (n 6), .int 0, .ref (n 8), .ref (n 9), .ref (n 10), .ref (n 11), .ref (n 12), .ref (n 13), .ref (n 14), .int 0, .int 0, .ref (n 17), .ref (n 18), .ref (n 19), .ref (n 20), .ref (n 21), .ref (n 22), .ref (n 23), .ref (n 24), .ref (n 25), .int 1, .int 0, .int 12, .int 0, .int 0, .int 0, .int 0, .int 1440, .ref (n 34), .ref (n 35), .int 0, .int 0, .int 0, .ref (n 39), .ref (n 40), .ref (n 41), .ref (n 42), .int 1, .int 0, .int 0])), (n 35, .inl (cI, 10240, .inl (fun _ => 0))), (n 42, .inl (cI, 1024, .inl f))] sz)) 0 0 (va_A [(h0, .inr (9, [.ref (n 0), .int 0, .ref (n 2), .ref (n 3), .ref (n 4), .ref (n 5), .ref (n 6), .int 0, .ref (n 8), .ref (n 9), .ref (n 10), .ref (n 11), .ref (n 12), .ref (n 13), .ref (n 14), .int 0, .int 0, .ref (n 17), .ref (n 18), .ref (n 19), .ref (n 20), .ref (n 21), .ref (n 22), .ref (n 23), .ref (n 24), .ref (n 25), .int 1, .int 0, .int 12, .int 0, .int 0, .int 0, .int 0, .int 1440, .ref (n 34), .ref (n 35), .int 0, .int 0, .int 0, .ref (n 39), .ref (n 40), .ref (n 41), .ref (n 42), .int 1, .int 0, .int 0])), (n 35, .inl (cI, 10240, .inl (fun _ => 0))), (n 42, .inl (cI, 1024, .inl f))] sz) := by
  refine Met.ofW (cc := cX9_goesOn) (maxL := 8) (ret := none) (by decide) rfl ?_
  intro p e s m args below meth c s₁ B hml hv
  obtain ⟨rfl, hsz, hG, hP, hD0⟩ := hv
  have hx := B.exec
  have hb := B.bytes
  have hr := B.returns
  have hts := atoms_spec (ws := wsX9_goesOn) B.pre
  have hown : s.vm.findClass RX9 = some m.cls := findClass_of_methodNamed B.named
  have hlocks := B.notSynchronized
  have hK := hG.1
  have hN := hG.2
  subst hsz
  have hD := hD0.self (sz := s.heap.size)
  generalize hAe : va_A [(h0, .inr (9, [.ref (n 0), .int 0, .ref (n 2), .ref (n 3), .ref (n 4), .ref (n 5), .ref (n 6), .int 0, .ref (n 8), .ref (n 9), .ref (n 10), .ref (n 11), .ref (n 12), .ref (n 13), .ref (n 14), .int 0, .int 0, .ref (n 17), .ref (n 18), .ref (n 19), .ref (n 20), .ref (n 21), .ref (n 22), .ref (n 23), .ref (n 24), .ref (n 25), .int 1, .int 0, .int 12, .int 0, .int 0, .int 0, .int 0, .int 1440, .ref (n 34), .ref (n 35), .int 0, .int 0, .int 0, .ref (n 39), .ref (n 40), .ref (n 41), .ref (n 42), .int 1, .int 0, .int 0])), (n 35, .inl (cI, 10240, .inl (fun _ => 0))), (n 42, .inl (cI, 1024, .inl f))] s.heap.size = A at hD ⊢
  have hA : ∀ q : Nat, s.heap.size ≤ q → A q := fun q h => by rw [← hAe]; exact Or.inr h
  have hS : va_S A s.heap s.heap [] := va_S.rf
  have hP : va_P D vwCl [(h0, .inr (9, [.ref (n 0), .int 0, .ref (n 2), .ref (n 3), .ref (n 4), .ref (n 5), .ref (n 6), .int 0, .ref (n 8), .ref (n 9), .ref (n 10), .ref (n 11), .ref (n 12), .ref (n 13), .ref (n 14), .int 0, .int 0, .ref (n 17), .ref (n 18), .ref (n 19), .ref (n 20), .ref (n 21), .ref (n 22), .ref (n 23), .ref (n 24), .ref (n 25), .int 1, .int 0, .int 12, .int 0, .int 0, .int 0, .int 0, .int 1440, .ref (n 34), .ref (n 35), .int 0, .int 0, .int 0, .ref (n 39), .ref (n 40), .ref (n 41), .ref (n 42), .int 1, .int 0, .int 0])), (n 35, .inl (cI, 10240, .inl (fun _ => 0))), (n 42, .inl (cI, 1024, .inl f))] s.heap := hP
  have hl := lv_entry ([.ref h0, .int 0, .int (-1), .int 0]) (n := 8) (Nat.le_of_ble_eq_true rfl)
  rw [lg_entry_eq]
  generalize (lg_sl ([.ref h0, .int 0, .int (-1), .int 0]) ++ List.replicate (8 - (lg_sl ([.ref h0, .int 0, .int (-1), .int 0])).length) Slot.unset).toArray = ls at hl ⊢
  have hl : lv_has ls 8 [(0, .ref h0), (1, .int 0), (2, .int (-1)), (3, .int 0)] := hl
  refine lv_iconst (v := 1) hx hb dX9_goesOn_0 (by decide) ?_
  refine lv_aload_n hx hb dX9_goesOn_1 rfl (lv_at hl 0 rfl) ?_
  refine va_get (D := D) (ci := 9) (v := .int 0) (C := RX9) (T := TX9) (N := 46) hx hb hts (fun _ h9 => List.mem_cons_of_mem _ (List.mem_append_right _ h9)) hown hK hP 0 rfl rfl 1 (by decide) (hts (.fieldLink RX9 109 "BuoyTenderModel" "marks" "I") (by decide +kernel)) (fun _ h9 => h9) rfl dX9_goesOn_2 ?_
  refine lv_ishl hx hb dX9_goesOn_5 ?_
  refine lv_topi (fun z_1 ez_1 => ?_)
  obtain rfl : z_1 = 1 := ez_1.trans (by decide)
  refine lv_istore (lv' := [(4, .int 1), (0, .ref h0), (1, .int 0), (2, .int (-1)), (3, .int 0)]) hx hb dX9_goesOn_6 hl (by decide) rfl (fun ls hl => ?_)
  refine lv_iconst (v := 0) hx hb dX9_goesOn_8 (by decide) ?_
  refine lv_istore (lv' := [(5, .int 0), (4, .int 1), (0, .ref h0), (1, .int 0), (2, .int (-1)), (3, .int 0)]) hx hb dX9_goesOn_9 hl (by decide) rfl (fun ls hl => ?_)
  refine lv_iload hx hb dX9_goesOn_11 (lv_at hl 0 rfl) ?_
  refine lv_bipush (v := 10) hx hb dX9_goesOn_13 (by decide) ?_
  refine lv_iload hx hb dX9_goesOn_15 (lv_at hl 1 rfl) ?_
  refine lv_imul hx hb dX9_goesOn_17 ?_
  refine lv_topi (fun z_2 ez_2 => ?_)
  obtain rfl : z_2 = 10 := ez_2.trans (by decide)
  refine lv_icmp_ge (tgt := 35) hx hb dX9_goesOn_18 (by decide) (fun c_3 => False.elim (by revert c_3; decide)) (fun _ => ?_)
  refine lv_aload_n hx hb dX9_goesOn_21 rfl (lv_at hl 2 rfl) ?_
  refine va_get (D := D) (ci := 9) (v := .ref (n 35)) (C := RX9) (T := TX9) (N := 46) hx hb hts (fun _ h9 => List.mem_cons_of_mem _ (List.mem_append_right _ h9)) hown hK hP 0 rfl rfl 35 (by decide) (hts (.fieldLink RX9 90 "BuoyTenderModel" "earliest" "[I") (by decide +kernel)) (fun _ h9 => h9) rfl dX9_goesOn_22 ?_
  refine lv_iload hx hb dX9_goesOn_25 (lv_at hl 0 rfl) ?_
  refine lv_iconst (v := (-1)) hx hb dX9_goesOn_27 (by decide) ?_
  refine va_iast hx hb hK hP hD hS 1 0 rfl rfl (vp_in_nI (n := 0) (N := 10240) (by decide) (by decide)) dX9_goesOn_28 (fun H locs hP hD hS => ?_)
  have hP : va_P D vwCl [(h0, .inr (9, [.ref (n 0), .int 0, .ref (n 2), .ref (n 3), .ref (n 4), .ref (n 5), .ref (n 6), .int 0, .ref (n 8), .ref (n 9), .ref (n 10), .ref (n 11), .ref (n 12), .ref (n 13), .ref (n 14), .int 0, .int 0, .ref (n 17), .ref (n 18), .ref (n 19), .ref (n 20), .ref (n 21), .ref (n 22), .ref (n 23), .ref (n 24), .ref (n 25), .int 1, .int 0, .int 12, .int 0, .int 0, .int 0, .int 0, .int 1440, .ref (n 34), .ref (n 35), .int 0, .int 0, .int 0, .ref (n 39), .ref (n 40), .ref (n 41), .ref (n 42), .int 1, .int 0, .int 0])), (n 35, .inl (cI, 10240, .inl (upd (fun _ => 0) (0 : Int32).toNatClampNeg (-1)))), (n 42, .inl (cI, 1024, .inl f))] H := hP
  have hD : va_D A [(h0, .inr (9, [.ref (n 0), .int 0, .ref (n 2), .ref (n 3), .ref (n 4), .ref (n 5), .ref (n 6), .int 0, .ref (n 8), .ref (n 9), .ref (n 10), .ref (n 11), .ref (n 12), .ref (n 13), .ref (n 14), .int 0, .int 0, .ref (n 17), .ref (n 18), .ref (n 19), .ref (n 20), .ref (n 21), .ref (n 22), .ref (n 23), .ref (n 24), .ref (n 25), .int 1, .int 0, .int 12, .int 0, .int 0, .int 0, .int 0, .int 1440, .ref (n 34), .ref (n 35), .int 0, .int 0, .int 0, .ref (n 39), .ref (n 40), .ref (n 41), .ref (n 42), .int 1, .int 0, .int 0])), (n 35, .inl (cI, 10240, .inl (upd (fun _ => 0) (0 : Int32).toNatClampNeg (-1)))), (n 42, .inl (cI, 1024, .inl f))] := hD
  generalize (upd (fun _ => 0) (0 : Int32).toNatClampNeg (-1)) = f_5 at hP hD
  refine lv_iinc (v := 1) (lv' := [(5, .int 1), (4, .int 1), (0, .ref h0), (1, .int 0), (2, .int (-1)), (3, .int 0)]) hx hb dX9_goesOn_29 hl (k := 0) rfl (by decide) (by decide) rfl (fun ls hl => ?_)
  refine lv_goto (tgt := 11) hx hb dX9_goesOn_32 (by decide) ?_
  refine lv_iload hx hb dX9_goesOn_11 (lv_at hl 0 rfl) ?_
  refine lv_bipush (v := 10) hx hb dX9_goesOn_13 (by decide) ?_
  refine lv_iload hx hb dX9_goesOn_15 (lv_at hl 1 rfl) ?_
  refine lv_imul hx hb dX9_goesOn_17 ?_
  refine lv_topi (fun z_6 ez_6 => ?_)
  obtain rfl : z_6 = 10 := ez_6.trans (by decide)
  refine lv_icmp_ge (tgt := 35) hx hb dX9_goesOn_18 (by decide) (fun c_7 => False.elim (by revert c_7; decide)) (fun _ => ?_)
  refine lv_aload_n hx hb dX9_goesOn_21 rfl (lv_at hl 2 rfl) ?_
  refine va_get (D := D) (ci := 9) (v := .ref (n 35)) (C := RX9) (T := TX9) (N := 46) hx hb hts (fun _ h9 => List.mem_cons_of_mem _ (List.mem_append_right _ h9)) hown hK hP 0 rfl rfl 35 (by decide) (hts (.fieldLink RX9 90 "BuoyTenderModel" "earliest" "[I") (by decide +kernel)) (fun _ h9 => h9) rfl dX9_goesOn_22 ?_
  refine lv_iload hx hb dX9_goesOn_25 (lv_at hl 0 rfl) ?_
  refine lv_iconst (v := (-1)) hx hb dX9_goesOn_27 (by decide) ?_
  refine va_iast hx hb hK hP hD hS 1 0 rfl rfl (vp_in_nI (n := 1) (N := 10240) (by decide) (by decide)) dX9_goesOn_28 (fun H locs hP hD hS => ?_)
  have hP : va_P D vwCl [(h0, .inr (9, [.ref (n 0), .int 0, .ref (n 2), .ref (n 3), .ref (n 4), .ref (n 5), .ref (n 6), .int 0, .ref (n 8), .ref (n 9), .ref (n 10), .ref (n 11), .ref (n 12), .ref (n 13), .ref (n 14), .int 0, .int 0, .ref (n 17), .ref (n 18), .ref (n 19), .ref (n 20), .ref (n 21), .ref (n 22), .ref (n 23), .ref (n 24), .ref (n 25), .int 1, .int 0, .int 12, .int 0, .int 0, .int 0, .int 0, .int 1440, .ref (n 34), .ref (n 35), .int 0, .int 0, .int 0, .ref (n 39), .ref (n 40), .ref (n 41), .ref (n 42), .int 1, .int 0, .int 0])), (n 35, .inl (cI, 10240, .inl (upd f_5 (1 : Int32).toNatClampNeg (-1)))), (n 42, .inl (cI, 1024, .inl f))] H := hP
  have hD : va_D A [(h0, .inr (9, [.ref (n 0), .int 0, .ref (n 2), .ref (n 3), .ref (n 4), .ref (n 5), .ref (n 6), .int 0, .ref (n 8), .ref (n 9), .ref (n 10), .ref (n 11), .ref (n 12), .ref (n 13), .ref (n 14), .int 0, .int 0, .ref (n 17), .ref (n 18), .ref (n 19), .ref (n 20), .ref (n 21), .ref (n 22), .ref (n 23), .ref (n 24), .ref (n 25), .int 1, .int 0, .int 12, .int 0, .int 0, .int 0, .int 0, .int 1440, .ref (n 34), .ref (n 35), .int 0, .int 0, .int 0, .ref (n 39), .ref (n 40), .ref (n 41), .ref (n 42), .int 1, .int 0, .int 0])), (n 35, .inl (cI, 10240, .inl (upd f_5 (1 : Int32).toNatClampNeg (-1)))), (n 42, .inl (cI, 1024, .inl f))] := hD
  generalize (upd f_5 (1 : Int32).toNatClampNeg (-1)) = f_9 at hP hD
  refine lv_iinc (v := 2) (lv' := [(5, .int 2), (4, .int 1), (0, .ref h0), (1, .int 0), (2, .int (-1)), (3, .int 0)]) hx hb dX9_goesOn_29 hl (k := 0) rfl (by decide) (by decide) rfl (fun ls hl => ?_)
  refine lv_goto (tgt := 11) hx hb dX9_goesOn_32 (by decide) ?_
  refine lv_iload hx hb dX9_goesOn_11 (lv_at hl 0 rfl) ?_
  refine lv_bipush (v := 10) hx hb dX9_goesOn_13 (by decide) ?_
  refine lv_iload hx hb dX9_goesOn_15 (lv_at hl 1 rfl) ?_
  refine lv_imul hx hb dX9_goesOn_17 ?_
  refine lv_topi (fun z_10 ez_10 => ?_)
  obtain rfl : z_10 = 10 := ez_10.trans (by decide)
  refine lv_icmp_ge (tgt := 35) hx hb dX9_goesOn_18 (by decide) (fun c_11 => False.elim (by revert c_11; decide)) (fun _ => ?_)
  refine lv_aload_n hx hb dX9_goesOn_21 rfl (lv_at hl 2 rfl) ?_
  refine va_get (D := D) (ci := 9) (v := .ref (n 35)) (C := RX9) (T := TX9) (N := 46) hx hb hts (fun _ h9 => List.mem_cons_of_mem _ (List.mem_append_right _ h9)) hown hK hP 0 rfl rfl 35 (by decide) (hts (.fieldLink RX9 90 "BuoyTenderModel" "earliest" "[I") (by decide +kernel)) (fun _ h9 => h9) rfl dX9_goesOn_22 ?_
  refine lv_iload hx hb dX9_goesOn_25 (lv_at hl 0 rfl) ?_
  refine lv_iconst (v := (-1)) hx hb dX9_goesOn_27 (by decide) ?_
  refine va_iast hx hb hK hP hD hS 1 0 rfl rfl (vp_in_nI (n := 2) (N := 10240) (by decide) (by decide)) dX9_goesOn_28 (fun H locs hP hD hS => ?_)
  have hP : va_P D vwCl [(h0, .inr (9, [.ref (n 0), .int 0, .ref (n 2), .ref (n 3), .ref (n 4), .ref (n 5), .ref (n 6), .int 0, .ref (n 8), .ref (n 9), .ref (n 10), .ref (n 11), .ref (n 12), .ref (n 13), .ref (n 14), .int 0, .int 0, .ref (n 17), .ref (n 18), .ref (n 19), .ref (n 20), .ref (n 21), .ref (n 22), .ref (n 23), .ref (n 24), .ref (n 25), .int 1, .int 0, .int 12, .int 0, .int 0, .int 0, .int 0, .int 1440, .ref (n 34), .ref (n 35), .int 0, .int 0, .int 0, .ref (n 39), .ref (n 40), .ref (n 41), .ref (n 42), .int 1, .int 0, .int 0])), (n 35, .inl (cI, 10240, .inl (upd f_9 (2 : Int32).toNatClampNeg (-1)))), (n 42, .inl (cI, 1024, .inl f))] H := hP
  have hD : va_D A [(h0, .inr (9, [.ref (n 0), .int 0, .ref (n 2), .ref (n 3), .ref (n 4), .ref (n 5), .ref (n 6), .int 0, .ref (n 8), .ref (n 9), .ref (n 10), .ref (n 11), .ref (n 12), .ref (n 13), .ref (n 14), .int 0, .int 0, .ref (n 17), .ref (n 18), .ref (n 19), .ref (n 20), .ref (n 21), .ref (n 22), .ref (n 23), .ref (n 24), .ref (n 25), .int 1, .int 0, .int 12, .int 0, .int 0, .int 0, .int 0, .int 1440, .ref (n 34), .ref (n 35), .int 0, .int 0, .int 0, .ref (n 39), .ref (n 40), .ref (n 41), .ref (n 42), .int 1, .int 0, .int 0])), (n 35, .inl (cI, 10240, .inl (upd f_9 (2 : Int32).toNatClampNeg (-1)))), (n 42, .inl (cI, 1024, .inl f))] := hD
  generalize (upd f_9 (2 : Int32).toNatClampNeg (-1)) = f_13 at hP hD
  refine lv_iinc (v := 3) (lv' := [(5, .int 3), (4, .int 1), (0, .ref h0), (1, .int 0), (2, .int (-1)), (3, .int 0)]) hx hb dX9_goesOn_29 hl (k := 0) rfl (by decide) (by decide) rfl (fun ls hl => ?_)
  refine lv_goto (tgt := 11) hx hb dX9_goesOn_32 (by decide) ?_
  refine lv_iload hx hb dX9_goesOn_11 (lv_at hl 0 rfl) ?_
  refine lv_bipush (v := 10) hx hb dX9_goesOn_13 (by decide) ?_
  refine lv_iload hx hb dX9_goesOn_15 (lv_at hl 1 rfl) ?_
  refine lv_imul hx hb dX9_goesOn_17 ?_
  refine lv_topi (fun z_14 ez_14 => ?_)
  obtain rfl : z_14 = 10 := ez_14.trans (by decide)
  refine lv_icmp_ge (tgt := 35) hx hb dX9_goesOn_18 (by decide) (fun c_15 => False.elim (by revert c_15; decide)) (fun _ => ?_)
  refine lv_aload_n hx hb dX9_goesOn_21 rfl (lv_at hl 2 rfl) ?_
  refine va_get (D := D) (ci := 9) (v := .ref (n 35)) (C := RX9) (T := TX9) (N := 46) hx hb hts (fun _ h9 => List.mem_cons_of_mem _ (List.mem_append_right _ h9)) hown hK hP 0 rfl rfl 35 (by decide) (hts (.fieldLink RX9 90 "BuoyTenderModel" "earliest" "[I") (by decide +kernel)) (fun _ h9 => h9) rfl dX9_goesOn_22 ?_
  refine lv_iload hx hb dX9_goesOn_25 (lv_at hl 0 rfl) ?_
  refine lv_iconst (v := (-1)) hx hb dX9_goesOn_27 (by decide) ?_
  refine va_iast hx hb hK hP hD hS 1 0 rfl rfl (vp_in_nI (n := 3) (N := 10240) (by decide) (by decide)) dX9_goesOn_28 (fun H locs hP hD hS => ?_)
  have hP : va_P D vwCl [(h0, .inr (9, [.ref (n 0), .int 0, .ref (n 2), .ref (n 3), .ref (n 4), .ref (n 5), .ref (n 6), .int 0, .ref (n 8), .ref (n 9), .ref (n 10), .ref (n 11), .ref (n 12), .ref (n 13), .ref (n 14), .int 0, .int 0, .ref (n 17), .ref (n 18), .ref (n 19), .ref (n 20), .ref (n 21), .ref (n 22), .ref (n 23), .ref (n 24), .ref (n 25), .int 1, .int 0, .int 12, .int 0, .int 0, .int 0, .int 0, .int 1440, .ref (n 34), .ref (n 35), .int 0, .int 0, .int 0, .ref (n 39), .ref (n 40), .ref (n 41), .ref (n 42), .int 1, .int 0, .int 0])), (n 35, .inl (cI, 10240, .inl (upd f_13 (3 : Int32).toNatClampNeg (-1)))), (n 42, .inl (cI, 1024, .inl f))] H := hP
  have hD : va_D A [(h0, .inr (9, [.ref (n 0), .int 0, .ref (n 2), .ref (n 3), .ref (n 4), .ref (n 5), .ref (n 6), .int 0, .ref (n 8), .ref (n 9), .ref (n 10), .ref (n 11), .ref (n 12), .ref (n 13), .ref (n 14), .int 0, .int 0, .ref (n 17), .ref (n 18), .ref (n 19), .ref (n 20), .ref (n 21), .ref (n 22), .ref (n 23), .ref (n 24), .ref (n 25), .int 1, .int 0, .int 12, .int 0, .int 0, .int 0, .int 0, .int 1440, .ref (n 34), .ref (n 35), .int 0, .int 0, .int 0, .ref (n 39), .ref (n 40), .ref (n 41), .ref (n 42), .int 1, .int 0, .int 0])), (n 35, .inl (cI, 10240, .inl (upd f_13 (3 : Int32).toNatClampNeg (-1)))), (n 42, .inl (cI, 1024, .inl f))] := hD
  generalize (upd f_13 (3 : Int32).toNatClampNeg (-1)) = f_17 at hP hD
  refine lv_iinc (v := 4) (lv' := [(5, .int 4), (4, .int 1), (0, .ref h0), (1, .int 0), (2, .int (-1)), (3, .int 0)]) hx hb dX9_goesOn_29 hl (k := 0) rfl (by decide) (by decide) rfl (fun ls hl => ?_)
  refine lv_goto (tgt := 11) hx hb dX9_goesOn_32 (by decide) ?_
  refine lv_iload hx hb dX9_goesOn_11 (lv_at hl 0 rfl) ?_
  refine lv_bipush (v := 10) hx hb dX9_goesOn_13 (by decide) ?_
  refine lv_iload hx hb dX9_goesOn_15 (lv_at hl 1 rfl) ?_
  refine lv_imul hx hb dX9_goesOn_17 ?_
  refine lv_topi (fun z_18 ez_18 => ?_)
  obtain rfl : z_18 = 10 := ez_18.trans (by decide)
  refine lv_icmp_ge (tgt := 35) hx hb dX9_goesOn_18 (by decide) (fun c_19 => False.elim (by revert c_19; decide)) (fun _ => ?_)
  refine lv_aload_n hx hb dX9_goesOn_21 rfl (lv_at hl 2 rfl) ?_
  refine va_get (D := D) (ci := 9) (v := .ref (n 35)) (C := RX9) (T := TX9) (N := 46) hx hb hts (fun _ h9 => List.mem_cons_of_mem _ (List.mem_append_right _ h9)) hown hK hP 0 rfl rfl 35 (by decide) (hts (.fieldLink RX9 90 "BuoyTenderModel" "earliest" "[I") (by decide +kernel)) (fun _ h9 => h9) rfl dX9_goesOn_22 ?_
  refine lv_iload hx hb dX9_goesOn_25 (lv_at hl 0 rfl) ?_
  refine lv_iconst (v := (-1)) hx hb dX9_goesOn_27 (by decide) ?_
  refine va_iast hx hb hK hP hD hS 1 0 rfl rfl (vp_in_nI (n := 4) (N := 10240) (by decide) (by decide)) dX9_goesOn_28 (fun H locs hP hD hS => ?_)
  have hP : va_P D vwCl [(h0, .inr (9, [.ref (n 0), .int 0, .ref (n 2), .ref (n 3), .ref (n 4), .ref (n 5), .ref (n 6), .int 0, .ref (n 8), .ref (n 9), .ref (n 10), .ref (n 11), .ref (n 12), .ref (n 13), .ref (n 14), .int 0, .int 0, .ref (n 17), .ref (n 18), .ref (n 19), .ref (n 20), .ref (n 21), .ref (n 22), .ref (n 23), .ref (n 24), .ref (n 25), .int 1, .int 0, .int 12, .int 0, .int 0, .int 0, .int 0, .int 1440, .ref (n 34), .ref (n 35), .int 0, .int 0, .int 0, .ref (n 39), .ref (n 40), .ref (n 41), .ref (n 42), .int 1, .int 0, .int 0])), (n 35, .inl (cI, 10240, .inl (upd f_17 (4 : Int32).toNatClampNeg (-1)))), (n 42, .inl (cI, 1024, .inl f))] H := hP
  have hD : va_D A [(h0, .inr (9, [.ref (n 0), .int 0, .ref (n 2), .ref (n 3), .ref (n 4), .ref (n 5), .ref (n 6), .int 0, .ref (n 8), .ref (n 9), .ref (n 10), .ref (n 11), .ref (n 12), .ref (n 13), .ref (n 14), .int 0, .int 0, .ref (n 17), .ref (n 18), .ref (n 19), .ref (n 20), .ref (n 21), .ref (n 22), .ref (n 23), .ref (n 24), .ref (n 25), .int 1, .int 0, .int 12, .int 0, .int 0, .int 0, .int 0, .int 1440, .ref (n 34), .ref (n 35), .int 0, .int 0, .int 0, .ref (n 39), .ref (n 40), .ref (n 41), .ref (n 42), .int 1, .int 0, .int 0])), (n 35, .inl (cI, 10240, .inl (upd f_17 (4 : Int32).toNatClampNeg (-1)))), (n 42, .inl (cI, 1024, .inl f))] := hD
  generalize (upd f_17 (4 : Int32).toNatClampNeg (-1)) = f_21 at hP hD
  refine lv_iinc (v := 5) (lv' := [(5, .int 5), (4, .int 1), (0, .ref h0), (1, .int 0), (2, .int (-1)), (3, .int 0)]) hx hb dX9_goesOn_29 hl (k := 0) rfl (by decide) (by decide) rfl (fun ls hl => ?_)
  refine lv_goto (tgt := 11) hx hb dX9_goesOn_32 (by decide) ?_
  refine lv_iload hx hb dX9_goesOn_11 (lv_at hl 0 rfl) ?_
  refine lv_bipush (v := 10) hx hb dX9_goesOn_13 (by decide) ?_
  refine lv_iload hx hb dX9_goesOn_15 (lv_at hl 1 rfl) ?_
  refine lv_imul hx hb dX9_goesOn_17 ?_
  refine lv_topi (fun z_22 ez_22 => ?_)
  obtain rfl : z_22 = 10 := ez_22.trans (by decide)
  refine lv_icmp_ge (tgt := 35) hx hb dX9_goesOn_18 (by decide) (fun c_23 => False.elim (by revert c_23; decide)) (fun _ => ?_)
  refine lv_aload_n hx hb dX9_goesOn_21 rfl (lv_at hl 2 rfl) ?_
  refine va_get (D := D) (ci := 9) (v := .ref (n 35)) (C := RX9) (T := TX9) (N := 46) hx hb hts (fun _ h9 => List.mem_cons_of_mem _ (List.mem_append_right _ h9)) hown hK hP 0 rfl rfl 35 (by decide) (hts (.fieldLink RX9 90 "BuoyTenderModel" "earliest" "[I") (by decide +kernel)) (fun _ h9 => h9) rfl dX9_goesOn_22 ?_
  refine lv_iload hx hb dX9_goesOn_25 (lv_at hl 0 rfl) ?_
  refine lv_iconst (v := (-1)) hx hb dX9_goesOn_27 (by decide) ?_
  refine va_iast hx hb hK hP hD hS 1 0 rfl rfl (vp_in_nI (n := 5) (N := 10240) (by decide) (by decide)) dX9_goesOn_28 (fun H locs hP hD hS => ?_)
  have hP : va_P D vwCl [(h0, .inr (9, [.ref (n 0), .int 0, .ref (n 2), .ref (n 3), .ref (n 4), .ref (n 5), .ref (n 6), .int 0, .ref (n 8), .ref (n 9), .ref (n 10), .ref (n 11), .ref (n 12), .ref (n 13), .ref (n 14), .int 0, .int 0, .ref (n 17), .ref (n 18), .ref (n 19), .ref (n 20), .ref (n 21), .ref (n 22), .ref (n 23), .ref (n 24), .ref (n 25), .int 1, .int 0, .int 12, .int 0, .int 0, .int 0, .int 0, .int 1440, .ref (n 34), .ref (n 35), .int 0, .int 0, .int 0, .ref (n 39), .ref (n 40), .ref (n 41), .ref (n 42), .int 1, .int 0, .int 0])), (n 35, .inl (cI, 10240, .inl (upd f_21 (5 : Int32).toNatClampNeg (-1)))), (n 42, .inl (cI, 1024, .inl f))] H := hP
  have hD : va_D A [(h0, .inr (9, [.ref (n 0), .int 0, .ref (n 2), .ref (n 3), .ref (n 4), .ref (n 5), .ref (n 6), .int 0, .ref (n 8), .ref (n 9), .ref (n 10), .ref (n 11), .ref (n 12), .ref (n 13), .ref (n 14), .int 0, .int 0, .ref (n 17), .ref (n 18), .ref (n 19), .ref (n 20), .ref (n 21), .ref (n 22), .ref (n 23), .ref (n 24), .ref (n 25), .int 1, .int 0, .int 12, .int 0, .int 0, .int 0, .int 0, .int 1440, .ref (n 34), .ref (n 35), .int 0, .int 0, .int 0, .ref (n 39), .ref (n 40), .ref (n 41), .ref (n 42), .int 1, .int 0, .int 0])), (n 35, .inl (cI, 10240, .inl (upd f_21 (5 : Int32).toNatClampNeg (-1)))), (n 42, .inl (cI, 1024, .inl f))] := hD
  generalize (upd f_21 (5 : Int32).toNatClampNeg (-1)) = f_25 at hP hD
  refine lv_iinc (v := 6) (lv' := [(5, .int 6), (4, .int 1), (0, .ref h0), (1, .int 0), (2, .int (-1)), (3, .int 0)]) hx hb dX9_goesOn_29 hl (k := 0) rfl (by decide) (by decide) rfl (fun ls hl => ?_)
  refine lv_goto (tgt := 11) hx hb dX9_goesOn_32 (by decide) ?_
  refine lv_iload hx hb dX9_goesOn_11 (lv_at hl 0 rfl) ?_
  refine lv_bipush (v := 10) hx hb dX9_goesOn_13 (by decide) ?_
  refine lv_iload hx hb dX9_goesOn_15 (lv_at hl 1 rfl) ?_
  refine lv_imul hx hb dX9_goesOn_17 ?_
  refine lv_topi (fun z_26 ez_26 => ?_)
  obtain rfl : z_26 = 10 := ez_26.trans (by decide)
  refine lv_icmp_ge (tgt := 35) hx hb dX9_goesOn_18 (by decide) (fun c_27 => False.elim (by revert c_27; decide)) (fun _ => ?_)
  refine lv_aload_n hx hb dX9_goesOn_21 rfl (lv_at hl 2 rfl) ?_
  refine va_get (D := D) (ci := 9) (v := .ref (n 35)) (C := RX9) (T := TX9) (N := 46) hx hb hts (fun _ h9 => List.mem_cons_of_mem _ (List.mem_append_right _ h9)) hown hK hP 0 rfl rfl 35 (by decide) (hts (.fieldLink RX9 90 "BuoyTenderModel" "earliest" "[I") (by decide +kernel)) (fun _ h9 => h9) rfl dX9_goesOn_22 ?_
  refine lv_iload hx hb dX9_goesOn_25 (lv_at hl 0 rfl) ?_
  refine lv_iconst (v := (-1)) hx hb dX9_goesOn_27 (by decide) ?_
  refine va_iast hx hb hK hP hD hS 1 0 rfl rfl (vp_in_nI (n := 6) (N := 10240) (by decide) (by decide)) dX9_goesOn_28 (fun H locs hP hD hS => ?_)
  have hP : va_P D vwCl [(h0, .inr (9, [.ref (n 0), .int 0, .ref (n 2), .ref (n 3), .ref (n 4), .ref (n 5), .ref (n 6), .int 0, .ref (n 8), .ref (n 9), .ref (n 10), .ref (n 11), .ref (n 12), .ref (n 13), .ref (n 14), .int 0, .int 0, .ref (n 17), .ref (n 18), .ref (n 19), .ref (n 20), .ref (n 21), .ref (n 22), .ref (n 23), .ref (n 24), .ref (n 25), .int 1, .int 0, .int 12, .int 0, .int 0, .int 0, .int 0, .int 1440, .ref (n 34), .ref (n 35), .int 0, .int 0, .int 0, .ref (n 39), .ref (n 40), .ref (n 41), .ref (n 42), .int 1, .int 0, .int 0])), (n 35, .inl (cI, 10240, .inl (upd f_25 (6 : Int32).toNatClampNeg (-1)))), (n 42, .inl (cI, 1024, .inl f))] H := hP
  have hD : va_D A [(h0, .inr (9, [.ref (n 0), .int 0, .ref (n 2), .ref (n 3), .ref (n 4), .ref (n 5), .ref (n 6), .int 0, .ref (n 8), .ref (n 9), .ref (n 10), .ref (n 11), .ref (n 12), .ref (n 13), .ref (n 14), .int 0, .int 0, .ref (n 17), .ref (n 18), .ref (n 19), .ref (n 20), .ref (n 21), .ref (n 22), .ref (n 23), .ref (n 24), .ref (n 25), .int 1, .int 0, .int 12, .int 0, .int 0, .int 0, .int 0, .int 1440, .ref (n 34), .ref (n 35), .int 0, .int 0, .int 0, .ref (n 39), .ref (n 40), .ref (n 41), .ref (n 42), .int 1, .int 0, .int 0])), (n 35, .inl (cI, 10240, .inl (upd f_25 (6 : Int32).toNatClampNeg (-1)))), (n 42, .inl (cI, 1024, .inl f))] := hD
  generalize (upd f_25 (6 : Int32).toNatClampNeg (-1)) = f_29 at hP hD
  refine lv_iinc (v := 7) (lv' := [(5, .int 7), (4, .int 1), (0, .ref h0), (1, .int 0), (2, .int (-1)), (3, .int 0)]) hx hb dX9_goesOn_29 hl (k := 0) rfl (by decide) (by decide) rfl (fun ls hl => ?_)
  refine lv_goto (tgt := 11) hx hb dX9_goesOn_32 (by decide) ?_
  refine lv_iload hx hb dX9_goesOn_11 (lv_at hl 0 rfl) ?_
  refine lv_bipush (v := 10) hx hb dX9_goesOn_13 (by decide) ?_
  refine lv_iload hx hb dX9_goesOn_15 (lv_at hl 1 rfl) ?_
  refine lv_imul hx hb dX9_goesOn_17 ?_
  refine lv_topi (fun z_30 ez_30 => ?_)
  obtain rfl : z_30 = 10 := ez_30.trans (by decide)
  refine lv_icmp_ge (tgt := 35) hx hb dX9_goesOn_18 (by decide) (fun c_31 => False.elim (by revert c_31; decide)) (fun _ => ?_)
  refine lv_aload_n hx hb dX9_goesOn_21 rfl (lv_at hl 2 rfl) ?_
  refine va_get (D := D) (ci := 9) (v := .ref (n 35)) (C := RX9) (T := TX9) (N := 46) hx hb hts (fun _ h9 => List.mem_cons_of_mem _ (List.mem_append_right _ h9)) hown hK hP 0 rfl rfl 35 (by decide) (hts (.fieldLink RX9 90 "BuoyTenderModel" "earliest" "[I") (by decide +kernel)) (fun _ h9 => h9) rfl dX9_goesOn_22 ?_
  refine lv_iload hx hb dX9_goesOn_25 (lv_at hl 0 rfl) ?_
  refine lv_iconst (v := (-1)) hx hb dX9_goesOn_27 (by decide) ?_
  refine va_iast hx hb hK hP hD hS 1 0 rfl rfl (vp_in_nI (n := 7) (N := 10240) (by decide) (by decide)) dX9_goesOn_28 (fun H locs hP hD hS => ?_)
  have hP : va_P D vwCl [(h0, .inr (9, [.ref (n 0), .int 0, .ref (n 2), .ref (n 3), .ref (n 4), .ref (n 5), .ref (n 6), .int 0, .ref (n 8), .ref (n 9), .ref (n 10), .ref (n 11), .ref (n 12), .ref (n 13), .ref (n 14), .int 0, .int 0, .ref (n 17), .ref (n 18), .ref (n 19), .ref (n 20), .ref (n 21), .ref (n 22), .ref (n 23), .ref (n 24), .ref (n 25), .int 1, .int 0, .int 12, .int 0, .int 0, .int 0, .int 0, .int 1440, .ref (n 34), .ref (n 35), .int 0, .int 0, .int 0, .ref (n 39), .ref (n 40), .ref (n 41), .ref (n 42), .int 1, .int 0, .int 0])), (n 35, .inl (cI, 10240, .inl (upd f_29 (7 : Int32).toNatClampNeg (-1)))), (n 42, .inl (cI, 1024, .inl f))] H := hP
  have hD : va_D A [(h0, .inr (9, [.ref (n 0), .int 0, .ref (n 2), .ref (n 3), .ref (n 4), .ref (n 5), .ref (n 6), .int 0, .ref (n 8), .ref (n 9), .ref (n 10), .ref (n 11), .ref (n 12), .ref (n 13), .ref (n 14), .int 0, .int 0, .ref (n 17), .ref (n 18), .ref (n 19), .ref (n 20), .ref (n 21), .ref (n 22), .ref (n 23), .ref (n 24), .ref (n 25), .int 1, .int 0, .int 12, .int 0, .int 0, .int 0, .int 0, .int 1440, .ref (n 34), .ref (n 35), .int 0, .int 0, .int 0, .ref (n 39), .ref (n 40), .ref (n 41), .ref (n 42), .int 1, .int 0, .int 0])), (n 35, .inl (cI, 10240, .inl (upd f_29 (7 : Int32).toNatClampNeg (-1)))), (n 42, .inl (cI, 1024, .inl f))] := hD
  generalize (upd f_29 (7 : Int32).toNatClampNeg (-1)) = f_33 at hP hD
  refine lv_iinc (v := 8) (lv' := [(5, .int 8), (4, .int 1), (0, .ref h0), (1, .int 0), (2, .int (-1)), (3, .int 0)]) hx hb dX9_goesOn_29 hl (k := 0) rfl (by decide) (by decide) rfl (fun ls hl => ?_)
  refine lv_goto (tgt := 11) hx hb dX9_goesOn_32 (by decide) ?_
  refine lv_iload hx hb dX9_goesOn_11 (lv_at hl 0 rfl) ?_
  refine lv_bipush (v := 10) hx hb dX9_goesOn_13 (by decide) ?_
  refine lv_iload hx hb dX9_goesOn_15 (lv_at hl 1 rfl) ?_
  refine lv_imul hx hb dX9_goesOn_17 ?_
  refine lv_topi (fun z_34 ez_34 => ?_)
  obtain rfl : z_34 = 10 := ez_34.trans (by decide)
  refine lv_icmp_ge (tgt := 35) hx hb dX9_goesOn_18 (by decide) (fun c_35 => False.elim (by revert c_35; decide)) (fun _ => ?_)
  refine lv_aload_n hx hb dX9_goesOn_21 rfl (lv_at hl 2 rfl) ?_
  refine va_get (D := D) (ci := 9) (v := .ref (n 35)) (C := RX9) (T := TX9) (N := 46) hx hb hts (fun _ h9 => List.mem_cons_of_mem _ (List.mem_append_right _ h9)) hown hK hP 0 rfl rfl 35 (by decide) (hts (.fieldLink RX9 90 "BuoyTenderModel" "earliest" "[I") (by decide +kernel)) (fun _ h9 => h9) rfl dX9_goesOn_22 ?_
  refine lv_iload hx hb dX9_goesOn_25 (lv_at hl 0 rfl) ?_
  refine lv_iconst (v := (-1)) hx hb dX9_goesOn_27 (by decide) ?_
  refine va_iast hx hb hK hP hD hS 1 0 rfl rfl (vp_in_nI (n := 8) (N := 10240) (by decide) (by decide)) dX9_goesOn_28 (fun H locs hP hD hS => ?_)
  have hP : va_P D vwCl [(h0, .inr (9, [.ref (n 0), .int 0, .ref (n 2), .ref (n 3), .ref (n 4), .ref (n 5), .ref (n 6), .int 0, .ref (n 8), .ref (n 9), .ref (n 10), .ref (n 11), .ref (n 12), .ref (n 13), .ref (n 14), .int 0, .int 0, .ref (n 17), .ref (n 18), .ref (n 19), .ref (n 20), .ref (n 21), .ref (n 22), .ref (n 23), .ref (n 24), .ref (n 25), .int 1, .int 0, .int 12, .int 0, .int 0, .int 0, .int 0, .int 1440, .ref (n 34), .ref (n 35), .int 0, .int 0, .int 0, .ref (n 39), .ref (n 40), .ref (n 41), .ref (n 42), .int 1, .int 0, .int 0])), (n 35, .inl (cI, 10240, .inl (upd f_33 (8 : Int32).toNatClampNeg (-1)))), (n 42, .inl (cI, 1024, .inl f))] H := hP
  have hD : va_D A [(h0, .inr (9, [.ref (n 0), .int 0, .ref (n 2), .ref (n 3), .ref (n 4), .ref (n 5), .ref (n 6), .int 0, .ref (n 8), .ref (n 9), .ref (n 10), .ref (n 11), .ref (n 12), .ref (n 13), .ref (n 14), .int 0, .int 0, .ref (n 17), .ref (n 18), .ref (n 19), .ref (n 20), .ref (n 21), .ref (n 22), .ref (n 23), .ref (n 24), .ref (n 25), .int 1, .int 0, .int 12, .int 0, .int 0, .int 0, .int 0, .int 1440, .ref (n 34), .ref (n 35), .int 0, .int 0, .int 0, .ref (n 39), .ref (n 40), .ref (n 41), .ref (n 42), .int 1, .int 0, .int 0])), (n 35, .inl (cI, 10240, .inl (upd f_33 (8 : Int32).toNatClampNeg (-1)))), (n 42, .inl (cI, 1024, .inl f))] := hD
  generalize (upd f_33 (8 : Int32).toNatClampNeg (-1)) = f_37 at hP hD
  refine lv_iinc (v := 9) (lv' := [(5, .int 9), (4, .int 1), (0, .ref h0), (1, .int 0), (2, .int (-1)), (3, .int 0)]) hx hb dX9_goesOn_29 hl (k := 0) rfl (by decide) (by decide) rfl (fun ls hl => ?_)
  refine lv_goto (tgt := 11) hx hb dX9_goesOn_32 (by decide) ?_
  refine lv_iload hx hb dX9_goesOn_11 (lv_at hl 0 rfl) ?_
  refine lv_bipush (v := 10) hx hb dX9_goesOn_13 (by decide) ?_
  refine lv_iload hx hb dX9_goesOn_15 (lv_at hl 1 rfl) ?_
  refine lv_imul hx hb dX9_goesOn_17 ?_
  refine lv_topi (fun z_38 ez_38 => ?_)
  obtain rfl : z_38 = 10 := ez_38.trans (by decide)
  refine lv_icmp_ge (tgt := 35) hx hb dX9_goesOn_18 (by decide) (fun c_39 => False.elim (by revert c_39; decide)) (fun _ => ?_)
  refine lv_aload_n hx hb dX9_goesOn_21 rfl (lv_at hl 2 rfl) ?_
  refine va_get (D := D) (ci := 9) (v := .ref (n 35)) (C := RX9) (T := TX9) (N := 46) hx hb hts (fun _ h9 => List.mem_cons_of_mem _ (List.mem_append_right _ h9)) hown hK hP 0 rfl rfl 35 (by decide) (hts (.fieldLink RX9 90 "BuoyTenderModel" "earliest" "[I") (by decide +kernel)) (fun _ h9 => h9) rfl dX9_goesOn_22 ?_
  refine lv_iload hx hb dX9_goesOn_25 (lv_at hl 0 rfl) ?_
  refine lv_iconst (v := (-1)) hx hb dX9_goesOn_27 (by decide) ?_
  refine va_iast hx hb hK hP hD hS 1 0 rfl rfl (vp_in_nI (n := 9) (N := 10240) (by decide) (by decide)) dX9_goesOn_28 (fun H locs hP hD hS => ?_)
  have hP : va_P D vwCl [(h0, .inr (9, [.ref (n 0), .int 0, .ref (n 2), .ref (n 3), .ref (n 4), .ref (n 5), .ref (n 6), .int 0, .ref (n 8), .ref (n 9), .ref (n 10), .ref (n 11), .ref (n 12), .ref (n 13), .ref (n 14), .int 0, .int 0, .ref (n 17), .ref (n 18), .ref (n 19), .ref (n 20), .ref (n 21), .ref (n 22), .ref (n 23), .ref (n 24), .ref (n 25), .int 1, .int 0, .int 12, .int 0, .int 0, .int 0, .int 0, .int 1440, .ref (n 34), .ref (n 35), .int 0, .int 0, .int 0, .ref (n 39), .ref (n 40), .ref (n 41), .ref (n 42), .int 1, .int 0, .int 0])), (n 35, .inl (cI, 10240, .inl (upd f_37 (9 : Int32).toNatClampNeg (-1)))), (n 42, .inl (cI, 1024, .inl f))] H := hP
  have hD : va_D A [(h0, .inr (9, [.ref (n 0), .int 0, .ref (n 2), .ref (n 3), .ref (n 4), .ref (n 5), .ref (n 6), .int 0, .ref (n 8), .ref (n 9), .ref (n 10), .ref (n 11), .ref (n 12), .ref (n 13), .ref (n 14), .int 0, .int 0, .ref (n 17), .ref (n 18), .ref (n 19), .ref (n 20), .ref (n 21), .ref (n 22), .ref (n 23), .ref (n 24), .ref (n 25), .int 1, .int 0, .int 12, .int 0, .int 0, .int 0, .int 0, .int 1440, .ref (n 34), .ref (n 35), .int 0, .int 0, .int 0, .ref (n 39), .ref (n 40), .ref (n 41), .ref (n 42), .int 1, .int 0, .int 0])), (n 35, .inl (cI, 10240, .inl (upd f_37 (9 : Int32).toNatClampNeg (-1)))), (n 42, .inl (cI, 1024, .inl f))] := hD
  generalize (upd f_37 (9 : Int32).toNatClampNeg (-1)) = f_41 at hP hD
  refine lv_iinc (v := 10) (lv' := [(5, .int 10), (4, .int 1), (0, .ref h0), (1, .int 0), (2, .int (-1)), (3, .int 0)]) hx hb dX9_goesOn_29 hl (k := 0) rfl (by decide) (by decide) rfl (fun ls hl => ?_)
  refine lv_goto (tgt := 11) hx hb dX9_goesOn_32 (by decide) ?_
  refine lv_iload hx hb dX9_goesOn_11 (lv_at hl 0 rfl) ?_
  refine lv_bipush (v := 10) hx hb dX9_goesOn_13 (by decide) ?_
  refine lv_iload hx hb dX9_goesOn_15 (lv_at hl 1 rfl) ?_
  refine lv_imul hx hb dX9_goesOn_17 ?_
  refine lv_topi (fun z_42 ez_42 => ?_)
  obtain rfl : z_42 = 10 := ez_42.trans (by decide)
  refine lv_icmp_ge (tgt := 35) hx hb dX9_goesOn_18 (by decide) (fun _ => ?_) (fun c_43 => False.elim (by revert c_43; decide))
  refine lv_iload_n hx hb dX9_goesOn_35 rfl (lv_at hl 4 rfl) ?_
  refine lv_if_lt (tgt := 51) hx hb dX9_goesOn_36 (by decide) (fun _ => ?_) (fun c_44 => False.elim (by revert c_44; decide))
  refine lv_aload_n hx hb dX9_goesOn_51 rfl (lv_at hl 2 rfl) ?_
  refine lv_iconst (v := (-1)) hx hb dX9_goesOn_52 (by decide) ?_
  refine va_put (D := D) (ci := 9) (v := .int (-1)) (ty := (tyX9 44)) (C := RX9) (T := TX9) (N := 46) hx hb hts (fun _ h9 => List.mem_cons_of_mem _ (List.mem_append_right _ h9)) tyX9 tyX9_ok nmX9 hown hK hP hD hS 0 rfl rfl 44 (by decide) (hts (.fieldLink RX9 170 "BuoyTenderModel" "foundWeight" "I") (by decide +kernel)) (fun _ h9 => h9) rfl (by decide +kernel) rfl rfl (Nat.le_of_ble_eq_true rfl) dX9_goesOn_53 (fun H locs hP hD hS => ?_)
  have hP : va_P D vwCl [(h0, .inr (9, [.ref (n 0), .int 0, .ref (n 2), .ref (n 3), .ref (n 4), .ref (n 5), .ref (n 6), .int 0, .ref (n 8), .ref (n 9), .ref (n 10), .ref (n 11), .ref (n 12), .ref (n 13), .ref (n 14), .int 0, .int 0, .ref (n 17), .ref (n 18), .ref (n 19), .ref (n 20), .ref (n 21), .ref (n 22), .ref (n 23), .ref (n 24), .ref (n 25), .int 1, .int 0, .int 12, .int 0, .int 0, .int 0, .int 0, .int 1440, .ref (n 34), .ref (n 35), .int 0, .int 0, .int 0, .ref (n 39), .ref (n 40), .ref (n 41), .ref (n 42), .int 1, .int (-1), .int 0])), (n 35, .inl (cI, 10240, .inl f_41)), (n 42, .inl (cI, 1024, .inl f))] H := hP
  have hD : va_D A [(h0, .inr (9, [.ref (n 0), .int 0, .ref (n 2), .ref (n 3), .ref (n 4), .ref (n 5), .ref (n 6), .int 0, .ref (n 8), .ref (n 9), .ref (n 10), .ref (n 11), .ref (n 12), .ref (n 13), .ref (n 14), .int 0, .int 0, .ref (n 17), .ref (n 18), .ref (n 19), .ref (n 20), .ref (n 21), .ref (n 22), .ref (n 23), .ref (n 24), .ref (n 25), .int 1, .int 0, .int 12, .int 0, .int 0, .int 0, .int 0, .int 1440, .ref (n 34), .ref (n 35), .int 0, .int 0, .int 0, .ref (n 39), .ref (n 40), .ref (n 41), .ref (n 42), .int 1, .int (-1), .int 0])), (n 35, .inl (cI, 10240, .inl f_41)), (n 42, .inl (cI, 1024, .inl f))] := hD
  refine lv_aload_n hx hb dX9_goesOn_56 rfl (lv_at hl 2 rfl) ?_
  refine lv_iload_n hx hb dX9_goesOn_57 rfl (lv_at hl 3 rfl) ?_
  refine lv_iload_n hx hb dX9_goesOn_58 rfl (lv_at hl 4 rfl) ?_
  refine lv_iload_n hx hb dX9_goesOn_59 rfl (lv_at hl 5 rfl) ?_
  have hPc := hP.sub (ws' := [(h0, .inr (9, [.ref (n 0), .int 0, .ref (n 2), .ref (n 3), .ref (n 4), .ref (n 5), .ref (n 6), .int 0, .ref (n 8), .ref (n 9), .ref (n 10), .ref (n 11), .ref (n 12), .ref (n 13), .ref (n 14), .int 0, .int 0, .ref (n 17), .ref (n 18), .ref (n 19), .ref (n 20), .ref (n 21), .ref (n 22), .ref (n 23), .ref (n 24), .ref (n 25), .int 1, .int 0, .int 12, .int 0, .int 0, .int 0, .int 0, .int 1440, .ref (n 34), .ref (n 35), .int 0, .int 0, .int 0, .ref (n 39), .ref (n 40), .ref (n 41), .ref (n 42), .int 1, .int (-1), .int 0])), (n 42, .inl (cI, 1024, .inl f))]) [0, 2] rfl
  have hDc := hD.sub (ws' := [(h0, .inr (9, [.ref (n 0), .int 0, .ref (n 2), .ref (n 3), .ref (n 4), .ref (n 5), .ref (n 6), .int 0, .ref (n 8), .ref (n 9), .ref (n 10), .ref (n 11), .ref (n 12), .ref (n 13), .ref (n 14), .int 0, .int 0, .ref (n 17), .ref (n 18), .ref (n 19), .ref (n 20), .ref (n 21), .ref (n 22), .ref (n 23), .ref (n 24), .ref (n 25), .int 1, .int 0, .int 12, .int 0, .int 0, .int 0, .int 0, .int 1440, .ref (n 34), .ref (n 35), .int 0, .int 0, .int 0, .ref (n 39), .ref (n 40), .ref (n 41), .ref (n 42), .int 1, .int (-1), .int 0])), (n 42, .inl (cI, 1024, .inl f))]) [0, 2] (by decide) rfl
  have hFc := va_free (wc := [(h0, .inr (9, [.ref (n 0), .int 0, .ref (n 2), .ref (n 3), .ref (n 4), .ref (n 5), .ref (n 6), .int 0, .ref (n 8), .ref (n 9), .ref (n 10), .ref (n 11), .ref (n 12), .ref (n 13), .ref (n 14), .int 0, .int 0, .ref (n 17), .ref (n 18), .ref (n 19), .ref (n 20), .ref (n 21), .ref (n 22), .ref (n 23), .ref (n 24), .ref (n 25), .int 1, .int 0, .int 12, .int 0, .int 0, .int 0, .int 0, .int 1440, .ref (n 34), .ref (n 35), .int 0, .int 0, .int 0, .ref (n 39), .ref (n 40), .ref (n 41), .ref (n 42), .int 1, .int (-1), .int 0])), (n 42, .inl (cI, 1024, .inl f))]) hD hS hA [0, 2] rfl
  refine va_callv (va_runV (As := [.int 0, .int (-1), .int 0]) (rest := []) ⟨hx, hb, hml, hown, hts⟩ (k_X9_back l D cI cJ cZ cM h0 n f hf _) (cwV 3 hts gX9_goesOn_X9_back rfl rfl rfl (by decide +kernel) ⟨Nat.le_of_ble_eq_true rfl, Nat.le_of_ble_eq_true rfl⟩) (rw_V hG hPc hDc (va_recv hK hPc (ci := 9) (q0 := 0) rfl rfl)) rfl rfl hl.1 rfl (lv_room (Nat.le_of_ble_eq_true rfl)) dX9_goesOn_60 ⟨Nat.le_of_ble_eq_true rfl, Nat.le_of_ble_eq_true rfl⟩) hS (fun q _ h => hFc q h) hFc (fun u_45 t_45 H1 locs ht hvm hw hB hz1 hk1 hS => ?_)
  obtain ⟨hP1, hD1⟩ := hB
  rw [ht] at hP1
  obtain ⟨hP, hD⟩ := va_join (wr := [(n 35, .inl (cI, 10240, .inl f_41))]) (w1 := [(h0, .inr (9, [.ref (n 0), .int 0, .ref (n 2), .ref (n 3), .ref (n 4), .ref (n 5), .ref (n 6), .int 0, .ref (n 8), .ref (n 9), .ref (n 10), .ref (n 11), .ref (n 12), .ref (n 13), .ref (n 14), .int 0, .int 0, .ref (n 17), .ref (n 18), .ref (n 19), .ref (n 20), .ref (n 21), .ref (n 22), .ref (n 23), .ref (n 24), .ref (n 25), .int 1, .int 0, .int 12, .int 0, .int 0, .int 0, .int 0, .int 1440, .ref (n 34), .ref (n 35), .int 0, .int 0, .int 0, .ref (n 39), .ref (n 40), .ref (n 41), .ref (n 42), .int 1, .int 0, .int 0])), (n 42, .inl (cI, 1024, .inl f))]) hP hD [0, 2] [1] rfl rfl (by decide) (by decide) hk1 hFc hP1 hD1
  generalize H1 = H at hP hS ⊢
  have hP : va_P D vwCl [(n 35, .inl (cI, 10240, .inl f_41)), (h0, .inr (9, [.ref (n 0), .int 0, .ref (n 2), .ref (n 3), .ref (n 4), .ref (n 5), .ref (n 6), .int 0, .ref (n 8), .ref (n 9), .ref (n 10), .ref (n 11), .ref (n 12), .ref (n 13), .ref (n 14), .int 0, .int 0, .ref (n 17), .ref (n 18), .ref (n 19), .ref (n 20), .ref (n 21), .ref (n 22), .ref (n 23), .ref (n 24), .ref (n 25), .int 1, .int 0, .int 12, .int 0, .int 0, .int 0, .int 0, .int 1440, .ref (n 34), .ref (n 35), .int 0, .int 0, .int 0, .ref (n 39), .ref (n 40), .ref (n 41), .ref (n 42), .int 1, .int 0, .int 0])), (n 42, .inl (cI, 1024, .inl f))] H := hP
  have hD : va_D A [(n 35, .inl (cI, 10240, .inl f_41)), (h0, .inr (9, [.ref (n 0), .int 0, .ref (n 2), .ref (n 3), .ref (n 4), .ref (n 5), .ref (n 6), .int 0, .ref (n 8), .ref (n 9), .ref (n 10), .ref (n 11), .ref (n 12), .ref (n 13), .ref (n 14), .int 0, .int 0, .ref (n 17), .ref (n 18), .ref (n 19), .ref (n 20), .ref (n 21), .ref (n 22), .ref (n 23), .ref (n 24), .ref (n 25), .int 1, .int 0, .int 12, .int 0, .int 0, .int 0, .int 0, .int 1440, .ref (n 34), .ref (n 35), .int 0, .int 0, .int 0, .ref (n 39), .ref (n 40), .ref (n 41), .ref (n 42), .int 1, .int 0, .int 0])), (n 42, .inl (cI, 1024, .inl f))] := hD
  refine lv_iload_n hx hb dX9_goesOn_63 rfl (lv_at hl 3 rfl) ?_
  refine lv_istore (lv' := [(5, .int 0), (4, .int 1), (0, .ref h0), (1, .int 0), (2, .int (-1)), (3, .int 0)]) hx hb dX9_goesOn_64 hl (by decide) rfl (fun ls hl => ?_)
  refine lv_iload hx hb dX9_goesOn_66 (lv_at hl 0 rfl) ?_
  refine lv_iload hx hb dX9_goesOn_68 (lv_at hl 1 rfl) ?_
  refine lv_icmp_ge (tgt := 166) hx hb dX9_goesOn_70 (by decide) (fun c_46 => False.elim (by revert c_46; decide)) (fun _ => ?_)
  refine lv_iload hx hb dX9_goesOn_73 (lv_at hl 0 rfl) ?_
  refine lv_iload_n hx hb dX9_goesOn_75 rfl (lv_at hl 3 rfl) ?_
  refine lv_iand hx hb dX9_goesOn_76 ?_
  refine lv_topi (fun z_47 ez_47 => ?_)
  obtain rfl : z_47 = 0 := ez_47.trans (by decide)
  refine lv_iload_n hx hb dX9_goesOn_77 rfl (lv_at hl 3 rfl) ?_
  refine lv_icmp_eq (tgt := 84) hx hb dX9_goesOn_78 (by decide) (fun _ => ?_) (fun c_48 => False.elim (by revert c_48; decide))
  refine lv_iload hx hb dX9_goesOn_84 (lv_at hl 0 rfl) ?_
  refine lv_iload_n hx hb dX9_goesOn_86 rfl (lv_at hl 3 rfl) ?_
  refine lv_icmp_ne (tgt := 102) hx hb dX9_goesOn_87 (by decide) (fun c_49 => False.elim (by revert c_49; decide)) (fun _ => ?_)
  refine lv_iload_n hx hb dX9_goesOn_90 rfl (lv_at hl 4 rfl) ?_
  refine lv_if_ge (tgt := 102) hx hb dX9_goesOn_91 (by decide) (fun c_50 => False.elim (by revert c_50; decide)) (fun _ => ?_)
  refine lv_aload_n hx hb dX9_goesOn_94 rfl (lv_at hl 2 rfl) ?_
  refine lv_iload hx hb dX9_goesOn_95 (lv_at hl 0 rfl) ?_
  refine lv_iconst (v := (-1)) hx hb dX9_goesOn_97 (by decide) ?_
  refine lv_iload_n hx hb dX9_goesOn_98 rfl (lv_at hl 5 rfl) ?_
  have hPc := hP.sub (ws' := [(h0, .inr (9, [.ref (n 0), .int 0, .ref (n 2), .ref (n 3), .ref (n 4), .ref (n 5), .ref (n 6), .int 0, .ref (n 8), .ref (n 9), .ref (n 10), .ref (n 11), .ref (n 12), .ref (n 13), .ref (n 14), .int 0, .int 0, .ref (n 17), .ref (n 18), .ref (n 19), .ref (n 20), .ref (n 21), .ref (n 22), .ref (n 23), .ref (n 24), .ref (n 25), .int 1, .int 0, .int 12, .int 0, .int 0, .int 0, .int 0, .int 1440, .ref (n 34), .ref (n 35), .int 0, .int 0, .int 0, .ref (n 39), .ref (n 40), .ref (n 41), .ref (n 42), .int 1, .int 0, .int 0]))]) [1] rfl
  refine va_csv (va_Run.run (va_runV (As := [.int 0, .int (-1), .int 0]) (rest := []) ⟨hx, hb, hml, hown, hts⟩ (k_X9_steps l D cI cJ cZ cM h0 n 0 (-1) 0) (cwV 3 hts gX9_goesOn_X9_steps rfl rfl rfl (by decide +kernel) ⟨Nat.le_of_ble_eq_true rfl, Nat.le_of_ble_eq_true rfl⟩) (ro_V hG hPc (va_recv hK hPc (ci := 9) (q0 := 0) rfl rfl)) rfl rfl hl.1 rfl (lv_room (Nat.le_of_ble_eq_true rfl)) dX9_goesOn_99 ⟨Nat.le_of_ble_eq_true rfl, Nat.le_of_ble_eq_true rfl⟩)) (fun _ => ?_)
  refine lv_iconst (v := 0) hx hb dX9_goesOn_102 (by decide) ?_
  refine lv_istore (lv' := [(6, .int 0), (5, .int 0), (4, .int 1), (0, .ref h0), (1, .int 0), (2, .int (-1)), (3, .int 0)]) hx hb dX9_goesOn_103 hl (by decide) rfl (fun ls hl => ?_)
  refine lv_iload hx hb dX9_goesOn_105 (lv_at hl 0 rfl) ?_
  refine lv_aload_n hx hb dX9_goesOn_107 rfl (lv_at hl 3 rfl) ?_
  refine va_get (D := D) (ci := 9) (v := .int 0) (C := RX9) (T := TX9) (N := 46) hx hb hts (fun _ h9 => List.mem_cons_of_mem _ (List.mem_append_right _ h9)) hown hK hP 1 rfl rfl 1 (by decide) (hts (.fieldLink RX9 109 "BuoyTenderModel" "marks" "I") (by decide +kernel)) (fun _ h9 => h9) rfl dX9_goesOn_108 ?_
  refine lv_icmp_ge (tgt := 160) hx hb dX9_goesOn_111 (by decide) (fun _ => ?_) (fun c_52 => False.elim (by revert c_52; decide))
  refine lv_iinc (v := 1) (lv' := [(5, .int 1), (6, .int 0), (4, .int 1), (0, .ref h0), (1, .int 0), (2, .int (-1)), (3, .int 0)]) hx hb dX9_goesOn_160 hl (k := 1) rfl (by decide) (by decide) rfl (fun ls hl => ?_)
  refine lv_goto (tgt := 66) hx hb dX9_goesOn_163 (by decide) ?_
  refine lv_iload hx hb dX9_goesOn_66 (lv_at hl 0 rfl) ?_
  refine lv_iload hx hb dX9_goesOn_68 (lv_at hl 2 rfl) ?_
  refine lv_icmp_ge (tgt := 166) hx hb dX9_goesOn_70 (by decide) (fun _ => ?_) (fun c_53 => False.elim (by revert c_53; decide))
  have hP9 := hP.sub (ws' := [(h0, .inr (9, [.ref (n 0), .int 0, .ref (n 2), .ref (n 3), .ref (n 4), .ref (n 5), .ref (n 6), .int 0, .ref (n 8), .ref (n 9), .ref (n 10), .ref (n 11), .ref (n 12), .ref (n 13), .ref (n 14), .int 0, .int 0, .ref (n 17), .ref (n 18), .ref (n 19), .ref (n 20), .ref (n 21), .ref (n 22), .ref (n 23), .ref (n 24), .ref (n 25), .int 1, .int 0, .int 12, .int 0, .int 0, .int 0, .int 0, .int 1440, .ref (n 34), .ref (n 35), .int 0, .int 0, .int 0, .ref (n 39), .ref (n 40), .ref (n 41), .ref (n 42), .int 1, .int 0, .int 0])), (n 42, .inl (cI, 1024, .inl f))]) [1, 2] rfl
  have hD9 := hD.sub (ws' := [(h0, .inr (9, [.ref (n 0), .int 0, .ref (n 2), .ref (n 3), .ref (n 4), .ref (n 5), .ref (n 6), .int 0, .ref (n 8), .ref (n 9), .ref (n 10), .ref (n 11), .ref (n 12), .ref (n 13), .ref (n 14), .int 0, .int 0, .ref (n 17), .ref (n 18), .ref (n 19), .ref (n 20), .ref (n 21), .ref (n 22), .ref (n 23), .ref (n 24), .ref (n 25), .int 1, .int 0, .int 12, .int 0, .int 0, .int 0, .int 0, .int 1440, .ref (n 34), .ref (n 35), .int 0, .int 0, .int 0, .ref (n 39), .ref (n 40), .ref (n 41), .ref (n 42), .int 1, .int 0, .int 0])), (n 42, .inl (cI, 1024, .inl f))]) [1, 2] (by decide) rfl
  exact W.vret hx hb hr (fun t ht hW => ⟨⟨(), rfl, trivial, ⟨by rw [ht]; exact hP9, hD9⟩⟩, hS.F ht⟩) hS.2.2 dX9_goesOn_166
set_option maxHeartbeats 4000000 in
set_option maxRecDepth 100000 in
/-- the empty round -/
theorem k_X9_rounds (l : Launch) (D : va_G) (cI cJ cZ cM : Nat) (h0 : Nat) (n : Nat → Nat) (sz : Nat) : Met l yX9_rounds wsX9_rounds ({ frames := 2, cells := 0, slots := 0, locals := 53 } : Room) (RW D cI cJ cZ cM [.ref h0] [(h0, .inr (9, [.ref (n 0), .int 0, .ref (n 2), .ref (n 3), .ref (n 4), .ref (n 5), .ref (n 6), .int 0, .ref (n 8), .ref (n 9), .ref (n 10), .ref (n 11), .ref (n 12), .ref (n 13), .ref (n 14), .int 0, .int 0, .ref (n 17), .ref (n 18), .ref (n 19), .ref (n 20), .ref (n 21), .ref (n 22), .ref (n 23), .ref (n 24), .ref (n 25), .int 1, .int 0, .int 12, .int 0, .int 0, .int 0, .int 0, .int 1440, .ref (n 34), .ref (n 35), .int 0, .int 0, .int 0, .ref (n 39), .ref (n 40), .ref (n 41), .ref (n 42), .int 0, .int 0, .int 0])), (n 35, .inl (cI, 10240, .inl (fun _ => 0))), (n 41, .inl (cI, 1024, .inl (fun _ => 0))), (n 42, .inl (cI, 1024, .inl (fun _ => 0)))] sz) (va_Qv (S := Unit) (fun u => True) (BB D (fun _ => [(h0, .inr (9, [.ref (n 0), .int 0, .ref (n 2), .ref (n 3), .ref (n 4), .ref (n 5), .ref (n 6), .int 0, .ref (n 8), .ref (n 9), .ref (n 10), .ref (n 11), .ref (n 12), .ref (n 13), .ref (n 14), .int 0, .int 0, .ref (n 17), .ref (n 18), .ref (n 19), .ref (n 20), .ref (n 21), .ref (n 22), .ref (n 23), .ref (n 24), .ref (n 25), .int 1, .int 0, .int 12, .int 0, .int 0, .int 0, .int 0, .int 1440, .ref (n 34), .ref (n 35), .int 0, .int 0, .int 0, .ref (n 39), .ref (n 40), .ref (n 41), .ref (n 42), .int 1, .int 0, .int 0]))]) (va_A [(h0, .inr (9, [.ref (n 0), .int 0, .ref (n 2), .ref (n 3), .ref (n 4), .ref (n 5), .ref (n 6), .int 0, .ref (n 8), .ref (n 9), .ref (n 10), .ref (n 11), .ref (n 12), .ref (n 13), .ref (n 14), .int 0, .int 0, .ref (n 17), .ref (n 18), .ref (n 19), .ref (n 20), .ref (n 21), .ref (n 22), .ref (n 23), .ref (n 24), .ref (n 25), .int 1, .int 0, .int 12, .int 0, .int 0, .int 0, .int 0, .int 1440, .ref (n 34), .ref (n 35), .int 0, .int 0, .int 0, .ref (n 39), .ref (n 40), .ref (n 41), .ref (n 42), .int 0, .int 0, .int 0])), (n 35, .inl (cI, 10240, .inl (fun _ => 0))), (n 41, .inl (cI, 1024, .inl (fun _ => 0))), (n 42, .inl (cI, 1024, .inl (fun _ => 0)))] sz)) (va_A [(h0, .inr (9, [.ref (n 0), .int 0, .ref (n 2), .ref (n 3), .ref (n 4), .ref (n 5), .ref (n 6), .int 0, .ref (n 8), .ref (n 9), .ref (n 10), .ref (n 11), .ref (n 12), .ref (n 13), .ref (n 14), .int 0, .int 0, .ref (n 17), .ref (n 18), .ref (n 19), .ref (n 20), .ref (n 21), .ref (n 22), .ref (n 23), .ref (n 24), .ref (n 25), .int 1, .int 0, .int 12, .int 0, .int 0, .int 0, .int 0, .int 1440, .ref (n 34), .ref (n 35), .int 0, .int 0, .int 0, .ref (n 39), .ref (n 40), .ref (n 41), .ref (n 42), .int 0, .int 0, .int 0])), (n 35, .inl (cI, 10240, .inl (fun _ => 0))), (n 41, .inl (cI, 1024, .inl (fun _ => 0))), (n 42, .inl (cI, 1024, .inl (fun _ => 0)))] sz)) 0 0 (va_A [(h0, .inr (9, [.ref (n 0), .int 0, .ref (n 2), .ref (n 3), .ref (n 4), .ref (n 5), .ref (n 6), .int 0, .ref (n 8), .ref (n 9), .ref (n 10), .ref (n 11), .ref (n 12), .ref (n 13), .ref (n 14), .int 0, .int 0, .ref (n 17), .ref (n 18), .ref (n 19), .ref (n 20), .ref (n 21), .ref (n 22), .ref (n 23), .ref (n 24), .ref (n 25), .int 1, .int 0, .int 12, .int 0, .int 0, .int 0, .int 0, .int 1440, .ref (n 34), .ref (n 35), .int 0, .int 0, .int 0, .ref (n 39), .ref (n 40), .ref (n 41), .ref (n 42), .int 0, .int 0, .int 0])), (n 35, .inl (cI, 10240, .inl (fun _ => 0))), (n 41, .inl (cI, 1024, .inl (fun _ => 0))), (n 42, .inl (cI, 1024, .inl (fun _ => 0)))] sz) := by
  refine Met.ofW (cc := cX9_rounds) (maxL := 7) (ret := none) (by decide) rfl ?_
  intro p e s m args below meth c s₁ B hml hv
  obtain ⟨rfl, hsz, hG, hP, hD0⟩ := hv
  have hx := B.exec
  have hb := B.bytes
  have hr := B.returns
  have hts := atoms_spec (ws := wsX9_rounds) B.pre
  have hown : s.vm.findClass RX9 = some m.cls := findClass_of_methodNamed B.named
  have hlocks := B.notSynchronized
  have hK := hG.1
  have hN := hG.2
  subst hsz
  have hD := hD0.self (sz := s.heap.size)
  generalize hAe : va_A [(h0, .inr (9, [.ref (n 0), .int 0, .ref (n 2), .ref (n 3), .ref (n 4), .ref (n 5), .ref (n 6), .int 0, .ref (n 8), .ref (n 9), .ref (n 10), .ref (n 11), .ref (n 12), .ref (n 13), .ref (n 14), .int 0, .int 0, .ref (n 17), .ref (n 18), .ref (n 19), .ref (n 20), .ref (n 21), .ref (n 22), .ref (n 23), .ref (n 24), .ref (n 25), .int 1, .int 0, .int 12, .int 0, .int 0, .int 0, .int 0, .int 1440, .ref (n 34), .ref (n 35), .int 0, .int 0, .int 0, .ref (n 39), .ref (n 40), .ref (n 41), .ref (n 42), .int 0, .int 0, .int 0])), (n 35, .inl (cI, 10240, .inl (fun _ => 0))), (n 41, .inl (cI, 1024, .inl (fun _ => 0))), (n 42, .inl (cI, 1024, .inl (fun _ => 0)))] s.heap.size = A at hD ⊢
  have hA : ∀ q : Nat, s.heap.size ≤ q → A q := fun q h => by rw [← hAe]; exact Or.inr h
  have hS : va_S A s.heap s.heap [] := va_S.rf
  have hP : va_P D vwCl [(h0, .inr (9, [.ref (n 0), .int 0, .ref (n 2), .ref (n 3), .ref (n 4), .ref (n 5), .ref (n 6), .int 0, .ref (n 8), .ref (n 9), .ref (n 10), .ref (n 11), .ref (n 12), .ref (n 13), .ref (n 14), .int 0, .int 0, .ref (n 17), .ref (n 18), .ref (n 19), .ref (n 20), .ref (n 21), .ref (n 22), .ref (n 23), .ref (n 24), .ref (n 25), .int 1, .int 0, .int 12, .int 0, .int 0, .int 0, .int 0, .int 1440, .ref (n 34), .ref (n 35), .int 0, .int 0, .int 0, .ref (n 39), .ref (n 40), .ref (n 41), .ref (n 42), .int 0, .int 0, .int 0])), (n 35, .inl (cI, 10240, .inl (fun _ => 0))), (n 41, .inl (cI, 1024, .inl (fun _ => 0))), (n 42, .inl (cI, 1024, .inl (fun _ => 0)))] s.heap := hP
  have hl := lv_entry ([.ref h0]) (n := 7) (Nat.le_of_ble_eq_true rfl)
  rw [lg_entry_eq]
  generalize (lg_sl ([.ref h0]) ++ List.replicate (7 - (lg_sl ([.ref h0])).length) Slot.unset).toArray = ls at hl ⊢
  have hl : lv_has ls 7 [(0, .ref h0)] := hl
  refine lv_aload_n hx hb dX9_rounds_0 rfl (lv_at hl 0 rfl) ?_
  refine va_get (D := D) (ci := 9) (v := .int 0) (C := RX9) (T := TX9) (N := 46) hx hb hts (fun _ h9 => List.mem_cons_of_mem _ (List.mem_append_right _ h9)) hown hK hP 0 rfl rfl 43 (by decide) (hts (.fieldLink RX9 116 "BuoyTenderModel" "isKnown" "Z") (by decide +kernel)) (fun _ h9 => h9) rfl dX9_rounds_1 ?_
  refine lv_if_eq (tgt := 8) hx hb dX9_rounds_4 (by decide) (fun _ => ?_) (fun c_1 => False.elim (by revert c_1; decide))
  refine lv_aload_n hx hb dX9_rounds_8 rfl (lv_at hl 0 rfl) ?_
  refine lv_iconst (v := 1) hx hb dX9_rounds_9 (by decide) ?_
  refine va_put (D := D) (ci := 9) (v := .int 1) (ty := (tyX9 43)) (C := RX9) (T := TX9) (N := 46) hx hb hts (fun _ h9 => List.mem_cons_of_mem _ (List.mem_append_right _ h9)) tyX9 tyX9_ok nmX9 hown hK hP hD hS 0 rfl rfl 43 (by decide) (hts (.fieldLink RX9 116 "BuoyTenderModel" "isKnown" "Z") (by decide +kernel)) (fun _ h9 => h9) rfl (by decide +kernel) rfl rfl (Nat.le_of_ble_eq_true rfl) dX9_rounds_10 (fun H locs hP hD hS => ?_)
  have hP : va_P D vwCl [(h0, .inr (9, [.ref (n 0), .int 0, .ref (n 2), .ref (n 3), .ref (n 4), .ref (n 5), .ref (n 6), .int 0, .ref (n 8), .ref (n 9), .ref (n 10), .ref (n 11), .ref (n 12), .ref (n 13), .ref (n 14), .int 0, .int 0, .ref (n 17), .ref (n 18), .ref (n 19), .ref (n 20), .ref (n 21), .ref (n 22), .ref (n 23), .ref (n 24), .ref (n 25), .int 1, .int 0, .int 12, .int 0, .int 0, .int 0, .int 0, .int 1440, .ref (n 34), .ref (n 35), .int 0, .int 0, .int 0, .ref (n 39), .ref (n 40), .ref (n 41), .ref (n 42), .int 1, .int 0, .int 0])), (n 35, .inl (cI, 10240, .inl (fun _ => 0))), (n 41, .inl (cI, 1024, .inl (fun _ => 0))), (n 42, .inl (cI, 1024, .inl (fun _ => 0)))] H := hP
  have hD : va_D A [(h0, .inr (9, [.ref (n 0), .int 0, .ref (n 2), .ref (n 3), .ref (n 4), .ref (n 5), .ref (n 6), .int 0, .ref (n 8), .ref (n 9), .ref (n 10), .ref (n 11), .ref (n 12), .ref (n 13), .ref (n 14), .int 0, .int 0, .ref (n 17), .ref (n 18), .ref (n 19), .ref (n 20), .ref (n 21), .ref (n 22), .ref (n 23), .ref (n 24), .ref (n 25), .int 1, .int 0, .int 12, .int 0, .int 0, .int 0, .int 0, .int 1440, .ref (n 34), .ref (n 35), .int 0, .int 0, .int 0, .ref (n 39), .ref (n 40), .ref (n 41), .ref (n 42), .int 1, .int 0, .int 0])), (n 35, .inl (cI, 10240, .inl (fun _ => 0))), (n 41, .inl (cI, 1024, .inl (fun _ => 0))), (n 42, .inl (cI, 1024, .inl (fun _ => 0)))] := hD
  refine lv_aload_n hx hb dX9_rounds_13 rfl (lv_at hl 0 rfl) ?_
  have hPc := hP.sub (ws' := [(h0, .inr (9, [.ref (n 0), .int 0, .ref (n 2), .ref (n 3), .ref (n 4), .ref (n 5), .ref (n 6), .int 0, .ref (n 8), .ref (n 9), .ref (n 10), .ref (n 11), .ref (n 12), .ref (n 13), .ref (n 14), .int 0, .int 0, .ref (n 17), .ref (n 18), .ref (n 19), .ref (n 20), .ref (n 21), .ref (n 22), .ref (n 23), .ref (n 24), .ref (n 25), .int 1, .int 0, .int 12, .int 0, .int 0, .int 0, .int 0, .int 1440, .ref (n 34), .ref (n 35), .int 0, .int 0, .int 0, .ref (n 39), .ref (n 40), .ref (n 41), .ref (n 42), .int 1, .int 0, .int 0])), (n 41, .inl (cI, 1024, .inl (fun _ => 0))), (n 42, .inl (cI, 1024, .inl (fun _ => 0)))]) [0, 2, 3] rfl
  have hDc := hD.sub (ws' := [(h0, .inr (9, [.ref (n 0), .int 0, .ref (n 2), .ref (n 3), .ref (n 4), .ref (n 5), .ref (n 6), .int 0, .ref (n 8), .ref (n 9), .ref (n 10), .ref (n 11), .ref (n 12), .ref (n 13), .ref (n 14), .int 0, .int 0, .ref (n 17), .ref (n 18), .ref (n 19), .ref (n 20), .ref (n 21), .ref (n 22), .ref (n 23), .ref (n 24), .ref (n 25), .int 1, .int 0, .int 12, .int 0, .int 0, .int 0, .int 0, .int 1440, .ref (n 34), .ref (n 35), .int 0, .int 0, .int 0, .ref (n 39), .ref (n 40), .ref (n 41), .ref (n 42), .int 1, .int 0, .int 0])), (n 41, .inl (cI, 1024, .inl (fun _ => 0))), (n 42, .inl (cI, 1024, .inl (fun _ => 0)))]) [0, 2, 3] (by decide) rfl
  have hFc := va_free (wc := [(h0, .inr (9, [.ref (n 0), .int 0, .ref (n 2), .ref (n 3), .ref (n 4), .ref (n 5), .ref (n 6), .int 0, .ref (n 8), .ref (n 9), .ref (n 10), .ref (n 11), .ref (n 12), .ref (n 13), .ref (n 14), .int 0, .int 0, .ref (n 17), .ref (n 18), .ref (n 19), .ref (n 20), .ref (n 21), .ref (n 22), .ref (n 23), .ref (n 24), .ref (n 25), .int 1, .int 0, .int 12, .int 0, .int 0, .int 0, .int 0, .int 1440, .ref (n 34), .ref (n 35), .int 0, .int 0, .int 0, .ref (n 39), .ref (n 40), .ref (n 41), .ref (n 42), .int 1, .int 0, .int 0])), (n 41, .inl (cI, 1024, .inl (fun _ => 0))), (n 42, .inl (cI, 1024, .inl (fun _ => 0)))]) hD hS hA [0, 2, 3] rfl
  refine va_callv (va_runV (As := []) (rest := []) ⟨hx, hb, hml, hown, hts⟩ (k_X9_sums l D cI cJ cZ cM h0 n _) (cwV 0 hts gX9_rounds_X9_sums rfl rfl rfl (by decide +kernel) ⟨Nat.le_of_ble_eq_true rfl, Nat.le_of_ble_eq_true rfl⟩) (rw_V hG hPc hDc (va_recv hK hPc (ci := 9) (q0 := 0) rfl rfl)) rfl rfl hl.1 rfl (lv_room (Nat.le_of_ble_eq_true rfl)) dX9_rounds_14 ⟨Nat.le_of_ble_eq_true rfl, Nat.le_of_ble_eq_true rfl⟩) hS (fun q _ h => hFc q h) hFc (fun u_2 t_2 H1 locs ht hvm hw hB hz1 hk1 hS => ?_)
  obtain ⟨fw_2, rfl⟩ : ∃ z, z = u_2 := ⟨_, rfl⟩
  obtain ⟨hP1, hD1⟩ := hB
  rw [ht] at hP1
  obtain ⟨hP, hD⟩ := va_join (wr := [(n 35, .inl (cI, 10240, .inl (fun _ => 0)))]) (w1 := [(h0, .inr (9, [.ref (n 0), .int 0, .ref (n 2), .ref (n 3), .ref (n 4), .ref (n 5), .ref (n 6), .int 0, .ref (n 8), .ref (n 9), .ref (n 10), .ref (n 11), .ref (n 12), .ref (n 13), .ref (n 14), .int 0, .int 0, .ref (n 17), .ref (n 18), .ref (n 19), .ref (n 20), .ref (n 21), .ref (n 22), .ref (n 23), .ref (n 24), .ref (n 25), .int 1, .int 0, .int 12, .int 0, .int 0, .int 0, .int 0, .int 1440, .ref (n 34), .ref (n 35), .int 0, .int 0, .int 0, .ref (n 39), .ref (n 40), .ref (n 41), .ref (n 42), .int 1, .int 0, .int 0])), (n 42, .inl (cI, 1024, .inl fw_2))]) hP hD [0, 2, 3] [1] rfl rfl (by decide) (by decide) hk1 hFc hP1 hD1
  generalize H1 = H at hP hS ⊢
  have hP : va_P D vwCl [(n 35, .inl (cI, 10240, .inl (fun _ => 0))), (h0, .inr (9, [.ref (n 0), .int 0, .ref (n 2), .ref (n 3), .ref (n 4), .ref (n 5), .ref (n 6), .int 0, .ref (n 8), .ref (n 9), .ref (n 10), .ref (n 11), .ref (n 12), .ref (n 13), .ref (n 14), .int 0, .int 0, .ref (n 17), .ref (n 18), .ref (n 19), .ref (n 20), .ref (n 21), .ref (n 22), .ref (n 23), .ref (n 24), .ref (n 25), .int 1, .int 0, .int 12, .int 0, .int 0, .int 0, .int 0, .int 1440, .ref (n 34), .ref (n 35), .int 0, .int 0, .int 0, .ref (n 39), .ref (n 40), .ref (n 41), .ref (n 42), .int 1, .int 0, .int 0])), (n 42, .inl (cI, 1024, .inl fw_2))] H := hP
  have hD : va_D A [(n 35, .inl (cI, 10240, .inl (fun _ => 0))), (h0, .inr (9, [.ref (n 0), .int 0, .ref (n 2), .ref (n 3), .ref (n 4), .ref (n 5), .ref (n 6), .int 0, .ref (n 8), .ref (n 9), .ref (n 10), .ref (n 11), .ref (n 12), .ref (n 13), .ref (n 14), .int 0, .int 0, .ref (n 17), .ref (n 18), .ref (n 19), .ref (n 20), .ref (n 21), .ref (n 22), .ref (n 23), .ref (n 24), .ref (n 25), .int 1, .int 0, .int 12, .int 0, .int 0, .int 0, .int 0, .int 1440, .ref (n 34), .ref (n 35), .int 0, .int 0, .int 0, .ref (n 39), .ref (n 40), .ref (n 41), .ref (n 42), .int 1, .int 0, .int 0])), (n 42, .inl (cI, 1024, .inl fw_2))] := hD
  have hf : fw_2 0 = 0 := hw
  refine lv_aload_n hx hb dX9_rounds_17 rfl (lv_at hl 0 rfl) ?_
  refine lv_iconst (v := 0) hx hb dX9_rounds_18 (by decide) ?_
  refine va_put (D := D) (ci := 9) (v := .int 0) (ty := (tyX9 38)) (C := RX9) (T := TX9) (N := 46) hx hb hts (fun _ h9 => List.mem_cons_of_mem _ (List.mem_append_right _ h9)) tyX9 tyX9_ok nmX9 hown hK hP hD hS 1 rfl rfl 38 (by decide) (hts (.fieldLink RX9 195 "BuoyTenderModel" "many" "I") (by decide +kernel)) (fun _ h9 => h9) rfl (by decide +kernel) rfl rfl (Nat.le_of_ble_eq_true rfl) dX9_rounds_19 (fun H locs hP hD hS => ?_)
  have hP : va_P D vwCl [(n 35, .inl (cI, 10240, .inl (fun _ => 0))), (h0, .inr (9, [.ref (n 0), .int 0, .ref (n 2), .ref (n 3), .ref (n 4), .ref (n 5), .ref (n 6), .int 0, .ref (n 8), .ref (n 9), .ref (n 10), .ref (n 11), .ref (n 12), .ref (n 13), .ref (n 14), .int 0, .int 0, .ref (n 17), .ref (n 18), .ref (n 19), .ref (n 20), .ref (n 21), .ref (n 22), .ref (n 23), .ref (n 24), .ref (n 25), .int 1, .int 0, .int 12, .int 0, .int 0, .int 0, .int 0, .int 1440, .ref (n 34), .ref (n 35), .int 0, .int 0, .int 0, .ref (n 39), .ref (n 40), .ref (n 41), .ref (n 42), .int 1, .int 0, .int 0])), (n 42, .inl (cI, 1024, .inl fw_2))] H := hP
  have hD : va_D A [(n 35, .inl (cI, 10240, .inl (fun _ => 0))), (h0, .inr (9, [.ref (n 0), .int 0, .ref (n 2), .ref (n 3), .ref (n 4), .ref (n 5), .ref (n 6), .int 0, .ref (n 8), .ref (n 9), .ref (n 10), .ref (n 11), .ref (n 12), .ref (n 13), .ref (n 14), .int 0, .int 0, .ref (n 17), .ref (n 18), .ref (n 19), .ref (n 20), .ref (n 21), .ref (n 22), .ref (n 23), .ref (n 24), .ref (n 25), .int 1, .int 0, .int 12, .int 0, .int 0, .int 0, .int 0, .int 1440, .ref (n 34), .ref (n 35), .int 0, .int 0, .int 0, .ref (n 39), .ref (n 40), .ref (n 41), .ref (n 42), .int 1, .int 0, .int 0])), (n 42, .inl (cI, 1024, .inl fw_2))] := hD
  refine lv_aload_n hx hb dX9_rounds_22 rfl (lv_at hl 0 rfl) ?_
  refine lv_iconst (v := 0) hx hb dX9_rounds_23 (by decide) ?_
  refine lv_iconst (v := (-1)) hx hb dX9_rounds_24 (by decide) ?_
  refine lv_aload_n hx hb dX9_rounds_25 rfl (lv_at hl 0 rfl) ?_
  refine va_get (D := D) (ci := 9) (v := .int 0) (C := RX9) (T := TX9) (N := 46) hx hb hts (fun _ h9 => List.mem_cons_of_mem _ (List.mem_append_right _ h9)) hown hK hP 1 rfl rfl 32 (by decide) (hts (.fieldLink RX9 164 "BuoyTenderModel" "begin" "I") (by decide +kernel)) (fun _ h9 => h9) rfl dX9_rounds_26 ?_
  have hPc := hP.sub (ws' := [(h0, .inr (9, [.ref (n 0), .int 0, .ref (n 2), .ref (n 3), .ref (n 4), .ref (n 5), .ref (n 6), .int 0, .ref (n 8), .ref (n 9), .ref (n 10), .ref (n 11), .ref (n 12), .ref (n 13), .ref (n 14), .int 0, .int 0, .ref (n 17), .ref (n 18), .ref (n 19), .ref (n 20), .ref (n 21), .ref (n 22), .ref (n 23), .ref (n 24), .ref (n 25), .int 1, .int 0, .int 12, .int 0, .int 0, .int 0, .int 0, .int 1440, .ref (n 34), .ref (n 35), .int 0, .int 0, .int 0, .ref (n 39), .ref (n 40), .ref (n 41), .ref (n 42), .int 1, .int 0, .int 0])), (n 35, .inl (cI, 10240, .inl (fun _ => 0))), (n 42, .inl (cI, 1024, .inl fw_2))]) [1, 0, 2] rfl
  have hDc := hD.sub (ws' := [(h0, .inr (9, [.ref (n 0), .int 0, .ref (n 2), .ref (n 3), .ref (n 4), .ref (n 5), .ref (n 6), .int 0, .ref (n 8), .ref (n 9), .ref (n 10), .ref (n 11), .ref (n 12), .ref (n 13), .ref (n 14), .int 0, .int 0, .ref (n 17), .ref (n 18), .ref (n 19), .ref (n 20), .ref (n 21), .ref (n 22), .ref (n 23), .ref (n 24), .ref (n 25), .int 1, .int 0, .int 12, .int 0, .int 0, .int 0, .int 0, .int 1440, .ref (n 34), .ref (n 35), .int 0, .int 0, .int 0, .ref (n 39), .ref (n 40), .ref (n 41), .ref (n 42), .int 1, .int 0, .int 0])), (n 35, .inl (cI, 10240, .inl (fun _ => 0))), (n 42, .inl (cI, 1024, .inl fw_2))]) [1, 0, 2] (by decide) rfl
  have hFc := va_free (wc := [(h0, .inr (9, [.ref (n 0), .int 0, .ref (n 2), .ref (n 3), .ref (n 4), .ref (n 5), .ref (n 6), .int 0, .ref (n 8), .ref (n 9), .ref (n 10), .ref (n 11), .ref (n 12), .ref (n 13), .ref (n 14), .int 0, .int 0, .ref (n 17), .ref (n 18), .ref (n 19), .ref (n 20), .ref (n 21), .ref (n 22), .ref (n 23), .ref (n 24), .ref (n 25), .int 1, .int 0, .int 12, .int 0, .int 0, .int 0, .int 0, .int 1440, .ref (n 34), .ref (n 35), .int 0, .int 0, .int 0, .ref (n 39), .ref (n 40), .ref (n 41), .ref (n 42), .int 1, .int 0, .int 0])), (n 35, .inl (cI, 10240, .inl (fun _ => 0))), (n 42, .inl (cI, 1024, .inl fw_2))]) hD hS hA [1, 0, 2] rfl
  refine va_callv (va_runV (As := [.int 0, .int (-1), .int 0]) (rest := []) ⟨hx, hb, hml, hown, hts⟩ (k_X9_goesOn l D cI cJ cZ cM h0 n fw_2 hf _) (cwV 3 hts gX9_rounds_X9_goesOn rfl rfl rfl (by decide +kernel) ⟨Nat.le_of_ble_eq_true rfl, Nat.le_of_ble_eq_true rfl⟩) (rw_V hG hPc hDc (va_recv hK hPc (ci := 9) (q0 := 0) rfl rfl)) rfl rfl hl.1 rfl (lv_room (Nat.le_of_ble_eq_true rfl)) dX9_rounds_29 ⟨Nat.le_of_ble_eq_true rfl, Nat.le_of_ble_eq_true rfl⟩) hS (fun q _ h => hFc q h) hFc (fun u_3 t_3 H1 locs ht hvm hw hB hz1 hk1 hS => ?_)
  obtain ⟨hP1, hD1⟩ := hB
  rw [ht] at hP1
  obtain ⟨hP, hD⟩ := va_join (wr := []) (w1 := [(h0, .inr (9, [.ref (n 0), .int 0, .ref (n 2), .ref (n 3), .ref (n 4), .ref (n 5), .ref (n 6), .int 0, .ref (n 8), .ref (n 9), .ref (n 10), .ref (n 11), .ref (n 12), .ref (n 13), .ref (n 14), .int 0, .int 0, .ref (n 17), .ref (n 18), .ref (n 19), .ref (n 20), .ref (n 21), .ref (n 22), .ref (n 23), .ref (n 24), .ref (n 25), .int 1, .int 0, .int 12, .int 0, .int 0, .int 0, .int 0, .int 1440, .ref (n 34), .ref (n 35), .int 0, .int 0, .int 0, .ref (n 39), .ref (n 40), .ref (n 41), .ref (n 42), .int 1, .int 0, .int 0])), (n 42, .inl (cI, 1024, .inl fw_2))]) hP hD [1, 0, 2] [] rfl rfl (by decide) (by decide) hk1 hFc hP1 hD1
  generalize H1 = H at hP hS ⊢
  have hP : va_P D vwCl [(h0, .inr (9, [.ref (n 0), .int 0, .ref (n 2), .ref (n 3), .ref (n 4), .ref (n 5), .ref (n 6), .int 0, .ref (n 8), .ref (n 9), .ref (n 10), .ref (n 11), .ref (n 12), .ref (n 13), .ref (n 14), .int 0, .int 0, .ref (n 17), .ref (n 18), .ref (n 19), .ref (n 20), .ref (n 21), .ref (n 22), .ref (n 23), .ref (n 24), .ref (n 25), .int 1, .int 0, .int 12, .int 0, .int 0, .int 0, .int 0, .int 1440, .ref (n 34), .ref (n 35), .int 0, .int 0, .int 0, .ref (n 39), .ref (n 40), .ref (n 41), .ref (n 42), .int 1, .int 0, .int 0])), (n 42, .inl (cI, 1024, .inl fw_2))] H := hP
  have hD : va_D A [(h0, .inr (9, [.ref (n 0), .int 0, .ref (n 2), .ref (n 3), .ref (n 4), .ref (n 5), .ref (n 6), .int 0, .ref (n 8), .ref (n 9), .ref (n 10), .ref (n 11), .ref (n 12), .ref (n 13), .ref (n 14), .int 0, .int 0, .ref (n 17), .ref (n 18), .ref (n 19), .ref (n 20), .ref (n 21), .ref (n 22), .ref (n 23), .ref (n 24), .ref (n 25), .int 1, .int 0, .int 12, .int 0, .int 0, .int 0, .int 0, .int 1440, .ref (n 34), .ref (n 35), .int 0, .int 0, .int 0, .ref (n 39), .ref (n 40), .ref (n 41), .ref (n 42), .int 1, .int 0, .int 0])), (n 42, .inl (cI, 1024, .inl fw_2))] := hD
  refine lv_aload_n hx hb dX9_rounds_32 rfl (lv_at hl 0 rfl) ?_
  refine lv_aload_n hx hb dX9_rounds_33 rfl (lv_at hl 0 rfl) ?_
  refine va_get (D := D) (ci := 9) (v := .int 0) (C := RX9) (T := TX9) (N := 46) hx hb hts (fun _ h9 => List.mem_cons_of_mem _ (List.mem_append_right _ h9)) hown hK hP 0 rfl rfl 44 (by decide) (hts (.fieldLink RX9 170 "BuoyTenderModel" "foundWeight" "I") (by decide +kernel)) (fun _ h9 => h9) rfl dX9_rounds_34 ?_
  refine va_put (D := D) (ci := 9) (v := .int 0) (ty := (tyX9 36)) (C := RX9) (T := TX9) (N := 46) hx hb hts (fun _ h9 => List.mem_cons_of_mem _ (List.mem_append_right _ h9)) tyX9 tyX9_ok nmX9 hown hK hP hD hS 0 rfl rfl 36 (by decide) (hts (.fieldLink RX9 201 "BuoyTenderModel" "bestWeight" "I") (by decide +kernel)) (fun _ h9 => h9) rfl (by decide +kernel) rfl rfl (Nat.le_of_ble_eq_true rfl) dX9_rounds_37 (fun H locs hP hD hS => ?_)
  have hP : va_P D vwCl [(h0, .inr (9, [.ref (n 0), .int 0, .ref (n 2), .ref (n 3), .ref (n 4), .ref (n 5), .ref (n 6), .int 0, .ref (n 8), .ref (n 9), .ref (n 10), .ref (n 11), .ref (n 12), .ref (n 13), .ref (n 14), .int 0, .int 0, .ref (n 17), .ref (n 18), .ref (n 19), .ref (n 20), .ref (n 21), .ref (n 22), .ref (n 23), .ref (n 24), .ref (n 25), .int 1, .int 0, .int 12, .int 0, .int 0, .int 0, .int 0, .int 1440, .ref (n 34), .ref (n 35), .int 0, .int 0, .int 0, .ref (n 39), .ref (n 40), .ref (n 41), .ref (n 42), .int 1, .int 0, .int 0])), (n 42, .inl (cI, 1024, .inl fw_2))] H := hP
  have hD : va_D A [(h0, .inr (9, [.ref (n 0), .int 0, .ref (n 2), .ref (n 3), .ref (n 4), .ref (n 5), .ref (n 6), .int 0, .ref (n 8), .ref (n 9), .ref (n 10), .ref (n 11), .ref (n 12), .ref (n 13), .ref (n 14), .int 0, .int 0, .ref (n 17), .ref (n 18), .ref (n 19), .ref (n 20), .ref (n 21), .ref (n 22), .ref (n 23), .ref (n 24), .ref (n 25), .int 1, .int 0, .int 12, .int 0, .int 0, .int 0, .int 0, .int 1440, .ref (n 34), .ref (n 35), .int 0, .int 0, .int 0, .ref (n 39), .ref (n 40), .ref (n 41), .ref (n 42), .int 1, .int 0, .int 0])), (n 42, .inl (cI, 1024, .inl fw_2))] := hD
  refine lv_aload_n hx hb dX9_rounds_40 rfl (lv_at hl 0 rfl) ?_
  refine lv_aload_n hx hb dX9_rounds_41 rfl (lv_at hl 0 rfl) ?_
  refine va_get (D := D) (ci := 9) (v := .int 0) (C := RX9) (T := TX9) (N := 46) hx hb hts (fun _ h9 => List.mem_cons_of_mem _ (List.mem_append_right _ h9)) hown hK hP 0 rfl rfl 45 (by decide) (hts (.fieldLink RX9 182 "BuoyTenderModel" "foundBack" "I") (by decide +kernel)) (fun _ h9 => h9) rfl dX9_rounds_42 ?_
  refine va_put (D := D) (ci := 9) (v := .int 0) (ty := (tyX9 37)) (C := RX9) (T := TX9) (N := 46) hx hb hts (fun _ h9 => List.mem_cons_of_mem _ (List.mem_append_right _ h9)) tyX9 tyX9_ok nmX9 hown hK hP hD hS 0 rfl rfl 37 (by decide) (hts (.fieldLink RX9 204 "BuoyTenderModel" "bestBack" "I") (by decide +kernel)) (fun _ h9 => h9) rfl (by decide +kernel) rfl rfl (Nat.le_of_ble_eq_true rfl) dX9_rounds_45 (fun H locs hP hD hS => ?_)
  have hP : va_P D vwCl [(h0, .inr (9, [.ref (n 0), .int 0, .ref (n 2), .ref (n 3), .ref (n 4), .ref (n 5), .ref (n 6), .int 0, .ref (n 8), .ref (n 9), .ref (n 10), .ref (n 11), .ref (n 12), .ref (n 13), .ref (n 14), .int 0, .int 0, .ref (n 17), .ref (n 18), .ref (n 19), .ref (n 20), .ref (n 21), .ref (n 22), .ref (n 23), .ref (n 24), .ref (n 25), .int 1, .int 0, .int 12, .int 0, .int 0, .int 0, .int 0, .int 1440, .ref (n 34), .ref (n 35), .int 0, .int 0, .int 0, .ref (n 39), .ref (n 40), .ref (n 41), .ref (n 42), .int 1, .int 0, .int 0])), (n 42, .inl (cI, 1024, .inl fw_2))] H := hP
  have hD : va_D A [(h0, .inr (9, [.ref (n 0), .int 0, .ref (n 2), .ref (n 3), .ref (n 4), .ref (n 5), .ref (n 6), .int 0, .ref (n 8), .ref (n 9), .ref (n 10), .ref (n 11), .ref (n 12), .ref (n 13), .ref (n 14), .int 0, .int 0, .ref (n 17), .ref (n 18), .ref (n 19), .ref (n 20), .ref (n 21), .ref (n 22), .ref (n 23), .ref (n 24), .ref (n 25), .int 1, .int 0, .int 12, .int 0, .int 0, .int 0, .int 0, .int 1440, .ref (n 34), .ref (n 35), .int 0, .int 0, .int 0, .ref (n 39), .ref (n 40), .ref (n 41), .ref (n 42), .int 1, .int 0, .int 0])), (n 42, .inl (cI, 1024, .inl fw_2))] := hD
  refine lv_iconst (v := 0) hx hb dX9_rounds_48 (by decide) ?_
  refine lv_istore_n (lv' := [(1, .int 0), (0, .ref h0)]) hx hb dX9_rounds_49 rfl hl (by decide) rfl (fun ls hl => ?_)
  refine lv_iconst (v := (-1)) hx hb dX9_rounds_50 (by decide) ?_
  refine lv_istore_n (lv' := [(2, .int (-1)), (1, .int 0), (0, .ref h0)]) hx hb dX9_rounds_51 rfl hl (by decide) rfl (fun ls hl => ?_)
  refine lv_aload_n hx hb dX9_rounds_52 rfl (lv_at hl 2 rfl) ?_
  refine va_get (D := D) (ci := 9) (v := .int 0) (C := RX9) (T := TX9) (N := 46) hx hb hts (fun _ h9 => List.mem_cons_of_mem _ (List.mem_append_right _ h9)) hown hK hP 0 rfl rfl 32 (by decide) (hts (.fieldLink RX9 164 "BuoyTenderModel" "begin" "I") (by decide +kernel)) (fun _ h9 => h9) rfl dX9_rounds_53 ?_
  refine lv_istore_n (lv' := [(3, .int 0), (2, .int (-1)), (1, .int 0), (0, .ref h0)]) hx hb dX9_rounds_56 rfl hl (by decide) rfl (fun ls hl => ?_)
  refine lv_aload_n hx hb dX9_rounds_57 rfl (lv_at hl 3 rfl) ?_
  refine va_get (D := D) (ci := 9) (v := .ref (n 42)) (C := RX9) (T := TX9) (N := 46) hx hb hts (fun _ h9 => List.mem_cons_of_mem _ (List.mem_append_right _ h9)) hown hK hP 0 rfl rfl 42 (by decide) (hts (.fieldLink RX9 102 "BuoyTenderModel" "weightOf" "[I") (by decide +kernel)) (fun _ h9 => h9) rfl dX9_rounds_58 ?_
  refine lv_iload_n hx hb dX9_rounds_61 rfl (lv_at hl 2 rfl) ?_
  refine va_iald hx hb hK hP 1 0 rfl rfl (vp_in_nI (n := 0) (N := 1024) (by decide) (by decide)) dX9_rounds_62 ?_
  refine lv_topi (fun z_4 ez_4 => ?_)
  obtain rfl : z_4 = 0 := ez_4.trans hf
  refine lv_aload_n hx hb dX9_rounds_63 rfl (lv_at hl 3 rfl) ?_
  refine va_get (D := D) (ci := 9) (v := .int 0) (C := RX9) (T := TX9) (N := 46) hx hb hts (fun _ h9 => List.mem_cons_of_mem _ (List.mem_append_right _ h9)) hown hK hP 0 rfl rfl 36 (by decide) (hts (.fieldLink RX9 201 "BuoyTenderModel" "bestWeight" "I") (by decide +kernel)) (fun _ h9 => h9) rfl dX9_rounds_64 ?_
  refine lv_icmp_ge (tgt := 227) hx hb dX9_rounds_67 (by decide) (fun _ => ?_) (fun c_5 => False.elim (by revert c_5; decide))
  have hP9 := hP.sub (ws' := [(h0, .inr (9, [.ref (n 0), .int 0, .ref (n 2), .ref (n 3), .ref (n 4), .ref (n 5), .ref (n 6), .int 0, .ref (n 8), .ref (n 9), .ref (n 10), .ref (n 11), .ref (n 12), .ref (n 13), .ref (n 14), .int 0, .int 0, .ref (n 17), .ref (n 18), .ref (n 19), .ref (n 20), .ref (n 21), .ref (n 22), .ref (n 23), .ref (n 24), .ref (n 25), .int 1, .int 0, .int 12, .int 0, .int 0, .int 0, .int 0, .int 1440, .ref (n 34), .ref (n 35), .int 0, .int 0, .int 0, .ref (n 39), .ref (n 40), .ref (n 41), .ref (n 42), .int 1, .int 0, .int 0]))]) [0] rfl
  have hD9 := hD.sub (ws' := [(h0, .inr (9, [.ref (n 0), .int 0, .ref (n 2), .ref (n 3), .ref (n 4), .ref (n 5), .ref (n 6), .int 0, .ref (n 8), .ref (n 9), .ref (n 10), .ref (n 11), .ref (n 12), .ref (n 13), .ref (n 14), .int 0, .int 0, .ref (n 17), .ref (n 18), .ref (n 19), .ref (n 20), .ref (n 21), .ref (n 22), .ref (n 23), .ref (n 24), .ref (n 25), .int 1, .int 0, .int 12, .int 0, .int 0, .int 0, .int 0, .int 1440, .ref (n 34), .ref (n 35), .int 0, .int 0, .int 0, .ref (n 39), .ref (n 40), .ref (n 41), .ref (n 42), .int 1, .int 0, .int 0]))]) [0] (by decide) rfl
  exact W.vret hx hb hr (fun t ht hW => ⟨⟨(), rfl, trivial, ⟨by rw [ht]; exact hP9, hD9⟩⟩, hS.F ht⟩) hS.2.2 dX9_rounds_227
set_option maxHeartbeats 4000000 in
set_option maxRecDepth 100000 in
/-- round of a fresh reference -/
theorem k_X9_round (l : Launch) (D : va_G) (cI cJ cZ cM : Nat) (h0 : Nat) (n : Nat → Nat) (x1 : Int32) (sz : Nat) : Met l yX9_round wsX9_round ({ frames := 3, cells := 0, slots := 0, locals := 79 } : Room) (RW D cI cJ cZ cM [.ref h0, .int x1] [(h0, .inr (9, [.ref (n 0), .int 0, .ref (n 2), .ref (n 3), .ref (n 4), .ref (n 5), .ref (n 6), .int 0, .ref (n 8), .ref (n 9), .ref (n 10), .ref (n 11), .ref (n 12), .ref (n 13), .ref (n 14), .int 0, .int 0, .ref (n 17), .ref (n 18), .ref (n 19), .ref (n 20), .ref (n 21), .ref (n 22), .ref (n 23), .ref (n 24), .ref (n 25), .int 1, .int 0, .int 12, .int 0, .int 0, .int 0, .int 0, .int 1440, .ref (n 34), .ref (n 35), .int 0, .int 0, .int 0, .ref (n 39), .ref (n 40), .ref (n 41), .ref (n 42), .int 0, .int 0, .int 0])), (n 35, .inl (cI, 10240, .inl (fun _ => 0))), (n 41, .inl (cI, 1024, .inl (fun _ => 0))), (n 42, .inl (cI, 1024, .inl (fun _ => 0)))] sz) (va_Qi (S := Unit) (fun r u => okI 0 (-1) (x1 = 0 ∨ x1 = 1 ∨ x1 = 2 ∨ x1 = 3) r) (fun _ _ => True) (va_A [(h0, .inr (9, [.ref (n 0), .int 0, .ref (n 2), .ref (n 3), .ref (n 4), .ref (n 5), .ref (n 6), .int 0, .ref (n 8), .ref (n 9), .ref (n 10), .ref (n 11), .ref (n 12), .ref (n 13), .ref (n 14), .int 0, .int 0, .ref (n 17), .ref (n 18), .ref (n 19), .ref (n 20), .ref (n 21), .ref (n 22), .ref (n 23), .ref (n 24), .ref (n 25), .int 1, .int 0, .int 12, .int 0, .int 0, .int 0, .int 0, .int 1440, .ref (n 34), .ref (n 35), .int 0, .int 0, .int 0, .ref (n 39), .ref (n 40), .ref (n 41), .ref (n 42), .int 0, .int 0, .int 0])), (n 35, .inl (cI, 10240, .inl (fun _ => 0))), (n 41, .inl (cI, 1024, .inl (fun _ => 0))), (n 42, .inl (cI, 1024, .inl (fun _ => 0)))] sz)) 0 0 (va_A [(h0, .inr (9, [.ref (n 0), .int 0, .ref (n 2), .ref (n 3), .ref (n 4), .ref (n 5), .ref (n 6), .int 0, .ref (n 8), .ref (n 9), .ref (n 10), .ref (n 11), .ref (n 12), .ref (n 13), .ref (n 14), .int 0, .int 0, .ref (n 17), .ref (n 18), .ref (n 19), .ref (n 20), .ref (n 21), .ref (n 22), .ref (n 23), .ref (n 24), .ref (n 25), .int 1, .int 0, .int 12, .int 0, .int 0, .int 0, .int 0, .int 1440, .ref (n 34), .ref (n 35), .int 0, .int 0, .int 0, .ref (n 39), .ref (n 40), .ref (n 41), .ref (n 42), .int 0, .int 0, .int 0])), (n 35, .inl (cI, 10240, .inl (fun _ => 0))), (n 41, .inl (cI, 1024, .inl (fun _ => 0))), (n 42, .inl (cI, 1024, .inl (fun _ => 0)))] sz) := by
  refine Met.ofW (cc := cX9_round) (maxL := 4) (ret := (some .int)) (by decide) rfl ?_
  intro p e s m args below meth c s₁ B hml hv
  obtain ⟨rfl, hsz, hG, hP, hD0⟩ := hv
  have hx := B.exec
  have hb := B.bytes
  have hr := B.returns
  have hts := atoms_spec (ws := wsX9_round) B.pre
  have hown : s.vm.findClass RX9 = some m.cls := findClass_of_methodNamed B.named
  have hlocks := B.notSynchronized
  have hK := hG.1
  have hN := hG.2
  subst hsz
  have hD := hD0.self (sz := s.heap.size)
  generalize hAe : va_A [(h0, .inr (9, [.ref (n 0), .int 0, .ref (n 2), .ref (n 3), .ref (n 4), .ref (n 5), .ref (n 6), .int 0, .ref (n 8), .ref (n 9), .ref (n 10), .ref (n 11), .ref (n 12), .ref (n 13), .ref (n 14), .int 0, .int 0, .ref (n 17), .ref (n 18), .ref (n 19), .ref (n 20), .ref (n 21), .ref (n 22), .ref (n 23), .ref (n 24), .ref (n 25), .int 1, .int 0, .int 12, .int 0, .int 0, .int 0, .int 0, .int 1440, .ref (n 34), .ref (n 35), .int 0, .int 0, .int 0, .ref (n 39), .ref (n 40), .ref (n 41), .ref (n 42), .int 0, .int 0, .int 0])), (n 35, .inl (cI, 10240, .inl (fun _ => 0))), (n 41, .inl (cI, 1024, .inl (fun _ => 0))), (n 42, .inl (cI, 1024, .inl (fun _ => 0)))] s.heap.size = A at hD ⊢
  have hA : ∀ q : Nat, s.heap.size ≤ q → A q := fun q h => by rw [← hAe]; exact Or.inr h
  have hS : va_S A s.heap s.heap [] := va_S.rf
  have hP : va_P D vwCl [(h0, .inr (9, [.ref (n 0), .int 0, .ref (n 2), .ref (n 3), .ref (n 4), .ref (n 5), .ref (n 6), .int 0, .ref (n 8), .ref (n 9), .ref (n 10), .ref (n 11), .ref (n 12), .ref (n 13), .ref (n 14), .int 0, .int 0, .ref (n 17), .ref (n 18), .ref (n 19), .ref (n 20), .ref (n 21), .ref (n 22), .ref (n 23), .ref (n 24), .ref (n 25), .int 1, .int 0, .int 12, .int 0, .int 0, .int 0, .int 0, .int 1440, .ref (n 34), .ref (n 35), .int 0, .int 0, .int 0, .ref (n 39), .ref (n 40), .ref (n 41), .ref (n 42), .int 0, .int 0, .int 0])), (n 35, .inl (cI, 10240, .inl (fun _ => 0))), (n 41, .inl (cI, 1024, .inl (fun _ => 0))), (n 42, .inl (cI, 1024, .inl (fun _ => 0)))] s.heap := hP
  have hl := lv_entry ([.ref h0, .int x1]) (n := 4) (Nat.le_of_ble_eq_true rfl)
  rw [lg_entry_eq]
  generalize (lg_sl ([.ref h0, .int x1]) ++ List.replicate (4 - (lg_sl ([.ref h0, .int x1])).length) Slot.unset).toArray = ls at hl ⊢
  have hl : lv_has ls 4 [(0, .ref h0), (1, .int x1)] := hl
  refine lv_aload_n hx hb dX9_round_0 rfl (lv_at hl 0 rfl) ?_
  have hPc := hP.sub (ws' := [(h0, .inr (9, [.ref (n 0), .int 0, .ref (n 2), .ref (n 3), .ref (n 4), .ref (n 5), .ref (n 6), .int 0, .ref (n 8), .ref (n 9), .ref (n 10), .ref (n 11), .ref (n 12), .ref (n 13), .ref (n 14), .int 0, .int 0, .ref (n 17), .ref (n 18), .ref (n 19), .ref (n 20), .ref (n 21), .ref (n 22), .ref (n 23), .ref (n 24), .ref (n 25), .int 1, .int 0, .int 12, .int 0, .int 0, .int 0, .int 0, .int 1440, .ref (n 34), .ref (n 35), .int 0, .int 0, .int 0, .ref (n 39), .ref (n 40), .ref (n 41), .ref (n 42), .int 0, .int 0, .int 0])), (n 35, .inl (cI, 10240, .inl (fun _ => 0))), (n 41, .inl (cI, 1024, .inl (fun _ => 0))), (n 42, .inl (cI, 1024, .inl (fun _ => 0)))]) [0, 1, 2, 3] rfl
  have hDc := hD.sub (ws' := [(h0, .inr (9, [.ref (n 0), .int 0, .ref (n 2), .ref (n 3), .ref (n 4), .ref (n 5), .ref (n 6), .int 0, .ref (n 8), .ref (n 9), .ref (n 10), .ref (n 11), .ref (n 12), .ref (n 13), .ref (n 14), .int 0, .int 0, .ref (n 17), .ref (n 18), .ref (n 19), .ref (n 20), .ref (n 21), .ref (n 22), .ref (n 23), .ref (n 24), .ref (n 25), .int 1, .int 0, .int 12, .int 0, .int 0, .int 0, .int 0, .int 1440, .ref (n 34), .ref (n 35), .int 0, .int 0, .int 0, .ref (n 39), .ref (n 40), .ref (n 41), .ref (n 42), .int 0, .int 0, .int 0])), (n 35, .inl (cI, 10240, .inl (fun _ => 0))), (n 41, .inl (cI, 1024, .inl (fun _ => 0))), (n 42, .inl (cI, 1024, .inl (fun _ => 0)))]) [0, 1, 2, 3] (by decide) rfl
  have hFc := va_free (wc := [(h0, .inr (9, [.ref (n 0), .int 0, .ref (n 2), .ref (n 3), .ref (n 4), .ref (n 5), .ref (n 6), .int 0, .ref (n 8), .ref (n 9), .ref (n 10), .ref (n 11), .ref (n 12), .ref (n 13), .ref (n 14), .int 0, .int 0, .ref (n 17), .ref (n 18), .ref (n 19), .ref (n 20), .ref (n 21), .ref (n 22), .ref (n 23), .ref (n 24), .ref (n 25), .int 1, .int 0, .int 12, .int 0, .int 0, .int 0, .int 0, .int 1440, .ref (n 34), .ref (n 35), .int 0, .int 0, .int 0, .ref (n 39), .ref (n 40), .ref (n 41), .ref (n 42), .int 0, .int 0, .int 0])), (n 35, .inl (cI, 10240, .inl (fun _ => 0))), (n 41, .inl (cI, 1024, .inl (fun _ => 0))), (n 42, .inl (cI, 1024, .inl (fun _ => 0)))]) hD hS hA [0, 1, 2, 3] rfl
  refine va_callv (va_runV (As := []) (rest := []) ⟨hx, hb, hml, hown, hts⟩ (k_X9_rounds l D cI cJ cZ cM h0 n _) (cwV 0 hts gX9_round_X9_rounds rfl rfl rfl (by decide +kernel) ⟨Nat.le_of_ble_eq_true rfl, Nat.le_of_ble_eq_true rfl⟩) (rw_V hG hPc hDc (va_recv hK hPc (ci := 9) (q0 := 0) rfl rfl)) rfl rfl hl.1 rfl (lv_room (Nat.le_of_ble_eq_true rfl)) dX9_round_1 ⟨Nat.le_of_ble_eq_true rfl, Nat.le_of_ble_eq_true rfl⟩) hS (fun q _ h => hFc q h) hFc (fun u_1 t_1 H1 locs ht hvm hw hB hz1 hk1 hS => ?_)
  obtain ⟨hP1, hD1⟩ := hB
  rw [ht] at hP1
  obtain ⟨hP, hD⟩ := va_join (wr := []) (w1 := [(h0, .inr (9, [.ref (n 0), .int 0, .ref (n 2), .ref (n 3), .ref (n 4), .ref (n 5), .ref (n 6), .int 0, .ref (n 8), .ref (n 9), .ref (n 10), .ref (n 11), .ref (n 12), .ref (n 13), .ref (n 14), .int 0, .int 0, .ref (n 17), .ref (n 18), .ref (n 19), .ref (n 20), .ref (n 21), .ref (n 22), .ref (n 23), .ref (n 24), .ref (n 25), .int 1, .int 0, .int 12, .int 0, .int 0, .int 0, .int 0, .int 1440, .ref (n 34), .ref (n 35), .int 0, .int 0, .int 0, .ref (n 39), .ref (n 40), .ref (n 41), .ref (n 42), .int 1, .int 0, .int 0]))]) hP hD [0, 1, 2, 3] [] rfl rfl (by decide) (by decide) hk1 hFc hP1 hD1
  generalize H1 = H at hP hS ⊢
  have hP : va_P D vwCl [(h0, .inr (9, [.ref (n 0), .int 0, .ref (n 2), .ref (n 3), .ref (n 4), .ref (n 5), .ref (n 6), .int 0, .ref (n 8), .ref (n 9), .ref (n 10), .ref (n 11), .ref (n 12), .ref (n 13), .ref (n 14), .int 0, .int 0, .ref (n 17), .ref (n 18), .ref (n 19), .ref (n 20), .ref (n 21), .ref (n 22), .ref (n 23), .ref (n 24), .ref (n 25), .int 1, .int 0, .int 12, .int 0, .int 0, .int 0, .int 0, .int 1440, .ref (n 34), .ref (n 35), .int 0, .int 0, .int 0, .ref (n 39), .ref (n 40), .ref (n 41), .ref (n 42), .int 1, .int 0, .int 0]))] H := hP
  have hD : va_D A [(h0, .inr (9, [.ref (n 0), .int 0, .ref (n 2), .ref (n 3), .ref (n 4), .ref (n 5), .ref (n 6), .int 0, .ref (n 8), .ref (n 9), .ref (n 10), .ref (n 11), .ref (n 12), .ref (n 13), .ref (n 14), .int 0, .int 0, .ref (n 17), .ref (n 18), .ref (n 19), .ref (n 20), .ref (n 21), .ref (n 22), .ref (n 23), .ref (n 24), .ref (n 25), .int 1, .int 0, .int 12, .int 0, .int 0, .int 0, .int 0, .int 1440, .ref (n 34), .ref (n 35), .int 0, .int 0, .int 0, .ref (n 39), .ref (n 40), .ref (n 41), .ref (n 42), .int 1, .int 0, .int 0]))] := hD
  refine lv_iconst (v := 0) hx hb dX9_round_4 (by decide) ?_
  refine lv_istore_n (lv' := [(2, .int 0), (0, .ref h0), (1, .int x1)]) hx hb dX9_round_5 rfl hl (by decide) rfl (fun ls hl => ?_)
  refine lv_iconst (v := 0) hx hb dX9_round_6 (by decide) ?_
  refine lv_istore_n (lv' := [(3, .int 0), (2, .int 0), (0, .ref h0), (1, .int x1)]) hx hb dX9_round_7 rfl hl (by decide) rfl (fun ls hl => ?_)
  refine lv_iload_n hx hb dX9_round_8 rfl (lv_at hl 0 rfl) ?_
  refine lv_aload_n hx hb dX9_round_9 rfl (lv_at hl 2 rfl) ?_
  refine va_get (D := D) (ci := 9) (v := .int 0) (C := RX9) (T := TX9) (N := 46) hx hb hts (fun _ h9 => List.mem_cons_of_mem _ (List.mem_append_right _ h9)) hown hK hP 0 rfl rfl 38 (by decide) (hts (.fieldLink RX9 195 "BuoyTenderModel" "many" "I") (by decide +kernel)) (fun _ h9 => h9) rfl dX9_round_10 ?_
  refine lv_icmp_ge (tgt := 36) hx hb dX9_round_13 (by decide) (fun _ => ?_) (fun c_2 => False.elim (by revert c_2; decide))
  refine lv_iload_n hx hb dX9_round_36 rfl (lv_at hl 3 rfl) ?_
  by_cases s_3 : x1 = 0
  · refine lv_tableIn (off := 31) (tgt := 68) hx hb dX9_round_37 (by rw [s_3]; decide) (by rw [s_3]; decide) (by rw [s_3]; decide) (by decide) ?_
    refine lv_aload_n hx hb dX9_round_68 rfl (lv_at hl 2 rfl) ?_
    refine va_get (D := D) (ci := 9) (v := .int 0) (C := RX9) (T := TX9) (N := 46) hx hb hts (fun _ h9 => List.mem_cons_of_mem _ (List.mem_append_right _ h9)) hown hK hP 0 rfl rfl 36 (by decide) (hts (.fieldLink RX9 201 "BuoyTenderModel" "bestWeight" "I") (by decide +kernel)) (fun _ h9 => h9) rfl dX9_round_69 ?_
    exact W.iret (v := 0) hx hb hr (fun t ht hW => ⟨⟨0, (), rfl, (Or.inl ⟨rfl, Or.inl s_3⟩), trivial⟩, hS.F ht⟩) hS.2.2 dX9_round_72
  by_cases s_4 : x1 = 1
  · refine lv_tableIn (off := 36) (tgt := 73) hx hb dX9_round_37 (by rw [s_4]; decide) (by rw [s_4]; decide) (by rw [s_4]; decide) (by decide) ?_
    refine lv_aload_n hx hb dX9_round_73 rfl (lv_at hl 2 rfl) ?_
    refine va_get (D := D) (ci := 9) (v := .int 0) (C := RX9) (T := TX9) (N := 46) hx hb hts (fun _ h9 => List.mem_cons_of_mem _ (List.mem_append_right _ h9)) hown hK hP 0 rfl rfl 37 (by decide) (hts (.fieldLink RX9 204 "BuoyTenderModel" "bestBack" "I") (by decide +kernel)) (fun _ h9 => h9) rfl dX9_round_74 ?_
    exact W.iret (v := 0) hx hb hr (fun t ht hW => ⟨⟨0, (), rfl, (Or.inl ⟨rfl, Or.inr (Or.inl s_4)⟩), trivial⟩, hS.F ht⟩) hS.2.2 dX9_round_77
  by_cases s_5 : x1 = 2
  · refine lv_tableIn (off := 41) (tgt := 78) hx hb dX9_round_37 (by rw [s_5]; decide) (by rw [s_5]; decide) (by rw [s_5]; decide) (by decide) ?_
    refine lv_aload_n hx hb dX9_round_78 rfl (lv_at hl 2 rfl) ?_
    refine va_get (D := D) (ci := 9) (v := .int 0) (C := RX9) (T := TX9) (N := 46) hx hb hts (fun _ h9 => List.mem_cons_of_mem _ (List.mem_append_right _ h9)) hown hK hP 0 rfl rfl 38 (by decide) (hts (.fieldLink RX9 195 "BuoyTenderModel" "many" "I") (by decide +kernel)) (fun _ h9 => h9) rfl dX9_round_79 ?_
    exact W.iret (v := 0) hx hb hr (fun t ht hW => ⟨⟨0, (), rfl, (Or.inl ⟨rfl, Or.inr (Or.inr (Or.inl s_5))⟩), trivial⟩, hS.F ht⟩) hS.2.2 dX9_round_82
  by_cases s_6 : x1 = 3
  · refine lv_tableIn (off := 46) (tgt := 83) hx hb dX9_round_37 (by rw [s_6]; decide) (by rw [s_6]; decide) (by rw [s_6]; decide) (by decide) ?_
    refine lv_iload_n hx hb dX9_round_83 rfl (lv_at hl 1 rfl) ?_
    exact W.iret (v := 0) hx hb hr (fun t ht hW => ⟨⟨0, (), rfl, (Or.inl ⟨rfl, Or.inr (Or.inr (Or.inr s_6))⟩), trivial⟩, hS.F ht⟩) hS.2.2 dX9_round_84
  refine lv_tableOut (tgt := 85) hx hb dX9_round_37 (my_out (hi := 3) (fun z hz => by rcases (show z = 0 ∨ z = 1 ∨ z = 2 ∨ z = 3 by omega) with rfl | rfl | rfl | rfl <;> assumption) (by decide)) (by decide) ?_
  refine lv_iload_n hx hb dX9_round_85 rfl (lv_at hl 3 rfl) ?_
  refine lv_bipush (v := 100) hx hb dX9_round_86 (by decide) ?_
  refine lv_bipush (v := 99) hx hb dX9_round_88 (by decide) ?_
  refine lv_aload_n hx hb dX9_round_90 rfl (lv_at hl 2 rfl) ?_
  refine va_get (D := D) (ci := 9) (v := .int 0) (C := RX9) (T := TX9) (N := 46) hx hb hts (fun _ h9 => List.mem_cons_of_mem _ (List.mem_append_right _ h9)) hown hK hP 0 rfl rfl 38 (by decide) (hts (.fieldLink RX9 195 "BuoyTenderModel" "many" "I") (by decide +kernel)) (fun _ h9 => h9) rfl dX9_round_91 ?_
  refine lv_iadd hx hb dX9_round_94 ?_
  refine lv_topi (fun z_7 ez_7 => ?_)
  obtain rfl : z_7 = 99 := ez_7.trans (by decide)
  refine vp_callSi (va_Run.run (va_runS (As := [.int x1, .int 100, .int 99]) (rest := []) ⟨hx, hb, hml, hown, hts⟩ (k_X9_in l x1 100 99) (va_cwS 3 hts gX9_round_X9_in rfl rfl rfl (by decide +kernel) ⟨Nat.le_of_ble_eq_true rfl, Nat.le_of_ble_eq_true rfl⟩) preEq rfl rfl hl.1 rfl (lv_room (Nat.le_of_ble_eq_true rfl)) dX9_round_95 ⟨Nat.le_of_ble_eq_true rfl, Nat.le_of_ble_eq_true rfl⟩)) (fun r_8 h_8 => ?_)
  rcases h_8 with ⟨rfl, h_8⟩ | ⟨rfl, h_8⟩
  · exact (my_gap h_8 (by decide)).elim
  refine lv_if_eq (tgt := 113) hx hb dX9_round_98 (by decide) (fun _ => ?_) (fun c_9 => False.elim (by revert c_9; decide))
  refine lv_iload_n hx hb dX9_round_113 rfl (lv_at hl 3 rfl) ?_
  refine lv_sipush (v := 200) hx hb dX9_round_114 (by decide) ?_
  refine lv_sipush (v := 199) hx hb dX9_round_117 (by decide) ?_
  refine lv_aload_n hx hb dX9_round_120 rfl (lv_at hl 2 rfl) ?_
  refine va_get (D := D) (ci := 9) (v := .int 0) (C := RX9) (T := TX9) (N := 46) hx hb hts (fun _ h9 => List.mem_cons_of_mem _ (List.mem_append_right _ h9)) hown hK hP 0 rfl rfl 38 (by decide) (hts (.fieldLink RX9 195 "BuoyTenderModel" "many" "I") (by decide +kernel)) (fun _ h9 => h9) rfl dX9_round_121 ?_
  refine lv_iadd hx hb dX9_round_124 ?_
  refine lv_topi (fun z_10 ez_10 => ?_)
  obtain rfl : z_10 = 199 := ez_10.trans (by decide)
  refine vp_callSi (va_Run.run (va_runS (As := [.int x1, .int 200, .int 199]) (rest := []) ⟨hx, hb, hml, hown, hts⟩ (k_X9_in l x1 200 199) (va_cwS 3 hts gX9_round_X9_in rfl rfl rfl (by decide +kernel) ⟨Nat.le_of_ble_eq_true rfl, Nat.le_of_ble_eq_true rfl⟩) preEq rfl rfl hl.1 rfl (lv_room (Nat.le_of_ble_eq_true rfl)) dX9_round_125 ⟨Nat.le_of_ble_eq_true rfl, Nat.le_of_ble_eq_true rfl⟩)) (fun r_11 h_11 => ?_)
  rcases h_11 with ⟨rfl, h_11⟩ | ⟨rfl, h_11⟩
  · exact (my_gap h_11 (by decide)).elim
  refine lv_if_eq (tgt := 144) hx hb dX9_round_128 (by decide) (fun _ => ?_) (fun c_12 => False.elim (by revert c_12; decide))
  refine lv_iconst (v := (-1)) hx hb dX9_round_144 (by decide) ?_
  exact W.iret (v := (-1)) hx hb hr (fun t ht hW => ⟨⟨(-1), (), rfl, (Or.inr ⟨rfl, fun h9 => by rcases h9 with h9 | h9 | h9 | h9 <;> contradiction⟩), trivial⟩, hS.F ht⟩) hS.2.2 dX9_round_145
