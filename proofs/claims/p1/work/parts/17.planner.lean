set_option maxHeartbeats 4000000 in
set_option maxRecDepth 100000 in
/-- Planner() -/
theorem k_X2_init (l : Launch) (D : va_G) (cI cJ cZ cM : Nat) (h0 : Nat) (sz : Nat) : Met l yX2_init wsX2_init ({ frames := 1, cells := 12, slots := 11935, locals := 14 } : Room) (RW D cI cJ cZ cM [.ref h0] [(h0, .inr (2, [.null, .null, .null, .null, .null, .null, .null, .null, .null, .null, .null, .null, .int 0, .int 0, .int 0, .int 0]))] sz) (va_Qv (S := Nat → Nat) (fun u => True) (BB D (fun u => [(h0, .inr (2, [.ref (u 1), .ref (u 2), .ref (u 3), .ref (u 4), .ref (u 5), .ref (u 6), .ref (u 7), .ref (u 8), .ref (u 9), .ref (u 10), .ref (u 11), .ref (u 12), .int 0, .int 0, .int 0, .int 0])), (u 1, .inl (cI, 10, .inl (fun _ => 0))), (u 2, .inl (cI, 10, .inl (fun _ => 0))), (u 3, .inl (cI, 10, .inl (fun _ => 0))), (u 4, .inl (cI, 10, .inl (fun _ => 0))), (u 5, .inl (cI, 121, .inl (fun _ => 0))), (u 6, .inl (cI, 240, .inl (fun _ => 0))), (u 7, .inl (cI, 240, .inl (fun _ => 0))), (u 8, .inl (cI, 10240, .inl (fun _ => 0))), (u 9, .inl (cI, 1024, .inl (fun _ => 0))), (u 10, .inl (cI, 10, .inl (fun _ => 0))), (u 11, .inl (cI, 10, .inl (fun _ => 0))), (u 12, .inl (cI, 10, .inl (fun _ => 0)))]) (va_A [(h0, .inr (2, [.null, .null, .null, .null, .null, .null, .null, .null, .null, .null, .null, .null, .int 0, .int 0, .int 0, .int 0]))] sz)) (va_A [(h0, .inr (2, [.null, .null, .null, .null, .null, .null, .null, .null, .null, .null, .null, .null, .int 0, .int 0, .int 0, .int 0]))] sz)) 12 11935 (va_A [(h0, .inr (2, [.null, .null, .null, .null, .null, .null, .null, .null, .null, .null, .null, .null, .int 0, .int 0, .int 0, .int 0]))] sz) := by
  refine Met.ofW (cc := cX2_init) (maxL := 1) (ret := none) (by decide) rfl ?_
  intro p e s m args below meth c s₁ B hml hv
  obtain ⟨rfl, hsz, hG, hP, hD0⟩ := hv
  have hx := B.exec
  have hb := B.bytes
  have hr := B.returns
  have hts := atoms_spec (ws := wsX2_init) B.pre
  have hown : s.vm.findClass RX2 = some m.cls := findClass_of_methodNamed B.named
  have hlocks := B.notSynchronized
  have hin : meth.name = "<init>" := (name_of_methodNamed B.named B.method).1
  have hK := hG.1
  have hN := hG.2
  subst hsz
  have hD := hD0.self (sz := s.heap.size)
  generalize hAe : va_A [(h0, .inr (2, [.null, .null, .null, .null, .null, .null, .null, .null, .null, .null, .null, .null, .int 0, .int 0, .int 0, .int 0]))] s.heap.size = A at hD ⊢
  have hA : ∀ q : Nat, s.heap.size ≤ q → A q := fun q h => by rw [← hAe]; exact Or.inr h
  have hS : va_S A s.heap s.heap [] := va_S.rf
  have hP : va_P D vwCl [(h0, .inr (2, [.null, .null, .null, .null, .null, .null, .null, .null, .null, .null, .null, .null, .int 0, .int 0, .int 0, .int 0]))] s.heap := hP
  have hl := lv_entry ([.ref h0]) (n := 1) (Nat.le_of_ble_eq_true rfl)
  rw [lg_entry_eq]
  generalize (lg_sl ([.ref h0]) ++ List.replicate (1 - (lg_sl ([.ref h0])).length) Slot.unset).toArray = ls at hl ⊢
  have hl : lv_has ls 1 [(0, .ref h0)] := hl
  refine lv_aload_n hx hb dX2_init_0 rfl (lv_at hl 0 rfl) ?_
  refine W.objInit hx hb hown (hts (.methodLink RX2 3 objectInit) (by decide +kernel)) (hts (.instanceMethod objectInit) (by decide +kernel)) (hts (.code objectInit ⟨#[0xb1]⟩ 1 none) (by decide +kernel)) rfl (by rw [hml]; exact hl.1) rfl dX2_init_1 (Nat.le_of_ble_eq_true rfl) (Nat.le_of_ble_eq_true rfl) ?_
  refine W.eq (g2 := F0 m 4 ls []) rfl ?_
  refine lv_aload_n hx hb dX2_init_4 rfl (lv_at hl 0 rfl) ?_
  refine lv_bipush (v := 10) hx hb dX2_init_5 (by decide) ?_
  refine my_newi hx hb (hts (.arrayClass .int) (by decide +kernel)) hK hP hD hS hA (N' := 10) (by decide) (by decide) (by decide) (Nat.le_of_ble_eq_true rfl) (Nat.le_of_ble_eq_true rfl) dX2_init_7 (fun q1 H hP hD hS => ?_)
  have hP : va_P D vwCl [(h0, .inr (2, [.null, .null, .null, .null, .null, .null, .null, .null, .null, .null, .null, .null, .int 0, .int 0, .int 0, .int 0])), (q1, .inl (cI, 10, .inl (fun _ => 0)))] H := hP
  have hD : va_D A [(h0, .inr (2, [.null, .null, .null, .null, .null, .null, .null, .null, .null, .null, .null, .null, .int 0, .int 0, .int 0, .int 0])), (q1, .inl (cI, 10, .inl (fun _ => 0)))] := hD
  refine W.widen (k := 1) (n := 10) (by decide) (by decide) ?_
  refine va_putF (D := D) (ci := 2) (v := .ref q1) (ty := (tyX2 0)) (C := RX2) (T := TX2) (N := 16) hx hb hts (fun _ h9 => List.mem_cons_of_mem _ (List.mem_append_right _ h9)) tyX2 tyX2_ok nmX2 hown hK hP hD hS 0 rfl rfl 0 (by decide) (hts (.fieldLink RX2 9 "BuoyTender$Planner" "numbers" "[I") (by decide +kernel)) (fun _ h9 => h9) rfl hin rfl (by decide +kernel) rfl rfl (Nat.le_of_ble_eq_true rfl) dX2_init_9 (fun H locs hP hD hS => ?_)
  have hP : va_P D vwCl [(h0, .inr (2, [.ref q1, .null, .null, .null, .null, .null, .null, .null, .null, .null, .null, .null, .int 0, .int 0, .int 0, .int 0])), (q1, .inl (cI, 10, .inl (fun _ => 0)))] H := hP
  have hD : va_D A [(h0, .inr (2, [.ref q1, .null, .null, .null, .null, .null, .null, .null, .null, .null, .null, .null, .int 0, .int 0, .int 0, .int 0])), (q1, .inl (cI, 10, .inl (fun _ => 0)))] := hD
  refine lv_aload_n hx hb dX2_init_12 rfl (lv_at hl 0 rfl) ?_
  refine lv_bipush (v := 10) hx hb dX2_init_13 (by decide) ?_
  refine my_newi hx hb (hts (.arrayClass .int) (by decide +kernel)) hK hP hD hS hA (N' := 10) (by decide) (by decide) (by decide) (Nat.le_of_ble_eq_true rfl) (Nat.le_of_ble_eq_true rfl) dX2_init_15 (fun q2 H hP hD hS => ?_)
  have hP : va_P D vwCl [(h0, .inr (2, [.ref q1, .null, .null, .null, .null, .null, .null, .null, .null, .null, .null, .null, .int 0, .int 0, .int 0, .int 0])), (q1, .inl (cI, 10, .inl (fun _ => 0))), (q2, .inl (cI, 10, .inl (fun _ => 0)))] H := hP
  have hD : va_D A [(h0, .inr (2, [.ref q1, .null, .null, .null, .null, .null, .null, .null, .null, .null, .null, .null, .int 0, .int 0, .int 0, .int 0])), (q1, .inl (cI, 10, .inl (fun _ => 0))), (q2, .inl (cI, 10, .inl (fun _ => 0)))] := hD
  refine W.widen (k := 2) (n := 20) (by decide) (by decide) ?_
  refine va_putF (D := D) (ci := 2) (v := .ref q2) (ty := (tyX2 1)) (C := RX2) (T := TX2) (N := 16) hx hb hts (fun _ h9 => List.mem_cons_of_mem _ (List.mem_append_right _ h9)) tyX2 tyX2_ok nmX2 hown hK hP hD hS 0 rfl rfl 1 (by decide) (hts (.fieldLink RX2 15 "BuoyTender$Planner" "minutes" "[I") (by decide +kernel)) (fun _ h9 => h9) rfl hin rfl (by decide +kernel) rfl rfl (Nat.le_of_ble_eq_true rfl) dX2_init_17 (fun H locs hP hD hS => ?_)
  have hP : va_P D vwCl [(h0, .inr (2, [.ref q1, .ref q2, .null, .null, .null, .null, .null, .null, .null, .null, .null, .null, .int 0, .int 0, .int 0, .int 0])), (q1, .inl (cI, 10, .inl (fun _ => 0))), (q2, .inl (cI, 10, .inl (fun _ => 0)))] H := hP
  have hD : va_D A [(h0, .inr (2, [.ref q1, .ref q2, .null, .null, .null, .null, .null, .null, .null, .null, .null, .null, .int 0, .int 0, .int 0, .int 0])), (q1, .inl (cI, 10, .inl (fun _ => 0))), (q2, .inl (cI, 10, .inl (fun _ => 0)))] := hD
  refine lv_aload_n hx hb dX2_init_20 rfl (lv_at hl 0 rfl) ?_
  refine lv_bipush (v := 10) hx hb dX2_init_21 (by decide) ?_
  refine my_newi hx hb (hts (.arrayClass .int) (by decide +kernel)) hK hP hD hS hA (N' := 10) (by decide) (by decide) (by decide) (Nat.le_of_ble_eq_true rfl) (Nat.le_of_ble_eq_true rfl) dX2_init_23 (fun q3 H hP hD hS => ?_)
  have hP : va_P D vwCl [(h0, .inr (2, [.ref q1, .ref q2, .null, .null, .null, .null, .null, .null, .null, .null, .null, .null, .int 0, .int 0, .int 0, .int 0])), (q1, .inl (cI, 10, .inl (fun _ => 0))), (q2, .inl (cI, 10, .inl (fun _ => 0))), (q3, .inl (cI, 10, .inl (fun _ => 0)))] H := hP
  have hD : va_D A [(h0, .inr (2, [.ref q1, .ref q2, .null, .null, .null, .null, .null, .null, .null, .null, .null, .null, .int 0, .int 0, .int 0, .int 0])), (q1, .inl (cI, 10, .inl (fun _ => 0))), (q2, .inl (cI, 10, .inl (fun _ => 0))), (q3, .inl (cI, 10, .inl (fun _ => 0)))] := hD
  refine W.widen (k := 3) (n := 30) (by decide) (by decide) ?_
  refine va_putF (D := D) (ci := 2) (v := .ref q3) (ty := (tyX2 2)) (C := RX2) (T := TX2) (N := 16) hx hb hts (fun _ h9 => List.mem_cons_of_mem _ (List.mem_append_right _ h9)) tyX2 tyX2_ok nmX2 hown hK hP hD hS 0 rfl rfl 2 (by decide) (hts (.fieldLink RX2 18 "BuoyTender$Planner" "loads" "[I") (by decide +kernel)) (fun _ h9 => h9) rfl hin rfl (by decide +kernel) rfl rfl (Nat.le_of_ble_eq_true rfl) dX2_init_25 (fun H locs hP hD hS => ?_)
  have hP : va_P D vwCl [(h0, .inr (2, [.ref q1, .ref q2, .ref q3, .null, .null, .null, .null, .null, .null, .null, .null, .null, .int 0, .int 0, .int 0, .int 0])), (q1, .inl (cI, 10, .inl (fun _ => 0))), (q2, .inl (cI, 10, .inl (fun _ => 0))), (q3, .inl (cI, 10, .inl (fun _ => 0)))] H := hP
  have hD : va_D A [(h0, .inr (2, [.ref q1, .ref q2, .ref q3, .null, .null, .null, .null, .null, .null, .null, .null, .null, .int 0, .int 0, .int 0, .int 0])), (q1, .inl (cI, 10, .inl (fun _ => 0))), (q2, .inl (cI, 10, .inl (fun _ => 0))), (q3, .inl (cI, 10, .inl (fun _ => 0)))] := hD
  refine lv_aload_n hx hb dX2_init_28 rfl (lv_at hl 0 rfl) ?_
  refine lv_bipush (v := 10) hx hb dX2_init_29 (by decide) ?_
  refine my_newi hx hb (hts (.arrayClass .int) (by decide +kernel)) hK hP hD hS hA (N' := 10) (by decide) (by decide) (by decide) (Nat.le_of_ble_eq_true rfl) (Nat.le_of_ble_eq_true rfl) dX2_init_31 (fun q4 H hP hD hS => ?_)
  have hP : va_P D vwCl [(h0, .inr (2, [.ref q1, .ref q2, .ref q3, .null, .null, .null, .null, .null, .null, .null, .null, .null, .int 0, .int 0, .int 0, .int 0])), (q1, .inl (cI, 10, .inl (fun _ => 0))), (q2, .inl (cI, 10, .inl (fun _ => 0))), (q3, .inl (cI, 10, .inl (fun _ => 0))), (q4, .inl (cI, 10, .inl (fun _ => 0)))] H := hP
  have hD : va_D A [(h0, .inr (2, [.ref q1, .ref q2, .ref q3, .null, .null, .null, .null, .null, .null, .null, .null, .null, .int 0, .int 0, .int 0, .int 0])), (q1, .inl (cI, 10, .inl (fun _ => 0))), (q2, .inl (cI, 10, .inl (fun _ => 0))), (q3, .inl (cI, 10, .inl (fun _ => 0))), (q4, .inl (cI, 10, .inl (fun _ => 0)))] := hD
  refine W.widen (k := 4) (n := 40) (by decide) (by decide) ?_
  refine va_putF (D := D) (ci := 2) (v := .ref q4) (ty := (tyX2 3)) (C := RX2) (T := TX2) (N := 16) hx hb hts (fun _ h9 => List.mem_cons_of_mem _ (List.mem_append_right _ h9)) tyX2 tyX2_ok nmX2 hown hK hP hD hS 0 rfl rfl 3 (by decide) (hts (.fieldLink RX2 21 "BuoyTender$Planner" "weights" "[I") (by decide +kernel)) (fun _ h9 => h9) rfl hin rfl (by decide +kernel) rfl rfl (Nat.le_of_ble_eq_true rfl) dX2_init_33 (fun H locs hP hD hS => ?_)
  have hP : va_P D vwCl [(h0, .inr (2, [.ref q1, .ref q2, .ref q3, .ref q4, .null, .null, .null, .null, .null, .null, .null, .null, .int 0, .int 0, .int 0, .int 0])), (q1, .inl (cI, 10, .inl (fun _ => 0))), (q2, .inl (cI, 10, .inl (fun _ => 0))), (q3, .inl (cI, 10, .inl (fun _ => 0))), (q4, .inl (cI, 10, .inl (fun _ => 0)))] H := hP
  have hD : va_D A [(h0, .inr (2, [.ref q1, .ref q2, .ref q3, .ref q4, .null, .null, .null, .null, .null, .null, .null, .null, .int 0, .int 0, .int 0, .int 0])), (q1, .inl (cI, 10, .inl (fun _ => 0))), (q2, .inl (cI, 10, .inl (fun _ => 0))), (q3, .inl (cI, 10, .inl (fun _ => 0))), (q4, .inl (cI, 10, .inl (fun _ => 0)))] := hD
  refine lv_aload_n hx hb dX2_init_36 rfl (lv_at hl 0 rfl) ?_
  refine lv_bipush (v := 121) hx hb dX2_init_37 (by decide) ?_
  refine my_newi hx hb (hts (.arrayClass .int) (by decide +kernel)) hK hP hD hS hA (N' := 121) (by decide) (by decide) (by decide) (Nat.le_of_ble_eq_true rfl) (Nat.le_of_ble_eq_true rfl) dX2_init_39 (fun q5 H hP hD hS => ?_)
  have hP : va_P D vwCl [(h0, .inr (2, [.ref q1, .ref q2, .ref q3, .ref q4, .null, .null, .null, .null, .null, .null, .null, .null, .int 0, .int 0, .int 0, .int 0])), (q1, .inl (cI, 10, .inl (fun _ => 0))), (q2, .inl (cI, 10, .inl (fun _ => 0))), (q3, .inl (cI, 10, .inl (fun _ => 0))), (q4, .inl (cI, 10, .inl (fun _ => 0))), (q5, .inl (cI, 121, .inl (fun _ => 0)))] H := hP
  have hD : va_D A [(h0, .inr (2, [.ref q1, .ref q2, .ref q3, .ref q4, .null, .null, .null, .null, .null, .null, .null, .null, .int 0, .int 0, .int 0, .int 0])), (q1, .inl (cI, 10, .inl (fun _ => 0))), (q2, .inl (cI, 10, .inl (fun _ => 0))), (q3, .inl (cI, 10, .inl (fun _ => 0))), (q4, .inl (cI, 10, .inl (fun _ => 0))), (q5, .inl (cI, 121, .inl (fun _ => 0)))] := hD
  refine W.widen (k := 5) (n := 161) (by decide) (by decide) ?_
  refine va_putF (D := D) (ci := 2) (v := .ref q5) (ty := (tyX2 4)) (C := RX2) (T := TX2) (N := 16) hx hb hts (fun _ h9 => List.mem_cons_of_mem _ (List.mem_append_right _ h9)) tyX2 tyX2_ok nmX2 hown hK hP hD hS 0 rfl rfl 4 (by decide) (hts (.fieldLink RX2 24 "BuoyTender$Planner" "ways" "[I") (by decide +kernel)) (fun _ h9 => h9) rfl hin rfl (by decide +kernel) rfl rfl (Nat.le_of_ble_eq_true rfl) dX2_init_41 (fun H locs hP hD hS => ?_)
  have hP : va_P D vwCl [(h0, .inr (2, [.ref q1, .ref q2, .ref q3, .ref q4, .ref q5, .null, .null, .null, .null, .null, .null, .null, .int 0, .int 0, .int 0, .int 0])), (q1, .inl (cI, 10, .inl (fun _ => 0))), (q2, .inl (cI, 10, .inl (fun _ => 0))), (q3, .inl (cI, 10, .inl (fun _ => 0))), (q4, .inl (cI, 10, .inl (fun _ => 0))), (q5, .inl (cI, 121, .inl (fun _ => 0)))] H := hP
  have hD : va_D A [(h0, .inr (2, [.ref q1, .ref q2, .ref q3, .ref q4, .ref q5, .null, .null, .null, .null, .null, .null, .null, .int 0, .int 0, .int 0, .int 0])), (q1, .inl (cI, 10, .inl (fun _ => 0))), (q2, .inl (cI, 10, .inl (fun _ => 0))), (q3, .inl (cI, 10, .inl (fun _ => 0))), (q4, .inl (cI, 10, .inl (fun _ => 0))), (q5, .inl (cI, 121, .inl (fun _ => 0)))] := hD
  refine lv_aload_n hx hb dX2_init_44 rfl (lv_at hl 0 rfl) ?_
  refine lv_sipush (v := 240) hx hb dX2_init_45 (by decide) ?_
  refine my_newi hx hb (hts (.arrayClass .int) (by decide +kernel)) hK hP hD hS hA (N' := 240) (by decide) (by decide) (by decide) (Nat.le_of_ble_eq_true rfl) (Nat.le_of_ble_eq_true rfl) dX2_init_48 (fun q6 H hP hD hS => ?_)
  have hP : va_P D vwCl [(h0, .inr (2, [.ref q1, .ref q2, .ref q3, .ref q4, .ref q5, .null, .null, .null, .null, .null, .null, .null, .int 0, .int 0, .int 0, .int 0])), (q1, .inl (cI, 10, .inl (fun _ => 0))), (q2, .inl (cI, 10, .inl (fun _ => 0))), (q3, .inl (cI, 10, .inl (fun _ => 0))), (q4, .inl (cI, 10, .inl (fun _ => 0))), (q5, .inl (cI, 121, .inl (fun _ => 0))), (q6, .inl (cI, 240, .inl (fun _ => 0)))] H := hP
  have hD : va_D A [(h0, .inr (2, [.ref q1, .ref q2, .ref q3, .ref q4, .ref q5, .null, .null, .null, .null, .null, .null, .null, .int 0, .int 0, .int 0, .int 0])), (q1, .inl (cI, 10, .inl (fun _ => 0))), (q2, .inl (cI, 10, .inl (fun _ => 0))), (q3, .inl (cI, 10, .inl (fun _ => 0))), (q4, .inl (cI, 10, .inl (fun _ => 0))), (q5, .inl (cI, 121, .inl (fun _ => 0))), (q6, .inl (cI, 240, .inl (fun _ => 0)))] := hD
  refine W.widen (k := 6) (n := 401) (by decide) (by decide) ?_
  refine va_putF (D := D) (ci := 2) (v := .ref q6) (ty := (tyX2 5)) (C := RX2) (T := TX2) (N := 16) hx hb hts (fun _ h9 => List.mem_cons_of_mem _ (List.mem_append_right _ h9)) tyX2 tyX2_ok nmX2 hown hK hP hD hS 0 rfl rfl 5 (by decide) (hts (.fieldLink RX2 27 "BuoyTender$Planner" "opensIn" "[I") (by decide +kernel)) (fun _ h9 => h9) rfl hin rfl (by decide +kernel) rfl rfl (Nat.le_of_ble_eq_true rfl) dX2_init_50 (fun H locs hP hD hS => ?_)
  have hP : va_P D vwCl [(h0, .inr (2, [.ref q1, .ref q2, .ref q3, .ref q4, .ref q5, .ref q6, .null, .null, .null, .null, .null, .null, .int 0, .int 0, .int 0, .int 0])), (q1, .inl (cI, 10, .inl (fun _ => 0))), (q2, .inl (cI, 10, .inl (fun _ => 0))), (q3, .inl (cI, 10, .inl (fun _ => 0))), (q4, .inl (cI, 10, .inl (fun _ => 0))), (q5, .inl (cI, 121, .inl (fun _ => 0))), (q6, .inl (cI, 240, .inl (fun _ => 0)))] H := hP
  have hD : va_D A [(h0, .inr (2, [.ref q1, .ref q2, .ref q3, .ref q4, .ref q5, .ref q6, .null, .null, .null, .null, .null, .null, .int 0, .int 0, .int 0, .int 0])), (q1, .inl (cI, 10, .inl (fun _ => 0))), (q2, .inl (cI, 10, .inl (fun _ => 0))), (q3, .inl (cI, 10, .inl (fun _ => 0))), (q4, .inl (cI, 10, .inl (fun _ => 0))), (q5, .inl (cI, 121, .inl (fun _ => 0))), (q6, .inl (cI, 240, .inl (fun _ => 0)))] := hD
  refine lv_aload_n hx hb dX2_init_53 rfl (lv_at hl 0 rfl) ?_
  refine lv_sipush (v := 240) hx hb dX2_init_54 (by decide) ?_
  refine my_newi hx hb (hts (.arrayClass .int) (by decide +kernel)) hK hP hD hS hA (N' := 240) (by decide) (by decide) (by decide) (Nat.le_of_ble_eq_true rfl) (Nat.le_of_ble_eq_true rfl) dX2_init_57 (fun q7 H hP hD hS => ?_)
  have hP : va_P D vwCl [(h0, .inr (2, [.ref q1, .ref q2, .ref q3, .ref q4, .ref q5, .ref q6, .null, .null, .null, .null, .null, .null, .int 0, .int 0, .int 0, .int 0])), (q1, .inl (cI, 10, .inl (fun _ => 0))), (q2, .inl (cI, 10, .inl (fun _ => 0))), (q3, .inl (cI, 10, .inl (fun _ => 0))), (q4, .inl (cI, 10, .inl (fun _ => 0))), (q5, .inl (cI, 121, .inl (fun _ => 0))), (q6, .inl (cI, 240, .inl (fun _ => 0))), (q7, .inl (cI, 240, .inl (fun _ => 0)))] H := hP
  have hD : va_D A [(h0, .inr (2, [.ref q1, .ref q2, .ref q3, .ref q4, .ref q5, .ref q6, .null, .null, .null, .null, .null, .null, .int 0, .int 0, .int 0, .int 0])), (q1, .inl (cI, 10, .inl (fun _ => 0))), (q2, .inl (cI, 10, .inl (fun _ => 0))), (q3, .inl (cI, 10, .inl (fun _ => 0))), (q4, .inl (cI, 10, .inl (fun _ => 0))), (q5, .inl (cI, 121, .inl (fun _ => 0))), (q6, .inl (cI, 240, .inl (fun _ => 0))), (q7, .inl (cI, 240, .inl (fun _ => 0)))] := hD
  refine W.widen (k := 7) (n := 641) (by decide) (by decide) ?_
  refine va_putF (D := D) (ci := 2) (v := .ref q7) (ty := (tyX2 6)) (C := RX2) (T := TX2) (N := 16) hx hb hts (fun _ h9 => List.mem_cons_of_mem _ (List.mem_append_right _ h9)) tyX2 tyX2_ok nmX2 hown hK hP hD hS 0 rfl rfl 6 (by decide) (hts (.fieldLink RX2 30 "BuoyTender$Planner" "openedIn" "[I") (by decide +kernel)) (fun _ h9 => h9) rfl hin rfl (by decide +kernel) rfl rfl (Nat.le_of_ble_eq_true rfl) dX2_init_59 (fun H locs hP hD hS => ?_)
  have hP : va_P D vwCl [(h0, .inr (2, [.ref q1, .ref q2, .ref q3, .ref q4, .ref q5, .ref q6, .ref q7, .null, .null, .null, .null, .null, .int 0, .int 0, .int 0, .int 0])), (q1, .inl (cI, 10, .inl (fun _ => 0))), (q2, .inl (cI, 10, .inl (fun _ => 0))), (q3, .inl (cI, 10, .inl (fun _ => 0))), (q4, .inl (cI, 10, .inl (fun _ => 0))), (q5, .inl (cI, 121, .inl (fun _ => 0))), (q6, .inl (cI, 240, .inl (fun _ => 0))), (q7, .inl (cI, 240, .inl (fun _ => 0)))] H := hP
  have hD : va_D A [(h0, .inr (2, [.ref q1, .ref q2, .ref q3, .ref q4, .ref q5, .ref q6, .ref q7, .null, .null, .null, .null, .null, .int 0, .int 0, .int 0, .int 0])), (q1, .inl (cI, 10, .inl (fun _ => 0))), (q2, .inl (cI, 10, .inl (fun _ => 0))), (q3, .inl (cI, 10, .inl (fun _ => 0))), (q4, .inl (cI, 10, .inl (fun _ => 0))), (q5, .inl (cI, 121, .inl (fun _ => 0))), (q6, .inl (cI, 240, .inl (fun _ => 0))), (q7, .inl (cI, 240, .inl (fun _ => 0)))] := hD
  refine lv_aload_n hx hb dX2_init_62 rfl (lv_at hl 0 rfl) ?_
  refine lv_sipush (v := 10240) hx hb dX2_init_63 (by decide) ?_
  refine my_newi hx hb (hts (.arrayClass .int) (by decide +kernel)) hK hP hD hS hA (N' := 10240) (by decide) (by decide) (by decide) (Nat.le_of_ble_eq_true rfl) (Nat.le_of_ble_eq_true rfl) dX2_init_66 (fun q8 H hP hD hS => ?_)
  have hP : va_P D vwCl [(h0, .inr (2, [.ref q1, .ref q2, .ref q3, .ref q4, .ref q5, .ref q6, .ref q7, .null, .null, .null, .null, .null, .int 0, .int 0, .int 0, .int 0])), (q1, .inl (cI, 10, .inl (fun _ => 0))), (q2, .inl (cI, 10, .inl (fun _ => 0))), (q3, .inl (cI, 10, .inl (fun _ => 0))), (q4, .inl (cI, 10, .inl (fun _ => 0))), (q5, .inl (cI, 121, .inl (fun _ => 0))), (q6, .inl (cI, 240, .inl (fun _ => 0))), (q7, .inl (cI, 240, .inl (fun _ => 0))), (q8, .inl (cI, 10240, .inl (fun _ => 0)))] H := hP
  have hD : va_D A [(h0, .inr (2, [.ref q1, .ref q2, .ref q3, .ref q4, .ref q5, .ref q6, .ref q7, .null, .null, .null, .null, .null, .int 0, .int 0, .int 0, .int 0])), (q1, .inl (cI, 10, .inl (fun _ => 0))), (q2, .inl (cI, 10, .inl (fun _ => 0))), (q3, .inl (cI, 10, .inl (fun _ => 0))), (q4, .inl (cI, 10, .inl (fun _ => 0))), (q5, .inl (cI, 121, .inl (fun _ => 0))), (q6, .inl (cI, 240, .inl (fun _ => 0))), (q7, .inl (cI, 240, .inl (fun _ => 0))), (q8, .inl (cI, 10240, .inl (fun _ => 0)))] := hD
  refine W.widen (k := 8) (n := 10881) (by decide) (by decide) ?_
  refine va_putF (D := D) (ci := 2) (v := .ref q8) (ty := (tyX2 7)) (C := RX2) (T := TX2) (N := 16) hx hb hts (fun _ h9 => List.mem_cons_of_mem _ (List.mem_append_right _ h9)) tyX2 tyX2_ok nmX2 hown hK hP hD hS 0 rfl rfl 7 (by decide) (hts (.fieldLink RX2 33 "BuoyTender$Planner" "ends" "[I") (by decide +kernel)) (fun _ h9 => h9) rfl hin rfl (by decide +kernel) rfl rfl (Nat.le_of_ble_eq_true rfl) dX2_init_68 (fun H locs hP hD hS => ?_)
  have hP : va_P D vwCl [(h0, .inr (2, [.ref q1, .ref q2, .ref q3, .ref q4, .ref q5, .ref q6, .ref q7, .ref q8, .null, .null, .null, .null, .int 0, .int 0, .int 0, .int 0])), (q1, .inl (cI, 10, .inl (fun _ => 0))), (q2, .inl (cI, 10, .inl (fun _ => 0))), (q3, .inl (cI, 10, .inl (fun _ => 0))), (q4, .inl (cI, 10, .inl (fun _ => 0))), (q5, .inl (cI, 121, .inl (fun _ => 0))), (q6, .inl (cI, 240, .inl (fun _ => 0))), (q7, .inl (cI, 240, .inl (fun _ => 0))), (q8, .inl (cI, 10240, .inl (fun _ => 0)))] H := hP
  have hD : va_D A [(h0, .inr (2, [.ref q1, .ref q2, .ref q3, .ref q4, .ref q5, .ref q6, .ref q7, .ref q8, .null, .null, .null, .null, .int 0, .int 0, .int 0, .int 0])), (q1, .inl (cI, 10, .inl (fun _ => 0))), (q2, .inl (cI, 10, .inl (fun _ => 0))), (q3, .inl (cI, 10, .inl (fun _ => 0))), (q4, .inl (cI, 10, .inl (fun _ => 0))), (q5, .inl (cI, 121, .inl (fun _ => 0))), (q6, .inl (cI, 240, .inl (fun _ => 0))), (q7, .inl (cI, 240, .inl (fun _ => 0))), (q8, .inl (cI, 10240, .inl (fun _ => 0)))] := hD
  refine lv_aload_n hx hb dX2_init_71 rfl (lv_at hl 0 rfl) ?_
  refine lv_sipush (v := 1024) hx hb dX2_init_72 (by decide) ?_
  refine my_newi hx hb (hts (.arrayClass .int) (by decide +kernel)) hK hP hD hS hA (N' := 1024) (by decide) (by decide) (by decide) (Nat.le_of_ble_eq_true rfl) (Nat.le_of_ble_eq_true rfl) dX2_init_75 (fun q9 H hP hD hS => ?_)
  have hP : va_P D vwCl [(h0, .inr (2, [.ref q1, .ref q2, .ref q3, .ref q4, .ref q5, .ref q6, .ref q7, .ref q8, .null, .null, .null, .null, .int 0, .int 0, .int 0, .int 0])), (q1, .inl (cI, 10, .inl (fun _ => 0))), (q2, .inl (cI, 10, .inl (fun _ => 0))), (q3, .inl (cI, 10, .inl (fun _ => 0))), (q4, .inl (cI, 10, .inl (fun _ => 0))), (q5, .inl (cI, 121, .inl (fun _ => 0))), (q6, .inl (cI, 240, .inl (fun _ => 0))), (q7, .inl (cI, 240, .inl (fun _ => 0))), (q8, .inl (cI, 10240, .inl (fun _ => 0))), (q9, .inl (cI, 1024, .inl (fun _ => 0)))] H := hP
  have hD : va_D A [(h0, .inr (2, [.ref q1, .ref q2, .ref q3, .ref q4, .ref q5, .ref q6, .ref q7, .ref q8, .null, .null, .null, .null, .int 0, .int 0, .int 0, .int 0])), (q1, .inl (cI, 10, .inl (fun _ => 0))), (q2, .inl (cI, 10, .inl (fun _ => 0))), (q3, .inl (cI, 10, .inl (fun _ => 0))), (q4, .inl (cI, 10, .inl (fun _ => 0))), (q5, .inl (cI, 121, .inl (fun _ => 0))), (q6, .inl (cI, 240, .inl (fun _ => 0))), (q7, .inl (cI, 240, .inl (fun _ => 0))), (q8, .inl (cI, 10240, .inl (fun _ => 0))), (q9, .inl (cI, 1024, .inl (fun _ => 0)))] := hD
  refine W.widen (k := 9) (n := 11905) (by decide) (by decide) ?_
  refine va_putF (D := D) (ci := 2) (v := .ref q9) (ty := (tyX2 8)) (C := RX2) (T := TX2) (N := 16) hx hb hts (fun _ h9 => List.mem_cons_of_mem _ (List.mem_append_right _ h9)) tyX2 tyX2_ok nmX2 hown hK hP hD hS 0 rfl rfl 8 (by decide) (hts (.fieldLink RX2 36 "BuoyTender$Planner" "backs" "[I") (by decide +kernel)) (fun _ h9 => h9) rfl hin rfl (by decide +kernel) rfl rfl (Nat.le_of_ble_eq_true rfl) dX2_init_77 (fun H locs hP hD hS => ?_)
  have hP : va_P D vwCl [(h0, .inr (2, [.ref q1, .ref q2, .ref q3, .ref q4, .ref q5, .ref q6, .ref q7, .ref q8, .ref q9, .null, .null, .null, .int 0, .int 0, .int 0, .int 0])), (q1, .inl (cI, 10, .inl (fun _ => 0))), (q2, .inl (cI, 10, .inl (fun _ => 0))), (q3, .inl (cI, 10, .inl (fun _ => 0))), (q4, .inl (cI, 10, .inl (fun _ => 0))), (q5, .inl (cI, 121, .inl (fun _ => 0))), (q6, .inl (cI, 240, .inl (fun _ => 0))), (q7, .inl (cI, 240, .inl (fun _ => 0))), (q8, .inl (cI, 10240, .inl (fun _ => 0))), (q9, .inl (cI, 1024, .inl (fun _ => 0)))] H := hP
  have hD : va_D A [(h0, .inr (2, [.ref q1, .ref q2, .ref q3, .ref q4, .ref q5, .ref q6, .ref q7, .ref q8, .ref q9, .null, .null, .null, .int 0, .int 0, .int 0, .int 0])), (q1, .inl (cI, 10, .inl (fun _ => 0))), (q2, .inl (cI, 10, .inl (fun _ => 0))), (q3, .inl (cI, 10, .inl (fun _ => 0))), (q4, .inl (cI, 10, .inl (fun _ => 0))), (q5, .inl (cI, 121, .inl (fun _ => 0))), (q6, .inl (cI, 240, .inl (fun _ => 0))), (q7, .inl (cI, 240, .inl (fun _ => 0))), (q8, .inl (cI, 10240, .inl (fun _ => 0))), (q9, .inl (cI, 1024, .inl (fun _ => 0)))] := hD
  refine lv_aload_n hx hb dX2_init_80 rfl (lv_at hl 0 rfl) ?_
  refine lv_bipush (v := 10) hx hb dX2_init_81 (by decide) ?_
  refine my_newi hx hb (hts (.arrayClass .int) (by decide +kernel)) hK hP hD hS hA (N' := 10) (by decide) (by decide) (by decide) (Nat.le_of_ble_eq_true rfl) (Nat.le_of_ble_eq_true rfl) dX2_init_83 (fun q10 H hP hD hS => ?_)
  have hP : va_P D vwCl [(h0, .inr (2, [.ref q1, .ref q2, .ref q3, .ref q4, .ref q5, .ref q6, .ref q7, .ref q8, .ref q9, .null, .null, .null, .int 0, .int 0, .int 0, .int 0])), (q1, .inl (cI, 10, .inl (fun _ => 0))), (q2, .inl (cI, 10, .inl (fun _ => 0))), (q3, .inl (cI, 10, .inl (fun _ => 0))), (q4, .inl (cI, 10, .inl (fun _ => 0))), (q5, .inl (cI, 121, .inl (fun _ => 0))), (q6, .inl (cI, 240, .inl (fun _ => 0))), (q7, .inl (cI, 240, .inl (fun _ => 0))), (q8, .inl (cI, 10240, .inl (fun _ => 0))), (q9, .inl (cI, 1024, .inl (fun _ => 0))), (q10, .inl (cI, 10, .inl (fun _ => 0)))] H := hP
  have hD : va_D A [(h0, .inr (2, [.ref q1, .ref q2, .ref q3, .ref q4, .ref q5, .ref q6, .ref q7, .ref q8, .ref q9, .null, .null, .null, .int 0, .int 0, .int 0, .int 0])), (q1, .inl (cI, 10, .inl (fun _ => 0))), (q2, .inl (cI, 10, .inl (fun _ => 0))), (q3, .inl (cI, 10, .inl (fun _ => 0))), (q4, .inl (cI, 10, .inl (fun _ => 0))), (q5, .inl (cI, 121, .inl (fun _ => 0))), (q6, .inl (cI, 240, .inl (fun _ => 0))), (q7, .inl (cI, 240, .inl (fun _ => 0))), (q8, .inl (cI, 10240, .inl (fun _ => 0))), (q9, .inl (cI, 1024, .inl (fun _ => 0))), (q10, .inl (cI, 10, .inl (fun _ => 0)))] := hD
  refine W.widen (k := 10) (n := 11915) (by decide) (by decide) ?_
  refine va_putF (D := D) (ci := 2) (v := .ref q10) (ty := (tyX2 9)) (C := RX2) (T := TX2) (N := 16) hx hb hts (fun _ h9 => List.mem_cons_of_mem _ (List.mem_append_right _ h9)) tyX2 tyX2_ok nmX2 hown hK hP hD hS 0 rfl rfl 9 (by decide) (hts (.fieldLink RX2 39 "BuoyTender$Planner" "tried" "[I") (by decide +kernel)) (fun _ h9 => h9) rfl hin rfl (by decide +kernel) rfl rfl (Nat.le_of_ble_eq_true rfl) dX2_init_85 (fun H locs hP hD hS => ?_)
  have hP : va_P D vwCl [(h0, .inr (2, [.ref q1, .ref q2, .ref q3, .ref q4, .ref q5, .ref q6, .ref q7, .ref q8, .ref q9, .ref q10, .null, .null, .int 0, .int 0, .int 0, .int 0])), (q1, .inl (cI, 10, .inl (fun _ => 0))), (q2, .inl (cI, 10, .inl (fun _ => 0))), (q3, .inl (cI, 10, .inl (fun _ => 0))), (q4, .inl (cI, 10, .inl (fun _ => 0))), (q5, .inl (cI, 121, .inl (fun _ => 0))), (q6, .inl (cI, 240, .inl (fun _ => 0))), (q7, .inl (cI, 240, .inl (fun _ => 0))), (q8, .inl (cI, 10240, .inl (fun _ => 0))), (q9, .inl (cI, 1024, .inl (fun _ => 0))), (q10, .inl (cI, 10, .inl (fun _ => 0)))] H := hP
  have hD : va_D A [(h0, .inr (2, [.ref q1, .ref q2, .ref q3, .ref q4, .ref q5, .ref q6, .ref q7, .ref q8, .ref q9, .ref q10, .null, .null, .int 0, .int 0, .int 0, .int 0])), (q1, .inl (cI, 10, .inl (fun _ => 0))), (q2, .inl (cI, 10, .inl (fun _ => 0))), (q3, .inl (cI, 10, .inl (fun _ => 0))), (q4, .inl (cI, 10, .inl (fun _ => 0))), (q5, .inl (cI, 121, .inl (fun _ => 0))), (q6, .inl (cI, 240, .inl (fun _ => 0))), (q7, .inl (cI, 240, .inl (fun _ => 0))), (q8, .inl (cI, 10240, .inl (fun _ => 0))), (q9, .inl (cI, 1024, .inl (fun _ => 0))), (q10, .inl (cI, 10, .inl (fun _ => 0)))] := hD
  refine lv_aload_n hx hb dX2_init_88 rfl (lv_at hl 0 rfl) ?_
  refine lv_bipush (v := 10) hx hb dX2_init_89 (by decide) ?_
  refine my_newi hx hb (hts (.arrayClass .int) (by decide +kernel)) hK hP hD hS hA (N' := 10) (by decide) (by decide) (by decide) (Nat.le_of_ble_eq_true rfl) (Nat.le_of_ble_eq_true rfl) dX2_init_91 (fun q11 H hP hD hS => ?_)
  have hP : va_P D vwCl [(h0, .inr (2, [.ref q1, .ref q2, .ref q3, .ref q4, .ref q5, .ref q6, .ref q7, .ref q8, .ref q9, .ref q10, .null, .null, .int 0, .int 0, .int 0, .int 0])), (q1, .inl (cI, 10, .inl (fun _ => 0))), (q2, .inl (cI, 10, .inl (fun _ => 0))), (q3, .inl (cI, 10, .inl (fun _ => 0))), (q4, .inl (cI, 10, .inl (fun _ => 0))), (q5, .inl (cI, 121, .inl (fun _ => 0))), (q6, .inl (cI, 240, .inl (fun _ => 0))), (q7, .inl (cI, 240, .inl (fun _ => 0))), (q8, .inl (cI, 10240, .inl (fun _ => 0))), (q9, .inl (cI, 1024, .inl (fun _ => 0))), (q10, .inl (cI, 10, .inl (fun _ => 0))), (q11, .inl (cI, 10, .inl (fun _ => 0)))] H := hP
  have hD : va_D A [(h0, .inr (2, [.ref q1, .ref q2, .ref q3, .ref q4, .ref q5, .ref q6, .ref q7, .ref q8, .ref q9, .ref q10, .null, .null, .int 0, .int 0, .int 0, .int 0])), (q1, .inl (cI, 10, .inl (fun _ => 0))), (q2, .inl (cI, 10, .inl (fun _ => 0))), (q3, .inl (cI, 10, .inl (fun _ => 0))), (q4, .inl (cI, 10, .inl (fun _ => 0))), (q5, .inl (cI, 121, .inl (fun _ => 0))), (q6, .inl (cI, 240, .inl (fun _ => 0))), (q7, .inl (cI, 240, .inl (fun _ => 0))), (q8, .inl (cI, 10240, .inl (fun _ => 0))), (q9, .inl (cI, 1024, .inl (fun _ => 0))), (q10, .inl (cI, 10, .inl (fun _ => 0))), (q11, .inl (cI, 10, .inl (fun _ => 0)))] := hD
  refine W.widen (k := 11) (n := 11925) (by decide) (by decide) ?_
  refine va_putF (D := D) (ci := 2) (v := .ref q11) (ty := (tyX2 10)) (C := RX2) (T := TX2) (N := 16) hx hb hts (fun _ h9 => List.mem_cons_of_mem _ (List.mem_append_right _ h9)) tyX2 tyX2_ok nmX2 hown hK hP hD hS 0 rfl rfl 10 (by decide) (hts (.fieldLink RX2 42 "BuoyTender$Planner" "order" "[I") (by decide +kernel)) (fun _ h9 => h9) rfl hin rfl (by decide +kernel) rfl rfl (Nat.le_of_ble_eq_true rfl) dX2_init_93 (fun H locs hP hD hS => ?_)
  have hP : va_P D vwCl [(h0, .inr (2, [.ref q1, .ref q2, .ref q3, .ref q4, .ref q5, .ref q6, .ref q7, .ref q8, .ref q9, .ref q10, .ref q11, .null, .int 0, .int 0, .int 0, .int 0])), (q1, .inl (cI, 10, .inl (fun _ => 0))), (q2, .inl (cI, 10, .inl (fun _ => 0))), (q3, .inl (cI, 10, .inl (fun _ => 0))), (q4, .inl (cI, 10, .inl (fun _ => 0))), (q5, .inl (cI, 121, .inl (fun _ => 0))), (q6, .inl (cI, 240, .inl (fun _ => 0))), (q7, .inl (cI, 240, .inl (fun _ => 0))), (q8, .inl (cI, 10240, .inl (fun _ => 0))), (q9, .inl (cI, 1024, .inl (fun _ => 0))), (q10, .inl (cI, 10, .inl (fun _ => 0))), (q11, .inl (cI, 10, .inl (fun _ => 0)))] H := hP
  have hD : va_D A [(h0, .inr (2, [.ref q1, .ref q2, .ref q3, .ref q4, .ref q5, .ref q6, .ref q7, .ref q8, .ref q9, .ref q10, .ref q11, .null, .int 0, .int 0, .int 0, .int 0])), (q1, .inl (cI, 10, .inl (fun _ => 0))), (q2, .inl (cI, 10, .inl (fun _ => 0))), (q3, .inl (cI, 10, .inl (fun _ => 0))), (q4, .inl (cI, 10, .inl (fun _ => 0))), (q5, .inl (cI, 121, .inl (fun _ => 0))), (q6, .inl (cI, 240, .inl (fun _ => 0))), (q7, .inl (cI, 240, .inl (fun _ => 0))), (q8, .inl (cI, 10240, .inl (fun _ => 0))), (q9, .inl (cI, 1024, .inl (fun _ => 0))), (q10, .inl (cI, 10, .inl (fun _ => 0))), (q11, .inl (cI, 10, .inl (fun _ => 0)))] := hD
  refine lv_aload_n hx hb dX2_init_96 rfl (lv_at hl 0 rfl) ?_
  refine lv_bipush (v := 10) hx hb dX2_init_97 (by decide) ?_
  refine my_newi hx hb (hts (.arrayClass .int) (by decide +kernel)) hK hP hD hS hA (N' := 10) (by decide) (by decide) (by decide) (Nat.le_of_ble_eq_true rfl) (Nat.le_of_ble_eq_true rfl) dX2_init_99 (fun q12 H hP hD hS => ?_)
  have hP : va_P D vwCl [(h0, .inr (2, [.ref q1, .ref q2, .ref q3, .ref q4, .ref q5, .ref q6, .ref q7, .ref q8, .ref q9, .ref q10, .ref q11, .null, .int 0, .int 0, .int 0, .int 0])), (q1, .inl (cI, 10, .inl (fun _ => 0))), (q2, .inl (cI, 10, .inl (fun _ => 0))), (q3, .inl (cI, 10, .inl (fun _ => 0))), (q4, .inl (cI, 10, .inl (fun _ => 0))), (q5, .inl (cI, 121, .inl (fun _ => 0))), (q6, .inl (cI, 240, .inl (fun _ => 0))), (q7, .inl (cI, 240, .inl (fun _ => 0))), (q8, .inl (cI, 10240, .inl (fun _ => 0))), (q9, .inl (cI, 1024, .inl (fun _ => 0))), (q10, .inl (cI, 10, .inl (fun _ => 0))), (q11, .inl (cI, 10, .inl (fun _ => 0))), (q12, .inl (cI, 10, .inl (fun _ => 0)))] H := hP
  have hD : va_D A [(h0, .inr (2, [.ref q1, .ref q2, .ref q3, .ref q4, .ref q5, .ref q6, .ref q7, .ref q8, .ref q9, .ref q10, .ref q11, .null, .int 0, .int 0, .int 0, .int 0])), (q1, .inl (cI, 10, .inl (fun _ => 0))), (q2, .inl (cI, 10, .inl (fun _ => 0))), (q3, .inl (cI, 10, .inl (fun _ => 0))), (q4, .inl (cI, 10, .inl (fun _ => 0))), (q5, .inl (cI, 121, .inl (fun _ => 0))), (q6, .inl (cI, 240, .inl (fun _ => 0))), (q7, .inl (cI, 240, .inl (fun _ => 0))), (q8, .inl (cI, 10240, .inl (fun _ => 0))), (q9, .inl (cI, 1024, .inl (fun _ => 0))), (q10, .inl (cI, 10, .inl (fun _ => 0))), (q11, .inl (cI, 10, .inl (fun _ => 0))), (q12, .inl (cI, 10, .inl (fun _ => 0)))] := hD
  refine W.widen (k := 12) (n := 11935) (by decide) (by decide) ?_
  refine va_putF (D := D) (ci := 2) (v := .ref q12) (ty := (tyX2 11)) (C := RX2) (T := TX2) (N := 16) hx hb hts (fun _ h9 => List.mem_cons_of_mem _ (List.mem_append_right _ h9)) tyX2 tyX2_ok nmX2 hown hK hP hD hS 0 rfl rfl 11 (by decide) (hts (.fieldLink RX2 45 "BuoyTender$Planner" "begins" "[I") (by decide +kernel)) (fun _ h9 => h9) rfl hin rfl (by decide +kernel) rfl rfl (Nat.le_of_ble_eq_true rfl) dX2_init_101 (fun H locs hP hD hS => ?_)
  have hP : va_P D vwCl [(h0, .inr (2, [.ref q1, .ref q2, .ref q3, .ref q4, .ref q5, .ref q6, .ref q7, .ref q8, .ref q9, .ref q10, .ref q11, .ref q12, .int 0, .int 0, .int 0, .int 0])), (q1, .inl (cI, 10, .inl (fun _ => 0))), (q2, .inl (cI, 10, .inl (fun _ => 0))), (q3, .inl (cI, 10, .inl (fun _ => 0))), (q4, .inl (cI, 10, .inl (fun _ => 0))), (q5, .inl (cI, 121, .inl (fun _ => 0))), (q6, .inl (cI, 240, .inl (fun _ => 0))), (q7, .inl (cI, 240, .inl (fun _ => 0))), (q8, .inl (cI, 10240, .inl (fun _ => 0))), (q9, .inl (cI, 1024, .inl (fun _ => 0))), (q10, .inl (cI, 10, .inl (fun _ => 0))), (q11, .inl (cI, 10, .inl (fun _ => 0))), (q12, .inl (cI, 10, .inl (fun _ => 0)))] H := hP
  have hD : va_D A [(h0, .inr (2, [.ref q1, .ref q2, .ref q3, .ref q4, .ref q5, .ref q6, .ref q7, .ref q8, .ref q9, .ref q10, .ref q11, .ref q12, .int 0, .int 0, .int 0, .int 0])), (q1, .inl (cI, 10, .inl (fun _ => 0))), (q2, .inl (cI, 10, .inl (fun _ => 0))), (q3, .inl (cI, 10, .inl (fun _ => 0))), (q4, .inl (cI, 10, .inl (fun _ => 0))), (q5, .inl (cI, 121, .inl (fun _ => 0))), (q6, .inl (cI, 240, .inl (fun _ => 0))), (q7, .inl (cI, 240, .inl (fun _ => 0))), (q8, .inl (cI, 10240, .inl (fun _ => 0))), (q9, .inl (cI, 1024, .inl (fun _ => 0))), (q10, .inl (cI, 10, .inl (fun _ => 0))), (q11, .inl (cI, 10, .inl (fun _ => 0))), (q12, .inl (cI, 10, .inl (fun _ => 0)))] := hD
  have hP9 := hP.sub (ws' := [(h0, .inr (2, [.ref q1, .ref q2, .ref q3, .ref q4, .ref q5, .ref q6, .ref q7, .ref q8, .ref q9, .ref q10, .ref q11, .ref q12, .int 0, .int 0, .int 0, .int 0])), (q1, .inl (cI, 10, .inl (fun _ => 0))), (q2, .inl (cI, 10, .inl (fun _ => 0))), (q3, .inl (cI, 10, .inl (fun _ => 0))), (q4, .inl (cI, 10, .inl (fun _ => 0))), (q5, .inl (cI, 121, .inl (fun _ => 0))), (q6, .inl (cI, 240, .inl (fun _ => 0))), (q7, .inl (cI, 240, .inl (fun _ => 0))), (q8, .inl (cI, 10240, .inl (fun _ => 0))), (q9, .inl (cI, 1024, .inl (fun _ => 0))), (q10, .inl (cI, 10, .inl (fun _ => 0))), (q11, .inl (cI, 10, .inl (fun _ => 0))), (q12, .inl (cI, 10, .inl (fun _ => 0)))]) [0, 1, 2, 3, 4, 5, 6, 7, 8, 9, 10, 11, 12] rfl
  have hD9 := hD.sub (ws' := [(h0, .inr (2, [.ref q1, .ref q2, .ref q3, .ref q4, .ref q5, .ref q6, .ref q7, .ref q8, .ref q9, .ref q10, .ref q11, .ref q12, .int 0, .int 0, .int 0, .int 0])), (q1, .inl (cI, 10, .inl (fun _ => 0))), (q2, .inl (cI, 10, .inl (fun _ => 0))), (q3, .inl (cI, 10, .inl (fun _ => 0))), (q4, .inl (cI, 10, .inl (fun _ => 0))), (q5, .inl (cI, 121, .inl (fun _ => 0))), (q6, .inl (cI, 240, .inl (fun _ => 0))), (q7, .inl (cI, 240, .inl (fun _ => 0))), (q8, .inl (cI, 10240, .inl (fun _ => 0))), (q9, .inl (cI, 1024, .inl (fun _ => 0))), (q10, .inl (cI, 10, .inl (fun _ => 0))), (q11, .inl (cI, 10, .inl (fun _ => 0))), (q12, .inl (cI, 10, .inl (fun _ => 0)))]) [0, 1, 2, 3, 4, 5, 6, 7, 8, 9, 10, 11, 12] (by decide) rfl
  exact W.vret hx hb hr (fun t ht hW => ⟨⟨(fun k => ([0, q1, q2, q3, q4, q5, q6, q7, q8, q9, q10, q11, q12] : List Nat).getD k 0), rfl, trivial, ⟨by rw [ht]; exact hP9, hD9⟩⟩, hS.F ht⟩) hS.2.2 dX2_init_104
set_option maxHeartbeats 4000000 in
set_option maxRecDepth 100000 in
/-- no job -/
theorem k_X2_gather (l : Launch) (D : va_G) (cI cJ cZ cM : Nat) (p0 : Nat) (b : Nat → Nat) (m0 : Nat) (d0 : Nat) (s0 : Nat) (sz : Nat) : Met l yX2_gather wsX2_gather ({ frames := 0, cells := 0, slots := 0, locals := 0 } : Room) (RW D cI cJ cZ cM [.ref p0, .ref m0, .ref d0, .ref s0] [(p0, .inr (2, [.ref (b 1), .ref (b 2), .ref (b 3), .ref (b 4), .ref (b 5), .ref (b 6), .ref (b 7), .ref (b 8), .ref (b 9), .ref (b 10), .ref (b 11), .ref (b 12), .int 0, .int 0, .int 0, .int 0])), (m0, .inl (cM, 10, .inr (.inr (.inr (.inr (fun _ => none))))))] sz) (va_Qv (S := Unit) (fun u => True) (BB D (fun _ => [(p0, .inr (2, [.ref (b 1), .ref (b 2), .ref (b 3), .ref (b 4), .ref (b 5), .ref (b 6), .ref (b 7), .ref (b 8), .ref (b 9), .ref (b 10), .ref (b 11), .ref (b 12), .int 0, .int 0, .int 0, .int 0])), (m0, .inl (cM, 10, .inr (.inr (.inr (.inr (fun _ => none))))))]) (va_A [(p0, .inr (2, [.ref (b 1), .ref (b 2), .ref (b 3), .ref (b 4), .ref (b 5), .ref (b 6), .ref (b 7), .ref (b 8), .ref (b 9), .ref (b 10), .ref (b 11), .ref (b 12), .int 0, .int 0, .int 0, .int 0])), (m0, .inl (cM, 10, .inr (.inr (.inr (.inr (fun _ => none))))))] sz)) (va_A [(p0, .inr (2, [.ref (b 1), .ref (b 2), .ref (b 3), .ref (b 4), .ref (b 5), .ref (b 6), .ref (b 7), .ref (b 8), .ref (b 9), .ref (b 10), .ref (b 11), .ref (b 12), .int 0, .int 0, .int 0, .int 0])), (m0, .inl (cM, 10, .inr (.inr (.inr (.inr (fun _ => none))))))] sz)) 0 0 (va_A [(p0, .inr (2, [.ref (b 1), .ref (b 2), .ref (b 3), .ref (b 4), .ref (b 5), .ref (b 6), .ref (b 7), .ref (b 8), .ref (b 9), .ref (b 10), .ref (b 11), .ref (b 12), .int 0, .int 0, .int 0, .int 0])), (m0, .inl (cM, 10, .inr (.inr (.inr (.inr (fun _ => none))))))] sz) := by
  refine Met.ofW (cc := cX2_gather) (maxL := 7) (ret := none) (by decide) rfl ?_
  intro p e s m args below meth c s₁ B hml hv
  obtain ⟨rfl, hsz, hG, hP, hD0⟩ := hv
  have hx := B.exec
  have hb := B.bytes
  have hr := B.returns
  have hts := atoms_spec (ws := wsX2_gather) B.pre
  have hown : s.vm.findClass RX2 = some m.cls := findClass_of_methodNamed B.named
  have hlocks := B.notSynchronized
  have hK := hG.1
  have hN := hG.2
  subst hsz
  have hD := hD0.self (sz := s.heap.size)
  generalize hAe : va_A [(p0, .inr (2, [.ref (b 1), .ref (b 2), .ref (b 3), .ref (b 4), .ref (b 5), .ref (b 6), .ref (b 7), .ref (b 8), .ref (b 9), .ref (b 10), .ref (b 11), .ref (b 12), .int 0, .int 0, .int 0, .int 0])), (m0, .inl (cM, 10, .inr (.inr (.inr (.inr (fun _ => none))))))] s.heap.size = A at hD ⊢
  have hA : ∀ q : Nat, s.heap.size ≤ q → A q := fun q h => by rw [← hAe]; exact Or.inr h
  have hS : va_S A s.heap s.heap [] := va_S.rf
  have hP : va_P D vwCl [(p0, .inr (2, [.ref (b 1), .ref (b 2), .ref (b 3), .ref (b 4), .ref (b 5), .ref (b 6), .ref (b 7), .ref (b 8), .ref (b 9), .ref (b 10), .ref (b 11), .ref (b 12), .int 0, .int 0, .int 0, .int 0])), (m0, .inl (cM, 10, .inr (.inr (.inr (.inr (fun _ => none))))))] s.heap := hP
  have hl := lv_entry ([.ref p0, .ref m0, .ref d0, .ref s0]) (n := 7) (Nat.le_of_ble_eq_true rfl)
  rw [lg_entry_eq]
  generalize (lg_sl ([.ref p0, .ref m0, .ref d0, .ref s0]) ++ List.replicate (7 - (lg_sl ([.ref p0, .ref m0, .ref d0, .ref s0])).length) Slot.unset).toArray = ls at hl ⊢
  have hl : lv_has ls 7 [(0, .ref p0), (1, .ref m0), (2, .ref d0), (3, .ref s0)] := hl
  refine lv_aload_n hx hb dX2_gather_0 rfl (lv_at hl 0 rfl) ?_
  refine lv_iconst (v := 0) hx hb dX2_gather_1 (by decide) ?_
  refine va_put (D := D) (ci := 2) (v := .int 0) (ty := (tyX2 12)) (C := RX2) (T := TX2) (N := 16) hx hb hts (fun _ h9 => List.mem_cons_of_mem _ (List.mem_append_left _ (List.mem_append_left _ (List.mem_append_right _ h9)))) tyX2 tyX2_ok nmX2 hown hK hP hD hS 0 rfl rfl 12 (by decide) (hts (.fieldLink RX2 76 "BuoyTender$Planner" "count" "I") (by decide +kernel)) (fun _ h9 => h9) rfl (by decide +kernel) rfl rfl (Nat.le_of_ble_eq_true rfl) dX2_gather_2 (fun H locs hP hD hS => ?_)
  have hP : va_P D vwCl [(p0, .inr (2, [.ref (b 1), .ref (b 2), .ref (b 3), .ref (b 4), .ref (b 5), .ref (b 6), .ref (b 7), .ref (b 8), .ref (b 9), .ref (b 10), .ref (b 11), .ref (b 12), .int 0, .int 0, .int 0, .int 0])), (m0, .inl (cM, 10, .inr (.inr (.inr (.inr (fun _ => none))))))] H := hP
  have hD : va_D A [(p0, .inr (2, [.ref (b 1), .ref (b 2), .ref (b 3), .ref (b 4), .ref (b 5), .ref (b 6), .ref (b 7), .ref (b 8), .ref (b 9), .ref (b 10), .ref (b 11), .ref (b 12), .int 0, .int 0, .int 0, .int 0])), (m0, .inl (cM, 10, .inr (.inr (.inr (.inr (fun _ => none))))))] := hD
  refine lv_iconst (v := 0) hx hb dX2_gather_5 (by decide) ?_
  refine lv_istore (lv' := [(4, .int 0), (0, .ref p0), (1, .ref m0), (2, .ref d0), (3, .ref s0)]) hx hb dX2_gather_6 hl (by decide) rfl (fun ls hl => ?_)
  refine lv_iload hx hb dX2_gather_8 (lv_at hl 0 rfl) ?_
  refine lv_bipush (v := 10) hx hb dX2_gather_10 (by decide) ?_
  refine lv_icmp_ge (tgt := 155) hx hb dX2_gather_12 (by decide) (fun c_1 => False.elim (by revert c_1; decide)) (fun _ => ?_)
  refine lv_iload hx hb dX2_gather_15 (lv_at hl 0 rfl) ?_
  refine lv_aload_n hx hb dX2_gather_17 rfl (lv_at hl 2 rfl) ?_
  refine va_alen (v := 10) hx hb hK hP 1 3 rfl rfl rfl dX2_gather_18 ?_
  refine lv_icmp_ge (tgt := 155) hx hb dX2_gather_19 (by decide) (fun c_2 => False.elim (by revert c_2; decide)) (fun _ => ?_)
  refine lv_aload_n hx hb dX2_gather_22 rfl (lv_at hl 2 rfl) ?_
  refine lv_iload hx hb dX2_gather_23 (lv_at hl 0 rfl) ?_
  refine va_aldq hx hb hK hP 1 3 rfl rfl (vp_in_nI (n := 0) (N := 10) (by decide) (by decide)) dX2_gather_25 ?_
  refine W.eq (g2 := F0 m 26 ls [.null]) rfl ?_
  refine lv_astoreN (lv' := [(5, .null), (4, .int 0), (0, .ref p0), (1, .ref m0), (2, .ref d0), (3, .ref s0)]) hx hb dX2_gather_26 hl (by decide) rfl (fun ls hl => ?_)
  refine lv_aloadN hx hb dX2_gather_28 (lv_at hl 0 rfl) ?_
  refine lv_ifnullN (tgt := 149) hx hb dX2_gather_30 (by decide) ?_
  refine lv_iinc (v := 1) (lv' := [(4, .int 1), (5, .null), (0, .ref p0), (1, .ref m0), (2, .ref d0), (3, .ref s0)]) hx hb dX2_gather_149 hl (k := 1) rfl (by decide) (by decide) rfl (fun ls hl => ?_)
  refine lv_goto (tgt := 8) hx hb dX2_gather_152 (by decide) ?_
  refine lv_iload hx hb dX2_gather_8 (lv_at hl 0 rfl) ?_
  refine lv_bipush (v := 10) hx hb dX2_gather_10 (by decide) ?_
  refine lv_icmp_ge (tgt := 155) hx hb dX2_gather_12 (by decide) (fun c_3 => False.elim (by revert c_3; decide)) (fun _ => ?_)
  refine lv_iload hx hb dX2_gather_15 (lv_at hl 0 rfl) ?_
  refine lv_aload_n hx hb dX2_gather_17 rfl (lv_at hl 3 rfl) ?_
  refine va_alen (v := 10) hx hb hK hP 1 3 rfl rfl rfl dX2_gather_18 ?_
  refine lv_icmp_ge (tgt := 155) hx hb dX2_gather_19 (by decide) (fun c_4 => False.elim (by revert c_4; decide)) (fun _ => ?_)
  refine lv_aload_n hx hb dX2_gather_22 rfl (lv_at hl 3 rfl) ?_
  refine lv_iload hx hb dX2_gather_23 (lv_at hl 0 rfl) ?_
  refine va_aldq hx hb hK hP 1 3 rfl rfl (vp_in_nI (n := 1) (N := 10) (by decide) (by decide)) dX2_gather_25 ?_
  refine W.eq (g2 := F0 m 26 ls [.null]) rfl ?_
  refine lv_astoreN (lv' := [(5, .null), (4, .int 1), (0, .ref p0), (1, .ref m0), (2, .ref d0), (3, .ref s0)]) hx hb dX2_gather_26 hl (by decide) rfl (fun ls hl => ?_)
  refine lv_aloadN hx hb dX2_gather_28 (lv_at hl 0 rfl) ?_
  refine lv_ifnullN (tgt := 149) hx hb dX2_gather_30 (by decide) ?_
  refine lv_iinc (v := 2) (lv' := [(4, .int 2), (5, .null), (0, .ref p0), (1, .ref m0), (2, .ref d0), (3, .ref s0)]) hx hb dX2_gather_149 hl (k := 1) rfl (by decide) (by decide) rfl (fun ls hl => ?_)
  refine lv_goto (tgt := 8) hx hb dX2_gather_152 (by decide) ?_
  refine lv_iload hx hb dX2_gather_8 (lv_at hl 0 rfl) ?_
  refine lv_bipush (v := 10) hx hb dX2_gather_10 (by decide) ?_
  refine lv_icmp_ge (tgt := 155) hx hb dX2_gather_12 (by decide) (fun c_5 => False.elim (by revert c_5; decide)) (fun _ => ?_)
  refine lv_iload hx hb dX2_gather_15 (lv_at hl 0 rfl) ?_
  refine lv_aload_n hx hb dX2_gather_17 rfl (lv_at hl 3 rfl) ?_
  refine va_alen (v := 10) hx hb hK hP 1 3 rfl rfl rfl dX2_gather_18 ?_
  refine lv_icmp_ge (tgt := 155) hx hb dX2_gather_19 (by decide) (fun c_6 => False.elim (by revert c_6; decide)) (fun _ => ?_)
  refine lv_aload_n hx hb dX2_gather_22 rfl (lv_at hl 3 rfl) ?_
  refine lv_iload hx hb dX2_gather_23 (lv_at hl 0 rfl) ?_
  refine va_aldq hx hb hK hP 1 3 rfl rfl (vp_in_nI (n := 2) (N := 10) (by decide) (by decide)) dX2_gather_25 ?_
  refine W.eq (g2 := F0 m 26 ls [.null]) rfl ?_
  refine lv_astoreN (lv' := [(5, .null), (4, .int 2), (0, .ref p0), (1, .ref m0), (2, .ref d0), (3, .ref s0)]) hx hb dX2_gather_26 hl (by decide) rfl (fun ls hl => ?_)
  refine lv_aloadN hx hb dX2_gather_28 (lv_at hl 0 rfl) ?_
  refine lv_ifnullN (tgt := 149) hx hb dX2_gather_30 (by decide) ?_
  refine lv_iinc (v := 3) (lv' := [(4, .int 3), (5, .null), (0, .ref p0), (1, .ref m0), (2, .ref d0), (3, .ref s0)]) hx hb dX2_gather_149 hl (k := 1) rfl (by decide) (by decide) rfl (fun ls hl => ?_)
  refine lv_goto (tgt := 8) hx hb dX2_gather_152 (by decide) ?_
  refine lv_iload hx hb dX2_gather_8 (lv_at hl 0 rfl) ?_
  refine lv_bipush (v := 10) hx hb dX2_gather_10 (by decide) ?_
  refine lv_icmp_ge (tgt := 155) hx hb dX2_gather_12 (by decide) (fun c_7 => False.elim (by revert c_7; decide)) (fun _ => ?_)
  refine lv_iload hx hb dX2_gather_15 (lv_at hl 0 rfl) ?_
  refine lv_aload_n hx hb dX2_gather_17 rfl (lv_at hl 3 rfl) ?_
  refine va_alen (v := 10) hx hb hK hP 1 3 rfl rfl rfl dX2_gather_18 ?_
  refine lv_icmp_ge (tgt := 155) hx hb dX2_gather_19 (by decide) (fun c_8 => False.elim (by revert c_8; decide)) (fun _ => ?_)
  refine lv_aload_n hx hb dX2_gather_22 rfl (lv_at hl 3 rfl) ?_
  refine lv_iload hx hb dX2_gather_23 (lv_at hl 0 rfl) ?_
  refine va_aldq hx hb hK hP 1 3 rfl rfl (vp_in_nI (n := 3) (N := 10) (by decide) (by decide)) dX2_gather_25 ?_
  refine W.eq (g2 := F0 m 26 ls [.null]) rfl ?_
  refine lv_astoreN (lv' := [(5, .null), (4, .int 3), (0, .ref p0), (1, .ref m0), (2, .ref d0), (3, .ref s0)]) hx hb dX2_gather_26 hl (by decide) rfl (fun ls hl => ?_)
  refine lv_aloadN hx hb dX2_gather_28 (lv_at hl 0 rfl) ?_
  refine lv_ifnullN (tgt := 149) hx hb dX2_gather_30 (by decide) ?_
  refine lv_iinc (v := 4) (lv' := [(4, .int 4), (5, .null), (0, .ref p0), (1, .ref m0), (2, .ref d0), (3, .ref s0)]) hx hb dX2_gather_149 hl (k := 1) rfl (by decide) (by decide) rfl (fun ls hl => ?_)
  refine lv_goto (tgt := 8) hx hb dX2_gather_152 (by decide) ?_
  refine lv_iload hx hb dX2_gather_8 (lv_at hl 0 rfl) ?_
  refine lv_bipush (v := 10) hx hb dX2_gather_10 (by decide) ?_
  refine lv_icmp_ge (tgt := 155) hx hb dX2_gather_12 (by decide) (fun c_9 => False.elim (by revert c_9; decide)) (fun _ => ?_)
  refine lv_iload hx hb dX2_gather_15 (lv_at hl 0 rfl) ?_
  refine lv_aload_n hx hb dX2_gather_17 rfl (lv_at hl 3 rfl) ?_
  refine va_alen (v := 10) hx hb hK hP 1 3 rfl rfl rfl dX2_gather_18 ?_
  refine lv_icmp_ge (tgt := 155) hx hb dX2_gather_19 (by decide) (fun c_10 => False.elim (by revert c_10; decide)) (fun _ => ?_)
  refine lv_aload_n hx hb dX2_gather_22 rfl (lv_at hl 3 rfl) ?_
  refine lv_iload hx hb dX2_gather_23 (lv_at hl 0 rfl) ?_
  refine va_aldq hx hb hK hP 1 3 rfl rfl (vp_in_nI (n := 4) (N := 10) (by decide) (by decide)) dX2_gather_25 ?_
  refine W.eq (g2 := F0 m 26 ls [.null]) rfl ?_
  refine lv_astoreN (lv' := [(5, .null), (4, .int 4), (0, .ref p0), (1, .ref m0), (2, .ref d0), (3, .ref s0)]) hx hb dX2_gather_26 hl (by decide) rfl (fun ls hl => ?_)
  refine lv_aloadN hx hb dX2_gather_28 (lv_at hl 0 rfl) ?_
  refine lv_ifnullN (tgt := 149) hx hb dX2_gather_30 (by decide) ?_
  refine lv_iinc (v := 5) (lv' := [(4, .int 5), (5, .null), (0, .ref p0), (1, .ref m0), (2, .ref d0), (3, .ref s0)]) hx hb dX2_gather_149 hl (k := 1) rfl (by decide) (by decide) rfl (fun ls hl => ?_)
  refine lv_goto (tgt := 8) hx hb dX2_gather_152 (by decide) ?_
  refine lv_iload hx hb dX2_gather_8 (lv_at hl 0 rfl) ?_
  refine lv_bipush (v := 10) hx hb dX2_gather_10 (by decide) ?_
  refine lv_icmp_ge (tgt := 155) hx hb dX2_gather_12 (by decide) (fun c_11 => False.elim (by revert c_11; decide)) (fun _ => ?_)
  refine lv_iload hx hb dX2_gather_15 (lv_at hl 0 rfl) ?_
  refine lv_aload_n hx hb dX2_gather_17 rfl (lv_at hl 3 rfl) ?_
  refine va_alen (v := 10) hx hb hK hP 1 3 rfl rfl rfl dX2_gather_18 ?_
  refine lv_icmp_ge (tgt := 155) hx hb dX2_gather_19 (by decide) (fun c_12 => False.elim (by revert c_12; decide)) (fun _ => ?_)
  refine lv_aload_n hx hb dX2_gather_22 rfl (lv_at hl 3 rfl) ?_
  refine lv_iload hx hb dX2_gather_23 (lv_at hl 0 rfl) ?_
  refine va_aldq hx hb hK hP 1 3 rfl rfl (vp_in_nI (n := 5) (N := 10) (by decide) (by decide)) dX2_gather_25 ?_
  refine W.eq (g2 := F0 m 26 ls [.null]) rfl ?_
  refine lv_astoreN (lv' := [(5, .null), (4, .int 5), (0, .ref p0), (1, .ref m0), (2, .ref d0), (3, .ref s0)]) hx hb dX2_gather_26 hl (by decide) rfl (fun ls hl => ?_)
  refine lv_aloadN hx hb dX2_gather_28 (lv_at hl 0 rfl) ?_
  refine lv_ifnullN (tgt := 149) hx hb dX2_gather_30 (by decide) ?_
  refine lv_iinc (v := 6) (lv' := [(4, .int 6), (5, .null), (0, .ref p0), (1, .ref m0), (2, .ref d0), (3, .ref s0)]) hx hb dX2_gather_149 hl (k := 1) rfl (by decide) (by decide) rfl (fun ls hl => ?_)
  refine lv_goto (tgt := 8) hx hb dX2_gather_152 (by decide) ?_
  refine lv_iload hx hb dX2_gather_8 (lv_at hl 0 rfl) ?_
  refine lv_bipush (v := 10) hx hb dX2_gather_10 (by decide) ?_
  refine lv_icmp_ge (tgt := 155) hx hb dX2_gather_12 (by decide) (fun c_13 => False.elim (by revert c_13; decide)) (fun _ => ?_)
  refine lv_iload hx hb dX2_gather_15 (lv_at hl 0 rfl) ?_
  refine lv_aload_n hx hb dX2_gather_17 rfl (lv_at hl 3 rfl) ?_
  refine va_alen (v := 10) hx hb hK hP 1 3 rfl rfl rfl dX2_gather_18 ?_
  refine lv_icmp_ge (tgt := 155) hx hb dX2_gather_19 (by decide) (fun c_14 => False.elim (by revert c_14; decide)) (fun _ => ?_)
  refine lv_aload_n hx hb dX2_gather_22 rfl (lv_at hl 3 rfl) ?_
  refine lv_iload hx hb dX2_gather_23 (lv_at hl 0 rfl) ?_
  refine va_aldq hx hb hK hP 1 3 rfl rfl (vp_in_nI (n := 6) (N := 10) (by decide) (by decide)) dX2_gather_25 ?_
  refine W.eq (g2 := F0 m 26 ls [.null]) rfl ?_
  refine lv_astoreN (lv' := [(5, .null), (4, .int 6), (0, .ref p0), (1, .ref m0), (2, .ref d0), (3, .ref s0)]) hx hb dX2_gather_26 hl (by decide) rfl (fun ls hl => ?_)
  refine lv_aloadN hx hb dX2_gather_28 (lv_at hl 0 rfl) ?_
  refine lv_ifnullN (tgt := 149) hx hb dX2_gather_30 (by decide) ?_
  refine lv_iinc (v := 7) (lv' := [(4, .int 7), (5, .null), (0, .ref p0), (1, .ref m0), (2, .ref d0), (3, .ref s0)]) hx hb dX2_gather_149 hl (k := 1) rfl (by decide) (by decide) rfl (fun ls hl => ?_)
  refine lv_goto (tgt := 8) hx hb dX2_gather_152 (by decide) ?_
  refine lv_iload hx hb dX2_gather_8 (lv_at hl 0 rfl) ?_
  refine lv_bipush (v := 10) hx hb dX2_gather_10 (by decide) ?_
  refine lv_icmp_ge (tgt := 155) hx hb dX2_gather_12 (by decide) (fun c_15 => False.elim (by revert c_15; decide)) (fun _ => ?_)
  refine lv_iload hx hb dX2_gather_15 (lv_at hl 0 rfl) ?_
  refine lv_aload_n hx hb dX2_gather_17 rfl (lv_at hl 3 rfl) ?_
  refine va_alen (v := 10) hx hb hK hP 1 3 rfl rfl rfl dX2_gather_18 ?_
  refine lv_icmp_ge (tgt := 155) hx hb dX2_gather_19 (by decide) (fun c_16 => False.elim (by revert c_16; decide)) (fun _ => ?_)
  refine lv_aload_n hx hb dX2_gather_22 rfl (lv_at hl 3 rfl) ?_
  refine lv_iload hx hb dX2_gather_23 (lv_at hl 0 rfl) ?_
  refine va_aldq hx hb hK hP 1 3 rfl rfl (vp_in_nI (n := 7) (N := 10) (by decide) (by decide)) dX2_gather_25 ?_
  refine W.eq (g2 := F0 m 26 ls [.null]) rfl ?_
  refine lv_astoreN (lv' := [(5, .null), (4, .int 7), (0, .ref p0), (1, .ref m0), (2, .ref d0), (3, .ref s0)]) hx hb dX2_gather_26 hl (by decide) rfl (fun ls hl => ?_)
  refine lv_aloadN hx hb dX2_gather_28 (lv_at hl 0 rfl) ?_
  refine lv_ifnullN (tgt := 149) hx hb dX2_gather_30 (by decide) ?_
  refine lv_iinc (v := 8) (lv' := [(4, .int 8), (5, .null), (0, .ref p0), (1, .ref m0), (2, .ref d0), (3, .ref s0)]) hx hb dX2_gather_149 hl (k := 1) rfl (by decide) (by decide) rfl (fun ls hl => ?_)
  refine lv_goto (tgt := 8) hx hb dX2_gather_152 (by decide) ?_
  refine lv_iload hx hb dX2_gather_8 (lv_at hl 0 rfl) ?_
  refine lv_bipush (v := 10) hx hb dX2_gather_10 (by decide) ?_
  refine lv_icmp_ge (tgt := 155) hx hb dX2_gather_12 (by decide) (fun c_17 => False.elim (by revert c_17; decide)) (fun _ => ?_)
  refine lv_iload hx hb dX2_gather_15 (lv_at hl 0 rfl) ?_
  refine lv_aload_n hx hb dX2_gather_17 rfl (lv_at hl 3 rfl) ?_
  refine va_alen (v := 10) hx hb hK hP 1 3 rfl rfl rfl dX2_gather_18 ?_
  refine lv_icmp_ge (tgt := 155) hx hb dX2_gather_19 (by decide) (fun c_18 => False.elim (by revert c_18; decide)) (fun _ => ?_)
  refine lv_aload_n hx hb dX2_gather_22 rfl (lv_at hl 3 rfl) ?_
  refine lv_iload hx hb dX2_gather_23 (lv_at hl 0 rfl) ?_
  refine va_aldq hx hb hK hP 1 3 rfl rfl (vp_in_nI (n := 8) (N := 10) (by decide) (by decide)) dX2_gather_25 ?_
  refine W.eq (g2 := F0 m 26 ls [.null]) rfl ?_
  refine lv_astoreN (lv' := [(5, .null), (4, .int 8), (0, .ref p0), (1, .ref m0), (2, .ref d0), (3, .ref s0)]) hx hb dX2_gather_26 hl (by decide) rfl (fun ls hl => ?_)
  refine lv_aloadN hx hb dX2_gather_28 (lv_at hl 0 rfl) ?_
  refine lv_ifnullN (tgt := 149) hx hb dX2_gather_30 (by decide) ?_
  refine lv_iinc (v := 9) (lv' := [(4, .int 9), (5, .null), (0, .ref p0), (1, .ref m0), (2, .ref d0), (3, .ref s0)]) hx hb dX2_gather_149 hl (k := 1) rfl (by decide) (by decide) rfl (fun ls hl => ?_)
  refine lv_goto (tgt := 8) hx hb dX2_gather_152 (by decide) ?_
  refine lv_iload hx hb dX2_gather_8 (lv_at hl 0 rfl) ?_
  refine lv_bipush (v := 10) hx hb dX2_gather_10 (by decide) ?_
  refine lv_icmp_ge (tgt := 155) hx hb dX2_gather_12 (by decide) (fun c_19 => False.elim (by revert c_19; decide)) (fun _ => ?_)
  refine lv_iload hx hb dX2_gather_15 (lv_at hl 0 rfl) ?_
  refine lv_aload_n hx hb dX2_gather_17 rfl (lv_at hl 3 rfl) ?_
  refine va_alen (v := 10) hx hb hK hP 1 3 rfl rfl rfl dX2_gather_18 ?_
  refine lv_icmp_ge (tgt := 155) hx hb dX2_gather_19 (by decide) (fun c_20 => False.elim (by revert c_20; decide)) (fun _ => ?_)
  refine lv_aload_n hx hb dX2_gather_22 rfl (lv_at hl 3 rfl) ?_
  refine lv_iload hx hb dX2_gather_23 (lv_at hl 0 rfl) ?_
  refine va_aldq hx hb hK hP 1 3 rfl rfl (vp_in_nI (n := 9) (N := 10) (by decide) (by decide)) dX2_gather_25 ?_
  refine W.eq (g2 := F0 m 26 ls [.null]) rfl ?_
  refine lv_astoreN (lv' := [(5, .null), (4, .int 9), (0, .ref p0), (1, .ref m0), (2, .ref d0), (3, .ref s0)]) hx hb dX2_gather_26 hl (by decide) rfl (fun ls hl => ?_)
  refine lv_aloadN hx hb dX2_gather_28 (lv_at hl 0 rfl) ?_
  refine lv_ifnullN (tgt := 149) hx hb dX2_gather_30 (by decide) ?_
  refine lv_iinc (v := 10) (lv' := [(4, .int 10), (5, .null), (0, .ref p0), (1, .ref m0), (2, .ref d0), (3, .ref s0)]) hx hb dX2_gather_149 hl (k := 1) rfl (by decide) (by decide) rfl (fun ls hl => ?_)
  refine lv_goto (tgt := 8) hx hb dX2_gather_152 (by decide) ?_
  refine lv_iload hx hb dX2_gather_8 (lv_at hl 0 rfl) ?_
  refine lv_bipush (v := 10) hx hb dX2_gather_10 (by decide) ?_
  refine lv_icmp_ge (tgt := 155) hx hb dX2_gather_12 (by decide) (fun _ => ?_) (fun c_21 => False.elim (by revert c_21; decide))
  have hP9 := hP.sub (ws' := [(p0, .inr (2, [.ref (b 1), .ref (b 2), .ref (b 3), .ref (b 4), .ref (b 5), .ref (b 6), .ref (b 7), .ref (b 8), .ref (b 9), .ref (b 10), .ref (b 11), .ref (b 12), .int 0, .int 0, .int 0, .int 0])), (m0, .inl (cM, 10, .inr (.inr (.inr (.inr (fun _ => none))))))]) [0, 1] rfl
  have hD9 := hD.sub (ws' := [(p0, .inr (2, [.ref (b 1), .ref (b 2), .ref (b 3), .ref (b 4), .ref (b 5), .ref (b 6), .ref (b 7), .ref (b 8), .ref (b 9), .ref (b 10), .ref (b 11), .ref (b 12), .int 0, .int 0, .int 0, .int 0])), (m0, .inl (cM, 10, .inr (.inr (.inr (.inr (fun _ => none))))))]) [0, 1] (by decide) rfl
  exact W.vret hx hb hr (fun t ht hW => ⟨⟨(), rfl, trivial, ⟨by rw [ht]; exact hP9, hD9⟩⟩, hS.F ht⟩) hS.2.2 dX2_gather_155
set_option maxHeartbeats 4000000 in
set_option maxRecDepth 100000 in
/-- no job -/
theorem k_X2_measure (l : Launch) (D : va_G) (cI cJ cZ cM : Nat) (p0 : Nat) (b : Nat → Nat) (m0 : Nat) (s0 : Nat) : Met l yX2_measure wsX2_measure ({ frames := 0, cells := 0, slots := 0, locals := 0 } : Room) (RO D cI cJ cZ cM [.ref p0, .ref m0, .ref s0] [(p0, .inr (2, [.ref (b 1), .ref (b 2), .ref (b 3), .ref (b 4), .ref (b 5), .ref (b 6), .ref (b 7), .ref (b 8), .ref (b 9), .ref (b 10), .ref (b 11), .ref (b 12), .int 0, .int 0, .int 0, .int 0]))]) (va_Sv (fun _ => True)) 0 0 (fun _ => False) := by
  refine Met.ofW (cc := cX2_measure) (maxL := 7) (ret := none) (by decide) rfl ?_
  intro p e s m args below meth c s₁ B hml hv
  obtain ⟨rfl, hG, hP⟩ := hv
  have hx := B.exec
  have hb := B.bytes
  have hr := B.returns
  have hts := atoms_spec (ws := wsX2_measure) B.pre
  have hown : s.vm.findClass RX2 = some m.cls := findClass_of_methodNamed B.named
  have hlocks := B.notSynchronized
  have hK := hG.1
  have hN := hG.2
  have hl := lv_entry ([.ref p0, .ref m0, .ref s0]) (n := 7) (Nat.le_of_ble_eq_true rfl)
  rw [lg_entry_eq]
  generalize (lg_sl ([.ref p0, .ref m0, .ref s0]) ++ List.replicate (7 - (lg_sl ([.ref p0, .ref m0, .ref s0])).length) Slot.unset).toArray = ls at hl ⊢
  have hl : lv_has ls 7 [(0, .ref p0), (1, .ref m0), (2, .ref s0)] := hl
  refine lv_iconst (v := 0) hx hb dX2_measure_0 (by decide) ?_
  refine lv_istore_n (lv' := [(3, .int 0), (0, .ref p0), (1, .ref m0), (2, .ref s0)]) hx hb dX2_measure_1 rfl hl (by decide) rfl (fun ls hl => ?_)
  refine lv_iload_n hx hb dX2_measure_2 rfl (lv_at hl 0 rfl) ?_
  refine lv_aload_n hx hb dX2_measure_3 rfl (lv_at hl 1 rfl) ?_
  refine va_get (D := D) (ci := 2) (v := .int 0) (C := RX2) (T := TX2) (N := 16) hx hb hts (fun _ h9 => List.mem_cons_of_mem _ (List.mem_append_left _ (List.mem_append_left _ (List.mem_append_right _ h9)))) hown hK hP 0 rfl rfl 12 (by decide) (hts (.fieldLink RX2 76 "BuoyTender$Planner" "count" "I") (by decide +kernel)) (fun _ h9 => h9) rfl dX2_measure_4 ?_
  refine lv_icmp_ge (tgt := 141) hx hb dX2_measure_7 (by decide) (fun _ => ?_) (fun c_1 => False.elim (by revert c_1; decide))
  exact W.vret hx hb hr (fun t ht hW => ⟨rfl, trivial, ht⟩) (fun _ h => by cases h) dX2_measure_141
set_option maxHeartbeats 4000000 in
set_option maxRecDepth 100000 in
/-- back at once -/
theorem k_X2_findEarliestEnds (l : Launch) (D : va_G) (cI cJ cZ cM : Nat) (p0 : Nat) (b : Nat → Nat) (s0 : Nat) (s1 : Nat) (s2 : Nat) (sz : Nat) : Met l yX2_findEarliestEnds wsX2_findEarliestEnds ({ frames := 0, cells := 0, slots := 0, locals := 0 } : Room) (RW D cI cJ cZ cM [.ref p0, .ref s0] [(p0, .inr (2, [.ref (b 1), .ref (b 2), .ref (b 3), .ref (b 4), .ref (b 5), .ref (b 6), .ref (b 7), .ref (b 8), .ref (b 9), .ref (b 10), .ref (b 11), .ref (b 12), .int 0, .int 0, .int 0, .int 0])), (b 9, .inl (cI, 1024, .inl (fun _ => 0))), (s0, .inr (4, [.ref s1, .ref s2, .int 0, .int 0, .int 0, .int 1440, .int 1, .int 0, .int 12, .int 0]))] sz) (va_Qv (S := Nat → Int32) (fun u => u 0 = 0) (BB D (fun u => [(p0, .inr (2, [.ref (b 1), .ref (b 2), .ref (b 3), .ref (b 4), .ref (b 5), .ref (b 6), .ref (b 7), .ref (b 8), .ref (b 9), .ref (b 10), .ref (b 11), .ref (b 12), .int 0, .int 0, .int 0, .int 0])), (b 9, .inl (cI, 1024, .inl u)), (s0, .inr (4, [.ref s1, .ref s2, .int 0, .int 0, .int 0, .int 1440, .int 1, .int 0, .int 12, .int 0]))]) (va_A [(p0, .inr (2, [.ref (b 1), .ref (b 2), .ref (b 3), .ref (b 4), .ref (b 5), .ref (b 6), .ref (b 7), .ref (b 8), .ref (b 9), .ref (b 10), .ref (b 11), .ref (b 12), .int 0, .int 0, .int 0, .int 0])), (b 9, .inl (cI, 1024, .inl (fun _ => 0))), (s0, .inr (4, [.ref s1, .ref s2, .int 0, .int 0, .int 0, .int 1440, .int 1, .int 0, .int 12, .int 0]))] sz)) (va_A [(p0, .inr (2, [.ref (b 1), .ref (b 2), .ref (b 3), .ref (b 4), .ref (b 5), .ref (b 6), .ref (b 7), .ref (b 8), .ref (b 9), .ref (b 10), .ref (b 11), .ref (b 12), .int 0, .int 0, .int 0, .int 0])), (b 9, .inl (cI, 1024, .inl (fun _ => 0))), (s0, .inr (4, [.ref s1, .ref s2, .int 0, .int 0, .int 0, .int 1440, .int 1, .int 0, .int 12, .int 0]))] sz)) 0 0 (va_A [(p0, .inr (2, [.ref (b 1), .ref (b 2), .ref (b 3), .ref (b 4), .ref (b 5), .ref (b 6), .ref (b 7), .ref (b 8), .ref (b 9), .ref (b 10), .ref (b 11), .ref (b 12), .int 0, .int 0, .int 0, .int 0])), (b 9, .inl (cI, 1024, .inl (fun _ => 0))), (s0, .inr (4, [.ref s1, .ref s2, .int 0, .int 0, .int 0, .int 1440, .int 1, .int 0, .int 12, .int 0]))] sz) := by
  refine Met.ofW (cc := cX2_findEarliestEnds) (maxL := 7) (ret := none) (by decide) rfl ?_
  intro p e s m args below meth c s₁ B hml hv
  obtain ⟨rfl, hsz, hG, hP, hD0⟩ := hv
  have hx := B.exec
  have hb := B.bytes
  have hr := B.returns
  have hts := atoms_spec (ws := wsX2_findEarliestEnds) B.pre
  have hown : s.vm.findClass RX2 = some m.cls := findClass_of_methodNamed B.named
  have hlocks := B.notSynchronized
  have hK := hG.1
  have hN := hG.2
  subst hsz
  have hD := hD0.self (sz := s.heap.size)
  generalize hAe : va_A [(p0, .inr (2, [.ref (b 1), .ref (b 2), .ref (b 3), .ref (b 4), .ref (b 5), .ref (b 6), .ref (b 7), .ref (b 8), .ref (b 9), .ref (b 10), .ref (b 11), .ref (b 12), .int 0, .int 0, .int 0, .int 0])), (b 9, .inl (cI, 1024, .inl (fun _ => 0))), (s0, .inr (4, [.ref s1, .ref s2, .int 0, .int 0, .int 0, .int 1440, .int 1, .int 0, .int 12, .int 0]))] s.heap.size = A at hD ⊢
  have hA : ∀ q : Nat, s.heap.size ≤ q → A q := fun q h => by rw [← hAe]; exact Or.inr h
  have hS : va_S A s.heap s.heap [] := va_S.rf
  have hP : va_P D vwCl [(p0, .inr (2, [.ref (b 1), .ref (b 2), .ref (b 3), .ref (b 4), .ref (b 5), .ref (b 6), .ref (b 7), .ref (b 8), .ref (b 9), .ref (b 10), .ref (b 11), .ref (b 12), .int 0, .int 0, .int 0, .int 0])), (b 9, .inl (cI, 1024, .inl (fun _ => 0))), (s0, .inr (4, [.ref s1, .ref s2, .int 0, .int 0, .int 0, .int 1440, .int 1, .int 0, .int 12, .int 0]))] s.heap := hP
  have hl := lv_entry ([.ref p0, .ref s0]) (n := 7) (Nat.le_of_ble_eq_true rfl)
  rw [lg_entry_eq]
  generalize (lg_sl ([.ref p0, .ref s0]) ++ List.replicate (7 - (lg_sl ([.ref p0, .ref s0])).length) Slot.unset).toArray = ls at hl ⊢
  have hl : lv_has ls 7 [(0, .ref p0), (1, .ref s0)] := hl
  refine lv_aload_n hx hb dX2_findEarliestEnds_0 rfl (lv_at hl 0 rfl) ?_
  refine va_get (D := D) (ci := 2) (v := .ref (b 9)) (C := RX2) (T := TX2) (N := 16) hx hb hts (fun _ h9 => List.mem_cons_of_mem _ (List.mem_append_left _ (List.mem_append_right _ h9))) hown hK hP 0 rfl rfl 8 (by decide) (hts (.fieldLink RX2 36 "BuoyTender$Planner" "backs" "[I") (by decide +kernel)) (fun _ h9 => h9) rfl dX2_findEarliestEnds_1 ?_
  refine lv_iconst (v := 0) hx hb dX2_findEarliestEnds_4 (by decide) ?_
  refine lv_aload_n hx hb dX2_findEarliestEnds_5 rfl (lv_at hl 1 rfl) ?_
  refine va_getN (D := D) (ci := 4) (v := .int 0) (C := RX4) (T := TX4) (N := 10) hx hb hts (fun _ h9 => List.mem_cons_of_mem _ (List.mem_append_right _ h9)) hown hK hP 2 rfl rfl 4 (by decide) (va_Nw.use rfl (hN.1 (RX2, 136, "BuoyTender$Ship", "minute", "I", "BuoyTender") (by decide +kernel))) (fun _ h9 => h9) rfl dX2_findEarliestEnds_6 ?_
  refine va_iast hx hb hK hP hD hS 1 0 rfl rfl (vp_in_nI (n := 0) (N := 1024) (by decide) (by decide)) dX2_findEarliestEnds_9 (fun H locs hP hD hS => ?_)
  have hP : va_P D vwCl [(p0, .inr (2, [.ref (b 1), .ref (b 2), .ref (b 3), .ref (b 4), .ref (b 5), .ref (b 6), .ref (b 7), .ref (b 8), .ref (b 9), .ref (b 10), .ref (b 11), .ref (b 12), .int 0, .int 0, .int 0, .int 0])), (b 9, .inl (cI, 1024, .inl (upd (fun _ => 0) (0 : Int32).toNatClampNeg 0))), (s0, .inr (4, [.ref s1, .ref s2, .int 0, .int 0, .int 0, .int 1440, .int 1, .int 0, .int 12, .int 0]))] H := hP
  have hD : va_D A [(p0, .inr (2, [.ref (b 1), .ref (b 2), .ref (b 3), .ref (b 4), .ref (b 5), .ref (b 6), .ref (b 7), .ref (b 8), .ref (b 9), .ref (b 10), .ref (b 11), .ref (b 12), .int 0, .int 0, .int 0, .int 0])), (b 9, .inl (cI, 1024, .inl (upd (fun _ => 0) (0 : Int32).toNatClampNeg 0))), (s0, .inr (4, [.ref s1, .ref s2, .int 0, .int 0, .int 0, .int 1440, .int 1, .int 0, .int 12, .int 0]))] := hD
  refine lv_iconst (v := 1) hx hb dX2_findEarliestEnds_10 (by decide) ?_
  refine lv_istore_n (lv' := [(2, .int 1), (0, .ref p0), (1, .ref s0)]) hx hb dX2_findEarliestEnds_11 rfl hl (by decide) rfl (fun ls hl => ?_)
  refine lv_iload_n hx hb dX2_findEarliestEnds_12 rfl (lv_at hl 0 rfl) ?_
  refine lv_iconst (v := 1) hx hb dX2_findEarliestEnds_13 (by decide) ?_
  refine lv_aload_n hx hb dX2_findEarliestEnds_14 rfl (lv_at hl 1 rfl) ?_
  refine va_get (D := D) (ci := 2) (v := .int 0) (C := RX2) (T := TX2) (N := 16) hx hb hts (fun _ h9 => List.mem_cons_of_mem _ (List.mem_append_left _ (List.mem_append_right _ h9))) hown hK hP 0 rfl rfl 12 (by decide) (hts (.fieldLink RX2 76 "BuoyTender$Planner" "count" "I") (by decide +kernel)) (fun _ h9 => h9) rfl dX2_findEarliestEnds_15 ?_
  refine lv_ishl hx hb dX2_findEarliestEnds_18 ?_
  refine lv_topi (fun z_2 ez_2 => ?_)
  obtain rfl : z_2 = 1 := ez_2.trans (by decide)
  refine lv_icmp_ge (tgt := 156) hx hb dX2_findEarliestEnds_19 (by decide) (fun _ => ?_) (fun c_3 => False.elim (by revert c_3; decide))
  have hP9 := hP.sub (ws' := [(p0, .inr (2, [.ref (b 1), .ref (b 2), .ref (b 3), .ref (b 4), .ref (b 5), .ref (b 6), .ref (b 7), .ref (b 8), .ref (b 9), .ref (b 10), .ref (b 11), .ref (b 12), .int 0, .int 0, .int 0, .int 0])), (b 9, .inl (cI, 1024, .inl (upd (fun _ => 0) (0 : Int32).toNatClampNeg 0))), (s0, .inr (4, [.ref s1, .ref s2, .int 0, .int 0, .int 0, .int 1440, .int 1, .int 0, .int 12, .int 0]))]) [0, 1, 2] rfl
  have hD9 := hD.sub (ws' := [(p0, .inr (2, [.ref (b 1), .ref (b 2), .ref (b 3), .ref (b 4), .ref (b 5), .ref (b 6), .ref (b 7), .ref (b 8), .ref (b 9), .ref (b 10), .ref (b 11), .ref (b 12), .int 0, .int 0, .int 0, .int 0])), (b 9, .inl (cI, 1024, .inl (upd (fun _ => 0) (0 : Int32).toNatClampNeg 0))), (s0, .inr (4, [.ref s1, .ref s2, .int 0, .int 0, .int 0, .int 1440, .int 1, .int 0, .int 12, .int 0]))]) [0, 1, 2] (by decide) rfl
  exact W.vret hx hb hr (fun t ht hW => ⟨⟨(upd (fun _ => 0) (0 : Int32).toNatClampNeg 0), rfl, rfl, ⟨by rw [ht]; exact hP9, hD9⟩⟩, hS.F ht⟩) hS.2.2 dX2_findEarliestEnds_156
set_option maxHeartbeats 4000000 in
set_option maxRecDepth 100000 in
/-- the empty round -/
theorem k_X2_chooseBest (l : Launch) (D : va_G) (cI cJ cZ cM : Nat) (p0 : Nat) (b : Nat → Nat) (f : Nat → Int32) (hf : f 0 = 0) (sz : Nat) : Met l yX2_chooseBest wsX2_chooseBest ({ frames := 0, cells := 0, slots := 0, locals := 0 } : Room) (RW D cI cJ cZ cM [.ref p0] [(p0, .inr (2, [.ref (b 1), .ref (b 2), .ref (b 3), .ref (b 4), .ref (b 5), .ref (b 6), .ref (b 7), .ref (b 8), .ref (b 9), .ref (b 10), .ref (b 11), .ref (b 12), .int 0, .int 0, .int 0, .int 0])), (b 9, .inl (cI, 1024, .inl f))] sz) (va_Qv (S := Unit) (fun u => True) (BB D (fun _ => [(p0, .inr (2, [.ref (b 1), .ref (b 2), .ref (b 3), .ref (b 4), .ref (b 5), .ref (b 6), .ref (b 7), .ref (b 8), .ref (b 9), .ref (b 10), .ref (b 11), .ref (b 12), .int 0, .int 0, .int 0, .int 0])), (b 9, .inl (cI, 1024, .inl f))]) (va_A [(p0, .inr (2, [.ref (b 1), .ref (b 2), .ref (b 3), .ref (b 4), .ref (b 5), .ref (b 6), .ref (b 7), .ref (b 8), .ref (b 9), .ref (b 10), .ref (b 11), .ref (b 12), .int 0, .int 0, .int 0, .int 0])), (b 9, .inl (cI, 1024, .inl f))] sz)) (va_A [(p0, .inr (2, [.ref (b 1), .ref (b 2), .ref (b 3), .ref (b 4), .ref (b 5), .ref (b 6), .ref (b 7), .ref (b 8), .ref (b 9), .ref (b 10), .ref (b 11), .ref (b 12), .int 0, .int 0, .int 0, .int 0])), (b 9, .inl (cI, 1024, .inl f))] sz)) 0 0 (va_A [(p0, .inr (2, [.ref (b 1), .ref (b 2), .ref (b 3), .ref (b 4), .ref (b 5), .ref (b 6), .ref (b 7), .ref (b 8), .ref (b 9), .ref (b 10), .ref (b 11), .ref (b 12), .int 0, .int 0, .int 0, .int 0])), (b 9, .inl (cI, 1024, .inl f))] sz) := by
  refine Met.ofW (cc := cX2_chooseBest) (maxL := 3) (ret := none) (by decide) rfl ?_
  intro p e s m args below meth c s₁ B hml hv
  obtain ⟨rfl, hsz, hG, hP, hD0⟩ := hv
  have hx := B.exec
  have hb := B.bytes
  have hr := B.returns
  have hts := atoms_spec (ws := wsX2_chooseBest) B.pre
  have hown : s.vm.findClass RX2 = some m.cls := findClass_of_methodNamed B.named
  have hlocks := B.notSynchronized
  have hK := hG.1
  have hN := hG.2
  subst hsz
  have hD := hD0.self (sz := s.heap.size)
  generalize hAe : va_A [(p0, .inr (2, [.ref (b 1), .ref (b 2), .ref (b 3), .ref (b 4), .ref (b 5), .ref (b 6), .ref (b 7), .ref (b 8), .ref (b 9), .ref (b 10), .ref (b 11), .ref (b 12), .int 0, .int 0, .int 0, .int 0])), (b 9, .inl (cI, 1024, .inl f))] s.heap.size = A at hD ⊢
  have hA : ∀ q : Nat, s.heap.size ≤ q → A q := fun q h => by rw [← hAe]; exact Or.inr h
  have hS : va_S A s.heap s.heap [] := va_S.rf
  have hP : va_P D vwCl [(p0, .inr (2, [.ref (b 1), .ref (b 2), .ref (b 3), .ref (b 4), .ref (b 5), .ref (b 6), .ref (b 7), .ref (b 8), .ref (b 9), .ref (b 10), .ref (b 11), .ref (b 12), .int 0, .int 0, .int 0, .int 0])), (b 9, .inl (cI, 1024, .inl f))] s.heap := hP
  have hl := lv_entry ([.ref p0]) (n := 3) (Nat.le_of_ble_eq_true rfl)
  rw [lg_entry_eq]
  generalize (lg_sl ([.ref p0]) ++ List.replicate (3 - (lg_sl ([.ref p0])).length) Slot.unset).toArray = ls at hl ⊢
  have hl : lv_has ls 3 [(0, .ref p0)] := hl
  refine lv_aload_n hx hb dX2_chooseBest_0 rfl (lv_at hl 0 rfl) ?_
  refine lv_iconst (v := 0) hx hb dX2_chooseBest_1 (by decide) ?_
  refine va_put (D := D) (ci := 2) (v := .int 0) (ty := (tyX2 14)) (C := RX2) (T := TX2) (N := 16) hx hb hts (fun _ h9 => List.mem_cons_of_mem _ (List.mem_append_right _ h9)) tyX2 tyX2_ok nmX2 hown hK hP hD hS 0 rfl rfl 14 (by decide) (hts (.fieldLink RX2 159 "BuoyTender$Planner" "bestWeight" "I") (by decide +kernel)) (fun _ h9 => h9) rfl (by decide +kernel) rfl rfl (Nat.le_of_ble_eq_true rfl) dX2_chooseBest_2 (fun H locs hP hD hS => ?_)
  have hP : va_P D vwCl [(p0, .inr (2, [.ref (b 1), .ref (b 2), .ref (b 3), .ref (b 4), .ref (b 5), .ref (b 6), .ref (b 7), .ref (b 8), .ref (b 9), .ref (b 10), .ref (b 11), .ref (b 12), .int 0, .int 0, .int 0, .int 0])), (b 9, .inl (cI, 1024, .inl f))] H := hP
  have hD : va_D A [(p0, .inr (2, [.ref (b 1), .ref (b 2), .ref (b 3), .ref (b 4), .ref (b 5), .ref (b 6), .ref (b 7), .ref (b 8), .ref (b 9), .ref (b 10), .ref (b 11), .ref (b 12), .int 0, .int 0, .int 0, .int 0])), (b 9, .inl (cI, 1024, .inl f))] := hD
  refine lv_aload_n hx hb dX2_chooseBest_5 rfl (lv_at hl 0 rfl) ?_
  refine lv_aload_n hx hb dX2_chooseBest_6 rfl (lv_at hl 0 rfl) ?_
  refine va_get (D := D) (ci := 2) (v := .ref (b 9)) (C := RX2) (T := TX2) (N := 16) hx hb hts (fun _ h9 => List.mem_cons_of_mem _ (List.mem_append_right _ h9)) hown hK hP 0 rfl rfl 8 (by decide) (hts (.fieldLink RX2 36 "BuoyTender$Planner" "backs" "[I") (by decide +kernel)) (fun _ h9 => h9) rfl dX2_chooseBest_7 ?_
  refine lv_iconst (v := 0) hx hb dX2_chooseBest_10 (by decide) ?_
  refine va_iald hx hb hK hP 1 0 rfl rfl (vp_in_nI (n := 0) (N := 1024) (by decide) (by decide)) dX2_chooseBest_11 ?_
  refine lv_topi (fun z_1 ez_1 => ?_)
  obtain rfl : z_1 = 0 := ez_1.trans hf
  refine va_put (D := D) (ci := 2) (v := .int 0) (ty := (tyX2 15)) (C := RX2) (T := TX2) (N := 16) hx hb hts (fun _ h9 => List.mem_cons_of_mem _ (List.mem_append_right _ h9)) tyX2 tyX2_ok nmX2 hown hK hP hD hS 0 rfl rfl 15 (by decide) (hts (.fieldLink RX2 162 "BuoyTender$Planner" "bestBack" "I") (by decide +kernel)) (fun _ h9 => h9) rfl (by decide +kernel) rfl rfl (Nat.le_of_ble_eq_true rfl) dX2_chooseBest_12 (fun H locs hP hD hS => ?_)
  have hP : va_P D vwCl [(p0, .inr (2, [.ref (b 1), .ref (b 2), .ref (b 3), .ref (b 4), .ref (b 5), .ref (b 6), .ref (b 7), .ref (b 8), .ref (b 9), .ref (b 10), .ref (b 11), .ref (b 12), .int 0, .int 0, .int 0, .int 0])), (b 9, .inl (cI, 1024, .inl f))] H := hP
  have hD : va_D A [(p0, .inr (2, [.ref (b 1), .ref (b 2), .ref (b 3), .ref (b 4), .ref (b 5), .ref (b 6), .ref (b 7), .ref (b 8), .ref (b 9), .ref (b 10), .ref (b 11), .ref (b 12), .int 0, .int 0, .int 0, .int 0])), (b 9, .inl (cI, 1024, .inl f))] := hD
  refine lv_iconst (v := 1) hx hb dX2_chooseBest_15 (by decide) ?_
  refine lv_istore_n (lv' := [(1, .int 1), (0, .ref p0)]) hx hb dX2_chooseBest_16 rfl hl (by decide) rfl (fun ls hl => ?_)
  refine lv_iload_n hx hb dX2_chooseBest_17 rfl (lv_at hl 0 rfl) ?_
  refine lv_iconst (v := 1) hx hb dX2_chooseBest_18 (by decide) ?_
  refine lv_aload_n hx hb dX2_chooseBest_19 rfl (lv_at hl 1 rfl) ?_
  refine va_get (D := D) (ci := 2) (v := .int 0) (C := RX2) (T := TX2) (N := 16) hx hb hts (fun _ h9 => List.mem_cons_of_mem _ (List.mem_append_right _ h9)) hown hK hP 0 rfl rfl 12 (by decide) (hts (.fieldLink RX2 76 "BuoyTender$Planner" "count" "I") (by decide +kernel)) (fun _ h9 => h9) rfl dX2_chooseBest_20 ?_
  refine lv_ishl hx hb dX2_chooseBest_23 ?_
  refine lv_topi (fun z_2 ez_2 => ?_)
  obtain rfl : z_2 = 1 := ez_2.trans (by decide)
  refine lv_icmp_ge (tgt := 98) hx hb dX2_chooseBest_24 (by decide) (fun _ => ?_) (fun c_3 => False.elim (by revert c_3; decide))
  have hP9 := hP.sub (ws' := [(p0, .inr (2, [.ref (b 1), .ref (b 2), .ref (b 3), .ref (b 4), .ref (b 5), .ref (b 6), .ref (b 7), .ref (b 8), .ref (b 9), .ref (b 10), .ref (b 11), .ref (b 12), .int 0, .int 0, .int 0, .int 0])), (b 9, .inl (cI, 1024, .inl f))]) [0, 1] rfl
  have hD9 := hD.sub (ws' := [(p0, .inr (2, [.ref (b 1), .ref (b 2), .ref (b 3), .ref (b 4), .ref (b 5), .ref (b 6), .ref (b 7), .ref (b 8), .ref (b 9), .ref (b 10), .ref (b 11), .ref (b 12), .int 0, .int 0, .int 0, .int 0])), (b 9, .inl (cI, 1024, .inl f))]) [0, 1] (by decide) rfl
  exact W.vret hx hb hr (fun t ht hW => ⟨⟨(), rfl, trivial, ⟨by rw [ht]; exact hP9, hD9⟩⟩, hS.F ht⟩) hS.2.2 dX2_chooseBest_98
set_option maxHeartbeats 4000000 in
set_option maxRecDepth 100000 in
/-- no job -/
theorem k_X2_findLatestEnds (l : Launch) (D : va_G) (cI cJ cZ cM : Nat) (p0 : Nat) (b : Nat → Nat) : Met l yX2_findLatestEnds wsX2_findLatestEnds ({ frames := 0, cells := 0, slots := 0, locals := 0 } : Room) (RO D cI cJ cZ cM [.ref p0] [(p0, .inr (2, [.ref (b 1), .ref (b 2), .ref (b 3), .ref (b 4), .ref (b 5), .ref (b 6), .ref (b 7), .ref (b 8), .ref (b 9), .ref (b 10), .ref (b 11), .ref (b 12), .int 0, .int 0, .int 0, .int 0]))]) (va_Sv (fun _ => True)) 0 0 (fun _ => False) := by
  refine Met.ofW (cc := cX2_findLatestEnds) (maxL := 3) (ret := none) (by decide) rfl ?_
  intro p e s m args below meth c s₁ B hml hv
  obtain ⟨rfl, hG, hP⟩ := hv
  have hx := B.exec
  have hb := B.bytes
  have hr := B.returns
  have hts := atoms_spec (ws := wsX2_findLatestEnds) B.pre
  have hown : s.vm.findClass RX2 = some m.cls := findClass_of_methodNamed B.named
  have hlocks := B.notSynchronized
  have hK := hG.1
  have hN := hG.2
  have hl := lv_entry ([.ref p0]) (n := 3) (Nat.le_of_ble_eq_true rfl)
  rw [lg_entry_eq]
  generalize (lg_sl ([.ref p0]) ++ List.replicate (3 - (lg_sl ([.ref p0])).length) Slot.unset).toArray = ls at hl ⊢
  have hl : lv_has ls 3 [(0, .ref p0)] := hl
  refine lv_iconst (v := 0) hx hb dX2_findLatestEnds_0 (by decide) ?_
  refine lv_istore_n (lv' := [(1, .int 0), (0, .ref p0)]) hx hb dX2_findLatestEnds_1 rfl hl (by decide) rfl (fun ls hl => ?_)
  refine lv_iload_n hx hb dX2_findLatestEnds_2 rfl (lv_at hl 0 rfl) ?_
  refine lv_iconst (v := 1) hx hb dX2_findLatestEnds_3 (by decide) ?_
  refine lv_aload_n hx hb dX2_findLatestEnds_4 rfl (lv_at hl 1 rfl) ?_
  refine va_get (D := D) (ci := 2) (v := .int 0) (C := RX2) (T := TX2) (N := 16) hx hb hts (fun _ h9 => List.mem_cons_of_mem _ (List.mem_append_right _ h9)) hown hK hP 0 rfl rfl 12 (by decide) (hts (.fieldLink RX2 76 "BuoyTender$Planner" "count" "I") (by decide +kernel)) (fun _ h9 => h9) rfl dX2_findLatestEnds_5 ?_
  refine lv_ishl hx hb dX2_findLatestEnds_8 ?_
  refine lv_topi (fun z_1 ez_1 => ?_)
  obtain rfl : z_1 = 1 := ez_1.trans (by decide)
  refine lv_icmp_ge (tgt := 64) hx hb dX2_findLatestEnds_9 (by decide) (fun c_2 => False.elim (by revert c_2; decide)) (fun _ => ?_)
  refine lv_iconst (v := 0) hx hb dX2_findLatestEnds_12 (by decide) ?_
  refine lv_istore_n (lv' := [(2, .int 0), (1, .int 0), (0, .ref p0)]) hx hb dX2_findLatestEnds_13 rfl hl (by decide) rfl (fun ls hl => ?_)
  refine lv_iload_n hx hb dX2_findLatestEnds_14 rfl (lv_at hl 0 rfl) ?_
  refine lv_aload_n hx hb dX2_findLatestEnds_15 rfl (lv_at hl 2 rfl) ?_
  refine va_get (D := D) (ci := 2) (v := .int 0) (C := RX2) (T := TX2) (N := 16) hx hb hts (fun _ h9 => List.mem_cons_of_mem _ (List.mem_append_right _ h9)) hown hK hP 0 rfl rfl 12 (by decide) (hts (.fieldLink RX2 76 "BuoyTender$Planner" "count" "I") (by decide +kernel)) (fun _ h9 => h9) rfl dX2_findLatestEnds_16 ?_
  refine lv_icmp_ge (tgt := 58) hx hb dX2_findLatestEnds_19 (by decide) (fun _ => ?_) (fun c_3 => False.elim (by revert c_3; decide))
  refine lv_iinc (v := 1) (lv' := [(1, .int 1), (2, .int 0), (0, .ref p0)]) hx hb dX2_findLatestEnds_58 hl (k := 1) rfl (by decide) (by decide) rfl (fun ls hl => ?_)
  refine lv_goto (tgt := 2) hx hb dX2_findLatestEnds_61 (by decide) ?_
  refine lv_iload_n hx hb dX2_findLatestEnds_2 rfl (lv_at hl 0 rfl) ?_
  refine lv_iconst (v := 1) hx hb dX2_findLatestEnds_3 (by decide) ?_
  refine lv_aload_n hx hb dX2_findLatestEnds_4 rfl (lv_at hl 2 rfl) ?_
  refine va_get (D := D) (ci := 2) (v := .int 0) (C := RX2) (T := TX2) (N := 16) hx hb hts (fun _ h9 => List.mem_cons_of_mem _ (List.mem_append_right _ h9)) hown hK hP 0 rfl rfl 12 (by decide) (hts (.fieldLink RX2 76 "BuoyTender$Planner" "count" "I") (by decide +kernel)) (fun _ h9 => h9) rfl dX2_findLatestEnds_5 ?_
  refine lv_ishl hx hb dX2_findLatestEnds_8 ?_
  refine lv_topi (fun z_4 ez_4 => ?_)
  obtain rfl : z_4 = 1 := ez_4.trans (by decide)
  refine lv_icmp_ge (tgt := 64) hx hb dX2_findLatestEnds_9 (by decide) (fun _ => ?_) (fun c_5 => False.elim (by revert c_5; decide))
  exact W.vret hx hb hr (fun t ht hW => ⟨rfl, trivial, ht⟩) (fun _ h => by cases h) dX2_findLatestEnds_64
set_option maxHeartbeats 4000000 in
set_option maxRecDepth 100000 in
/-- no job: 0 -/
theorem k_X2_sumOver (l : Launch) (D : va_G) (cI cJ cZ cM : Nat) (p0 : Nat) (b : Nat → Nat) (g0 : Nat) (x1 : Int32) (lz : Int32) : Met l yX2_sumOver wsX2_sumOver ({ frames := 0, cells := 0, slots := 0, locals := 0 } : Room) (RO D cI cJ cZ cM [.ref p0, .int x1, .ref g0] [(p0, .inr (2, [.ref (b 1), .ref (b 2), .ref (b 3), .ref (b 4), .ref (b 5), .ref (b 6), .ref (b 7), .ref (b 8), .ref (b 9), .ref (b 10), .ref (b 11), .ref (b 12), .int 0, .int lz, .int 0, .int 0]))]) (vp_Si (fun r => r = 0)) 0 0 (fun _ => False) := by
  refine Met.ofW (cc := cX2_sumOver) (maxL := 5) (ret := (some .int)) (by decide) rfl ?_
  intro p e s m args below meth c s₁ B hml hv
  obtain ⟨rfl, hG, hP⟩ := hv
  have hx := B.exec
  have hb := B.bytes
  have hr := B.returns
  have hts := atoms_spec (ws := wsX2_sumOver) B.pre
  have hown : s.vm.findClass RX2 = some m.cls := findClass_of_methodNamed B.named
  have hlocks := B.notSynchronized
  have hK := hG.1
  have hN := hG.2
  have hl := lv_entry ([.ref p0, .int x1, .ref g0]) (n := 5) (Nat.le_of_ble_eq_true rfl)
  rw [lg_entry_eq]
  generalize (lg_sl ([.ref p0, .int x1, .ref g0]) ++ List.replicate (5 - (lg_sl ([.ref p0, .int x1, .ref g0])).length) Slot.unset).toArray = ls at hl ⊢
  have hl : lv_has ls 5 [(0, .ref p0), (1, .int x1), (2, .ref g0)] := hl
  refine lv_iconst (v := 0) hx hb dX2_sumOver_0 (by decide) ?_
  refine lv_istore_n (lv' := [(3, .int 0), (0, .ref p0), (1, .int x1), (2, .ref g0)]) hx hb dX2_sumOver_1 rfl hl (by decide) rfl (fun ls hl => ?_)
  refine lv_iconst (v := 0) hx hb dX2_sumOver_2 (by decide) ?_
  refine lv_istore (lv' := [(4, .int 0), (3, .int 0), (0, .ref p0), (1, .int x1), (2, .ref g0)]) hx hb dX2_sumOver_3 hl (by decide) rfl (fun ls hl => ?_)
  refine lv_iload hx hb dX2_sumOver_5 (lv_at hl 0 rfl) ?_
  refine lv_aload_n hx hb dX2_sumOver_7 rfl (lv_at hl 2 rfl) ?_
  refine va_get (D := D) (ci := 2) (v := .int 0) (C := RX2) (T := TX2) (N := 16) hx hb hts (fun _ h9 => List.mem_cons_of_mem _ (List.mem_append_right _ h9)) hown hK hP 0 rfl rfl 12 (by decide) (hts (.fieldLink RX2 76 "BuoyTender$Planner" "count" "I") (by decide +kernel)) (fun _ h9 => h9) rfl dX2_sumOver_8 ?_
  refine lv_icmp_ge (tgt := 47) hx hb dX2_sumOver_11 (by decide) (fun _ => ?_) (fun c_1 => False.elim (by revert c_1; decide))
  refine lv_iload_n hx hb dX2_sumOver_47 rfl (lv_at hl 1 rfl) ?_
  exact W.iret (v := 0) hx hb hr (fun t ht hW => ⟨0, rfl, rfl, ht⟩) (fun _ h => by cases h) dX2_sumOver_48
set_option maxHeartbeats 4000000 in
set_option maxRecDepth 100000 in
/-- no job: 0 -/
theorem k_X2_tryFirstOrder (l : Launch) (D : va_G) (cI cJ cZ cM : Nat) (p0 : Nat) (b : Nat → Nat) (s0 : Nat) (s1 : Nat) (s2 : Nat) (x1 : Int32) (lz : Int32) : Met l yX2_tryFirstOrder wsX2_tryFirstOrder ({ frames := 0, cells := 0, slots := 0, locals := 0 } : Room) (RO D cI cJ cZ cM [.ref p0, .int x1, .ref s0] [(p0, .inr (2, [.ref (b 1), .ref (b 2), .ref (b 3), .ref (b 4), .ref (b 5), .ref (b 6), .ref (b 7), .ref (b 8), .ref (b 9), .ref (b 10), .ref (b 11), .ref (b 12), .int 0, .int lz, .int 0, .int 0])), (s0, .inr (4, [.ref s1, .ref s2, .int 0, .int 0, .int 0, .int 1440, .int 1, .int 0, .int 12, .int 0]))]) (vp_Si (fun r => r = 0)) 0 0 (fun _ => False) := by
  refine Met.ofW (cc := cX2_tryFirstOrder) (maxL := 9) (ret := (some .int)) (by decide) rfl ?_
  intro p e s m args below meth c s₁ B hml hv
  obtain ⟨rfl, hG, hP⟩ := hv
  have hx := B.exec
  have hb := B.bytes
  have hr := B.returns
  have hts := atoms_spec (ws := wsX2_tryFirstOrder) B.pre
  have hown : s.vm.findClass RX2 = some m.cls := findClass_of_methodNamed B.named
  have hlocks := B.notSynchronized
  have hK := hG.1
  have hN := hG.2
  have hl := lv_entry ([.ref p0, .int x1, .ref s0]) (n := 9) (Nat.le_of_ble_eq_true rfl)
  rw [lg_entry_eq]
  generalize (lg_sl ([.ref p0, .int x1, .ref s0]) ++ List.replicate (9 - (lg_sl ([.ref p0, .int x1, .ref s0])).length) Slot.unset).toArray = ls at hl ⊢
  have hl : lv_has ls 9 [(0, .ref p0), (1, .int x1), (2, .ref s0)] := hl
  refine lv_iconst (v := 0) hx hb dX2_tryFirstOrder_0 (by decide) ?_
  refine lv_istore_n (lv' := [(3, .int 0), (0, .ref p0), (1, .int x1), (2, .ref s0)]) hx hb dX2_tryFirstOrder_1 rfl hl (by decide) rfl (fun ls hl => ?_)
  refine lv_iload_n hx hb dX2_tryFirstOrder_2 rfl (lv_at hl 2 rfl) ?_
  refine lv_istore (lv' := [(4, .int x1), (3, .int 0), (0, .ref p0), (1, .int x1), (2, .ref s0)]) hx hb dX2_tryFirstOrder_3 hl (by decide) rfl (fun ls hl => ?_)
  refine lv_bipush (v := 10) hx hb dX2_tryFirstOrder_5 (by decide) ?_
  refine lv_istore (lv' := [(5, .int 10), (4, .int x1), (3, .int 0), (0, .ref p0), (1, .int x1), (2, .ref s0)]) hx hb dX2_tryFirstOrder_7 hl (by decide) rfl (fun ls hl => ?_)
  refine lv_aload_n hx hb dX2_tryFirstOrder_9 rfl (lv_at hl 5 rfl) ?_
  refine va_getN (D := D) (ci := 4) (v := .int 0) (C := RX4) (T := TX4) (N := 10) hx hb hts (fun _ h9 => List.mem_cons_of_mem _ (List.mem_append_left _ (List.mem_append_right _ h9))) hown hK hP 1 rfl rfl 4 (by decide) (va_Nw.use rfl (hN.1 (RX2, 136, "BuoyTender$Ship", "minute", "I", "BuoyTender") (by decide +kernel))) (fun _ h9 => h9) rfl dX2_tryFirstOrder_10 ?_
  refine lv_istore (lv' := [(6, .int 0), (5, .int 10), (4, .int x1), (3, .int 0), (0, .ref p0), (1, .int x1), (2, .ref s0)]) hx hb dX2_tryFirstOrder_13 hl (by decide) rfl (fun ls hl => ?_)
  refine lv_iconst (v := 0) hx hb dX2_tryFirstOrder_15 (by decide) ?_
  refine lv_istore (lv' := [(7, .int 0), (6, .int 0), (5, .int 10), (4, .int x1), (3, .int 0), (0, .ref p0), (1, .int x1), (2, .ref s0)]) hx hb dX2_tryFirstOrder_16 hl (by decide) rfl (fun ls hl => ?_)
  refine lv_iload hx hb dX2_tryFirstOrder_18 (lv_at hl 0 rfl) ?_
  refine lv_aload_n hx hb dX2_tryFirstOrder_20 rfl (lv_at hl 5 rfl) ?_
  refine va_get (D := D) (ci := 2) (v := .int 0) (C := RX2) (T := TX2) (N := 16) hx hb hts (fun _ h9 => List.mem_cons_of_mem _ (List.mem_append_right _ h9)) hown hK hP 0 rfl rfl 12 (by decide) (hts (.fieldLink RX2 76 "BuoyTender$Planner" "count" "I") (by decide +kernel)) (fun _ h9 => h9) rfl dX2_tryFirstOrder_21 ?_
  refine lv_icmp_ge (tgt := 114) hx hb dX2_tryFirstOrder_24 (by decide) (fun _ => ?_) (fun c_1 => False.elim (by revert c_1; decide))
  refine lv_iload_n hx hb dX2_tryFirstOrder_114 rfl (lv_at hl 4 rfl) ?_
  exact W.iret (v := 0) hx hb hr (fun t ht hW => ⟨0, rfl, rfl, ht⟩) (fun _ h => by cases h) dX2_tryFirstOrder_115
set_option maxHeartbeats 4000000 in
set_option maxRecDepth 100000 in
/-- no job: an empty row -/
theorem k_X2_chooseOrder (l : Launch) (D : va_G) (cI cJ cZ cM : Nat) (p0 : Nat) (b : Nat → Nat) (s0 : Nat) (s1 : Nat) (s2 : Nat) (f : Nat → Int32) (hf : f 0 = 0) (sz : Nat) : Met l yX2_chooseOrder wsX2_chooseOrder ({ frames := 1, cells := 0, slots := 0, locals := 60 } : Room) (RW D cI cJ cZ cM [.ref p0, .ref s0] [(p0, .inr (2, [.ref (b 1), .ref (b 2), .ref (b 3), .ref (b 4), .ref (b 5), .ref (b 6), .ref (b 7), .ref (b 8), .ref (b 9), .ref (b 10), .ref (b 11), .ref (b 12), .int 0, .int 0, .int 0, .int 0])), (b 9, .inl (cI, 1024, .inl f)), (b 4, .inl (cI, 10, .inl (fun _ => 0))), (b 10, .inl (cI, 10, .inl (fun _ => 0))), (b 11, .inl (cI, 10, .inl (fun _ => 0))), (s0, .inr (4, [.ref s1, .ref s2, .int 0, .int 0, .int 0, .int 1440, .int 1, .int 0, .int 12, .int 0]))] sz) (va_Qv (S := Unit) (fun u => True) (BB D (fun _ => [(p0, .inr (2, [.ref (b 1), .ref (b 2), .ref (b 3), .ref (b 4), .ref (b 5), .ref (b 6), .ref (b 7), .ref (b 8), .ref (b 9), .ref (b 10), .ref (b 11), .ref (b 12), .int 0, .int 0, .int 0, .int 0])), (s0, .inr (4, [.ref s1, .ref s2, .int 0, .int 0, .int 0, .int 1440, .int 1, .int 0, .int 12, .int 0]))]) (va_A [(p0, .inr (2, [.ref (b 1), .ref (b 2), .ref (b 3), .ref (b 4), .ref (b 5), .ref (b 6), .ref (b 7), .ref (b 8), .ref (b 9), .ref (b 10), .ref (b 11), .ref (b 12), .int 0, .int 0, .int 0, .int 0])), (b 9, .inl (cI, 1024, .inl f)), (b 4, .inl (cI, 10, .inl (fun _ => 0))), (b 10, .inl (cI, 10, .inl (fun _ => 0))), (b 11, .inl (cI, 10, .inl (fun _ => 0))), (s0, .inr (4, [.ref s1, .ref s2, .int 0, .int 0, .int 0, .int 1440, .int 1, .int 0, .int 12, .int 0]))] sz)) (va_A [(p0, .inr (2, [.ref (b 1), .ref (b 2), .ref (b 3), .ref (b 4), .ref (b 5), .ref (b 6), .ref (b 7), .ref (b 8), .ref (b 9), .ref (b 10), .ref (b 11), .ref (b 12), .int 0, .int 0, .int 0, .int 0])), (b 9, .inl (cI, 1024, .inl f)), (b 4, .inl (cI, 10, .inl (fun _ => 0))), (b 10, .inl (cI, 10, .inl (fun _ => 0))), (b 11, .inl (cI, 10, .inl (fun _ => 0))), (s0, .inr (4, [.ref s1, .ref s2, .int 0, .int 0, .int 0, .int 1440, .int 1, .int 0, .int 12, .int 0]))] sz)) 0 0 (va_A [(p0, .inr (2, [.ref (b 1), .ref (b 2), .ref (b 3), .ref (b 4), .ref (b 5), .ref (b 6), .ref (b 7), .ref (b 8), .ref (b 9), .ref (b 10), .ref (b 11), .ref (b 12), .int 0, .int 0, .int 0, .int 0])), (b 9, .inl (cI, 1024, .inl f)), (b 4, .inl (cI, 10, .inl (fun _ => 0))), (b 10, .inl (cI, 10, .inl (fun _ => 0))), (b 11, .inl (cI, 10, .inl (fun _ => 0))), (s0, .inr (4, [.ref s1, .ref s2, .int 0, .int 0, .int 0, .int 1440, .int 1, .int 0, .int 12, .int 0]))] sz) := by
  refine Met.ofW (cc := cX2_chooseOrder) (maxL := 4) (ret := none) (by decide) rfl ?_
  intro p e s m args below meth c s₁ B hml hv
  obtain ⟨rfl, hsz, hG, hP, hD0⟩ := hv
  have hx := B.exec
  have hb := B.bytes
  have hr := B.returns
  have hts := atoms_spec (ws := wsX2_chooseOrder) B.pre
  have hown : s.vm.findClass RX2 = some m.cls := findClass_of_methodNamed B.named
  have hlocks := B.notSynchronized
  have hK := hG.1
  have hN := hG.2
  subst hsz
  have hD := hD0.self (sz := s.heap.size)
  generalize hAe : va_A [(p0, .inr (2, [.ref (b 1), .ref (b 2), .ref (b 3), .ref (b 4), .ref (b 5), .ref (b 6), .ref (b 7), .ref (b 8), .ref (b 9), .ref (b 10), .ref (b 11), .ref (b 12), .int 0, .int 0, .int 0, .int 0])), (b 9, .inl (cI, 1024, .inl f)), (b 4, .inl (cI, 10, .inl (fun _ => 0))), (b 10, .inl (cI, 10, .inl (fun _ => 0))), (b 11, .inl (cI, 10, .inl (fun _ => 0))), (s0, .inr (4, [.ref s1, .ref s2, .int 0, .int 0, .int 0, .int 1440, .int 1, .int 0, .int 12, .int 0]))] s.heap.size = A at hD ⊢
  have hA : ∀ q : Nat, s.heap.size ≤ q → A q := fun q h => by rw [← hAe]; exact Or.inr h
  have hS : va_S A s.heap s.heap [] := va_S.rf
  have hP : va_P D vwCl [(p0, .inr (2, [.ref (b 1), .ref (b 2), .ref (b 3), .ref (b 4), .ref (b 5), .ref (b 6), .ref (b 7), .ref (b 8), .ref (b 9), .ref (b 10), .ref (b 11), .ref (b 12), .int 0, .int 0, .int 0, .int 0])), (b 9, .inl (cI, 1024, .inl f)), (b 4, .inl (cI, 10, .inl (fun _ => 0))), (b 10, .inl (cI, 10, .inl (fun _ => 0))), (b 11, .inl (cI, 10, .inl (fun _ => 0))), (s0, .inr (4, [.ref s1, .ref s2, .int 0, .int 0, .int 0, .int 1440, .int 1, .int 0, .int 12, .int 0]))] s.heap := hP
  have hl := lv_entry ([.ref p0, .ref s0]) (n := 4) (Nat.le_of_ble_eq_true rfl)
  rw [lg_entry_eq]
  generalize (lg_sl ([.ref p0, .ref s0]) ++ List.replicate (4 - (lg_sl ([.ref p0, .ref s0])).length) Slot.unset).toArray = ls at hl ⊢
  have hl : lv_has ls 4 [(0, .ref p0), (1, .ref s0)] := hl
  refine lv_aload_n hx hb dX2_chooseOrder_0 rfl (lv_at hl 0 rfl) ?_
  refine lv_iconst (v := (-1)) hx hb dX2_chooseOrder_1 (by decide) ?_
  refine va_put (D := D) (ci := 2) (v := .int (-1)) (ty := (tyX2 13)) (C := RX2) (T := TX2) (N := 16) hx hb hts (fun _ h9 => List.mem_cons_of_mem _ (List.mem_append_left _ (List.mem_append_right _ h9))) tyX2 tyX2_ok nmX2 hown hK hP hD hS 0 rfl rfl 13 (by decide) (hts (.fieldLink RX2 72 "BuoyTender$Planner" "length" "I") (by decide +kernel)) (fun _ h9 => h9) rfl (by decide +kernel) rfl rfl (Nat.le_of_ble_eq_true rfl) dX2_chooseOrder_2 (fun H locs hP hD hS => ?_)
  have hP : va_P D vwCl [(p0, .inr (2, [.ref (b 1), .ref (b 2), .ref (b 3), .ref (b 4), .ref (b 5), .ref (b 6), .ref (b 7), .ref (b 8), .ref (b 9), .ref (b 10), .ref (b 11), .ref (b 12), .int 0, .int (-1), .int 0, .int 0])), (b 9, .inl (cI, 1024, .inl f)), (b 4, .inl (cI, 10, .inl (fun _ => 0))), (b 10, .inl (cI, 10, .inl (fun _ => 0))), (b 11, .inl (cI, 10, .inl (fun _ => 0))), (s0, .inr (4, [.ref s1, .ref s2, .int 0, .int 0, .int 0, .int 1440, .int 1, .int 0, .int 12, .int 0]))] H := hP
  have hD : va_D A [(p0, .inr (2, [.ref (b 1), .ref (b 2), .ref (b 3), .ref (b 4), .ref (b 5), .ref (b 6), .ref (b 7), .ref (b 8), .ref (b 9), .ref (b 10), .ref (b 11), .ref (b 12), .int 0, .int (-1), .int 0, .int 0])), (b 9, .inl (cI, 1024, .inl f)), (b 4, .inl (cI, 10, .inl (fun _ => 0))), (b 10, .inl (cI, 10, .inl (fun _ => 0))), (b 11, .inl (cI, 10, .inl (fun _ => 0))), (s0, .inr (4, [.ref s1, .ref s2, .int 0, .int 0, .int 0, .int 1440, .int 1, .int 0, .int 12, .int 0]))] := hD
  refine lv_iconst (v := 0) hx hb dX2_chooseOrder_5 (by decide) ?_
  refine lv_istore_n (lv' := [(2, .int 0), (0, .ref p0), (1, .ref s0)]) hx hb dX2_chooseOrder_6 rfl hl (by decide) rfl (fun ls hl => ?_)
  refine lv_iload_n hx hb dX2_chooseOrder_7 rfl (lv_at hl 0 rfl) ?_
  refine lv_iconst (v := 1) hx hb dX2_chooseOrder_8 (by decide) ?_
  refine lv_aload_n hx hb dX2_chooseOrder_9 rfl (lv_at hl 1 rfl) ?_
  refine va_get (D := D) (ci := 2) (v := .int 0) (C := RX2) (T := TX2) (N := 16) hx hb hts (fun _ h9 => List.mem_cons_of_mem _ (List.mem_append_left _ (List.mem_append_right _ h9))) hown hK hP 0 rfl rfl 12 (by decide) (hts (.fieldLink RX2 76 "BuoyTender$Planner" "count" "I") (by decide +kernel)) (fun _ h9 => h9) rfl dX2_chooseOrder_10 ?_
  refine lv_ishl hx hb dX2_chooseOrder_13 ?_
  refine lv_topi (fun z_1 ez_1 => ?_)
  obtain rfl : z_1 = 1 := ez_1.trans (by decide)
  refine lv_icmp_ge (tgt := 95) hx hb dX2_chooseOrder_14 (by decide) (fun c_2 => False.elim (by revert c_2; decide)) (fun _ => ?_)
  refine lv_aload_n hx hb dX2_chooseOrder_17 rfl (lv_at hl 1 rfl) ?_
  refine va_get (D := D) (ci := 2) (v := .ref (b 9)) (C := RX2) (T := TX2) (N := 16) hx hb hts (fun _ h9 => List.mem_cons_of_mem _ (List.mem_append_left _ (List.mem_append_right _ h9))) hown hK hP 0 rfl rfl 8 (by decide) (hts (.fieldLink RX2 36 "BuoyTender$Planner" "backs" "[I") (by decide +kernel)) (fun _ h9 => h9) rfl dX2_chooseOrder_18 ?_
  refine lv_iload_n hx hb dX2_chooseOrder_21 rfl (lv_at hl 0 rfl) ?_
  refine va_iald hx hb hK hP 1 0 rfl rfl (vp_in_nI (n := 0) (N := 1024) (by decide) (by decide)) dX2_chooseOrder_22 ?_
  refine lv_topi (fun z_3 ez_3 => ?_)
  obtain rfl : z_3 = 0 := ez_3.trans hf
  refine lv_aload_n hx hb dX2_chooseOrder_23 rfl (lv_at hl 1 rfl) ?_
  refine va_get (D := D) (ci := 2) (v := .int 0) (C := RX2) (T := TX2) (N := 16) hx hb hts (fun _ h9 => List.mem_cons_of_mem _ (List.mem_append_left _ (List.mem_append_right _ h9))) hown hK hP 0 rfl rfl 15 (by decide) (hts (.fieldLink RX2 162 "BuoyTender$Planner" "bestBack" "I") (by decide +kernel)) (fun _ h9 => h9) rfl dX2_chooseOrder_24 ?_
  refine lv_icmp_ne (tgt := 89) hx hb dX2_chooseOrder_27 (by decide) (fun c_4 => False.elim (by revert c_4; decide)) (fun _ => ?_)
  refine lv_aload_n hx hb dX2_chooseOrder_30 rfl (lv_at hl 1 rfl) ?_
  refine lv_iload_n hx hb dX2_chooseOrder_31 rfl (lv_at hl 0 rfl) ?_
  refine lv_aload_n hx hb dX2_chooseOrder_32 rfl (lv_at hl 1 rfl) ?_
  refine va_get (D := D) (ci := 2) (v := .ref (b 4)) (C := RX2) (T := TX2) (N := 16) hx hb hts (fun _ h9 => List.mem_cons_of_mem _ (List.mem_append_left _ (List.mem_append_right _ h9))) hown hK hP 0 rfl rfl 3 (by decide) (hts (.fieldLink RX2 21 "BuoyTender$Planner" "weights" "[I") (by decide +kernel)) (fun _ h9 => h9) rfl dX2_chooseOrder_33 ?_
  have hPc := hP.sub (ws' := [(p0, .inr (2, [.ref (b 1), .ref (b 2), .ref (b 3), .ref (b 4), .ref (b 5), .ref (b 6), .ref (b 7), .ref (b 8), .ref (b 9), .ref (b 10), .ref (b 11), .ref (b 12), .int 0, .int (-1), .int 0, .int 0]))]) [0] rfl
  refine vp_callSi (va_Run.run (va_runV (As := [.int 0, .ref (b 4)]) (rest := []) ⟨hx, hb, hml, hown, hts⟩ (k_X2_sumOver l D cI cJ cZ cM p0 b (b 4) 0 (-1)) (cwV 2 hts gX2_chooseOrder_X2_sumOver rfl rfl rfl (by decide +kernel) ⟨Nat.le_of_ble_eq_true rfl, Nat.le_of_ble_eq_true rfl⟩) (ro_V hG hPc (va_recv hK hPc (ci := 2) (q0 := 0) rfl rfl)) rfl rfl hl.1 rfl (lv_room (Nat.le_of_ble_eq_true rfl)) dX2_chooseOrder_36 ⟨Nat.le_of_ble_eq_true rfl, Nat.le_of_ble_eq_true rfl⟩)) (fun r_5 h_5 => ?_)
  obtain rfl : r_5 = 0 := h_5
  refine lv_aload_n hx hb dX2_chooseOrder_39 rfl (lv_at hl 1 rfl) ?_
  refine va_get (D := D) (ci := 2) (v := .int 0) (C := RX2) (T := TX2) (N := 16) hx hb hts (fun _ h9 => List.mem_cons_of_mem _ (List.mem_append_left _ (List.mem_append_right _ h9))) hown hK hP 0 rfl rfl 14 (by decide) (hts (.fieldLink RX2 159 "BuoyTender$Planner" "bestWeight" "I") (by decide +kernel)) (fun _ h9 => h9) rfl dX2_chooseOrder_40 ?_
  refine lv_icmp_ne (tgt := 89) hx hb dX2_chooseOrder_43 (by decide) (fun c_6 => False.elim (by revert c_6; decide)) (fun _ => ?_)
  refine lv_aload_n hx hb dX2_chooseOrder_46 rfl (lv_at hl 1 rfl) ?_
  refine lv_iload_n hx hb dX2_chooseOrder_47 rfl (lv_at hl 0 rfl) ?_
  refine lv_aload_n hx hb dX2_chooseOrder_48 rfl (lv_at hl 2 rfl) ?_
  have hPc := hP.sub (ws' := [(p0, .inr (2, [.ref (b 1), .ref (b 2), .ref (b 3), .ref (b 4), .ref (b 5), .ref (b 6), .ref (b 7), .ref (b 8), .ref (b 9), .ref (b 10), .ref (b 11), .ref (b 12), .int 0, .int (-1), .int 0, .int 0])), (s0, .inr (4, [.ref s1, .ref s2, .int 0, .int 0, .int 0, .int 1440, .int 1, .int 0, .int 12, .int 0]))]) [0, 5] rfl
  refine vp_callSi (va_Run.run (va_runV (As := [.int 0, .ref s0]) (rest := []) ⟨hx, hb, hml, hown, hts⟩ (k_X2_tryFirstOrder l D cI cJ cZ cM p0 b s0 s1 s2 0 (-1)) (cwV 2 hts gX2_chooseOrder_X2_tryFirstOrder rfl rfl rfl (by decide +kernel) ⟨Nat.le_of_ble_eq_true rfl, Nat.le_of_ble_eq_true rfl⟩) (ro_V hG hPc (va_recv hK hPc (ci := 2) (q0 := 0) rfl rfl)) rfl rfl hl.1 rfl (lv_room (Nat.le_of_ble_eq_true rfl)) dX2_chooseOrder_49 ⟨Nat.le_of_ble_eq_true rfl, Nat.le_of_ble_eq_true rfl⟩)) (fun r_7 h_7 => ?_)
  obtain rfl : r_7 = 0 := h_7
  refine lv_istore_n (lv' := [(3, .int 0), (2, .int 0), (0, .ref p0), (1, .ref s0)]) hx hb dX2_chooseOrder_52 rfl hl (by decide) rfl (fun ls hl => ?_)
  refine lv_aload_n hx hb dX2_chooseOrder_53 rfl (lv_at hl 2 rfl) ?_
  refine va_get (D := D) (ci := 2) (v := .int (-1)) (C := RX2) (T := TX2) (N := 16) hx hb hts (fun _ h9 => List.mem_cons_of_mem _ (List.mem_append_left _ (List.mem_append_right _ h9))) hown hK hP 0 rfl rfl 13 (by decide) (hts (.fieldLink RX2 72 "BuoyTender$Planner" "length" "I") (by decide +kernel)) (fun _ h9 => h9) rfl dX2_chooseOrder_54 ?_
  refine lv_iconst (v := (-1)) hx hb dX2_chooseOrder_57 (by decide) ?_
  refine lv_icmp_eq (tgt := 69) hx hb dX2_chooseOrder_58 (by decide) (fun _ => ?_) (fun c_8 => False.elim (by revert c_8; decide))
  refine lv_aload_n hx hb dX2_chooseOrder_69 rfl (lv_at hl 2 rfl) ?_
  refine va_get (D := D) (ci := 2) (v := .ref (b 10)) (C := RX2) (T := TX2) (N := 16) hx hb hts (fun _ h9 => List.mem_cons_of_mem _ (List.mem_append_left _ (List.mem_append_right _ h9))) hown hK hP 0 rfl rfl 9 (by decide) (hts (.fieldLink RX2 39 "BuoyTender$Planner" "tried" "[I") (by decide +kernel)) (fun _ h9 => h9) rfl dX2_chooseOrder_70 ?_
  refine lv_iconst (v := 0) hx hb dX2_chooseOrder_73 (by decide) ?_
  refine lv_aload_n hx hb dX2_chooseOrder_74 rfl (lv_at hl 2 rfl) ?_
  refine va_get (D := D) (ci := 2) (v := .ref (b 11)) (C := RX2) (T := TX2) (N := 16) hx hb hts (fun _ h9 => List.mem_cons_of_mem _ (List.mem_append_left _ (List.mem_append_right _ h9))) hown hK hP 0 rfl rfl 10 (by decide) (hts (.fieldLink RX2 42 "BuoyTender$Planner" "order" "[I") (by decide +kernel)) (fun _ h9 => h9) rfl dX2_chooseOrder_75 ?_
  refine lv_iconst (v := 0) hx hb dX2_chooseOrder_78 (by decide) ?_
  refine lv_bipush (v := 10) hx hb dX2_chooseOrder_79 (by decide) ?_
  refine va_copyi hx hb (hml.trans hl.1.symm) hown (hts (.methodLink RX2 179 arraycopyName) (by decide +kernel)) (hts (.native arraycopyName) (by decide +kernel)) (hts (.static arraycopyName) (by decide +kernel)) (hts (.initialized "java/lang/System") (by decide +kernel)) hK hP hD hS 3 4 0 0 rfl rfl rfl rfl rfl (by decide) (by decide) (by decide) (by decide) (by decide) (fun _ _ => rfl) (Nat.le_of_ble_eq_true rfl) (Nat.le_of_ble_eq_true rfl) dX2_chooseOrder_81 (fun H locs hP hD hS => ?_)
  have hP : va_P D vwCl [(p0, .inr (2, [.ref (b 1), .ref (b 2), .ref (b 3), .ref (b 4), .ref (b 5), .ref (b 6), .ref (b 7), .ref (b 8), .ref (b 9), .ref (b 10), .ref (b 11), .ref (b 12), .int 0, .int (-1), .int 0, .int 0])), (b 9, .inl (cI, 1024, .inl f)), (b 4, .inl (cI, 10, .inl (fun _ => 0))), (b 10, .inl (cI, 10, .inl (fun _ => 0))), (b 11, .inl (cI, 10, .inl (va_cpy (fun _ => 0) (fun _ => 0) (0 : Int32).toNatClampNeg (0 : Int32).toNatClampNeg (10 : Int32).toNatClampNeg))), (s0, .inr (4, [.ref s1, .ref s2, .int 0, .int 0, .int 0, .int 1440, .int 1, .int 0, .int 12, .int 0]))] H := hP
  have hD : va_D A [(p0, .inr (2, [.ref (b 1), .ref (b 2), .ref (b 3), .ref (b 4), .ref (b 5), .ref (b 6), .ref (b 7), .ref (b 8), .ref (b 9), .ref (b 10), .ref (b 11), .ref (b 12), .int 0, .int (-1), .int 0, .int 0])), (b 9, .inl (cI, 1024, .inl f)), (b 4, .inl (cI, 10, .inl (fun _ => 0))), (b 10, .inl (cI, 10, .inl (fun _ => 0))), (b 11, .inl (cI, 10, .inl (va_cpy (fun _ => 0) (fun _ => 0) (0 : Int32).toNatClampNeg (0 : Int32).toNatClampNeg (10 : Int32).toNatClampNeg))), (s0, .inr (4, [.ref s1, .ref s2, .int 0, .int 0, .int 0, .int 1440, .int 1, .int 0, .int 12, .int 0]))] := hD
  refine lv_aload_n hx hb dX2_chooseOrder_84 rfl (lv_at hl 2 rfl) ?_
  refine lv_iload_n hx hb dX2_chooseOrder_85 rfl (lv_at hl 0 rfl) ?_
  refine va_put (D := D) (ci := 2) (v := .int 0) (ty := (tyX2 13)) (C := RX2) (T := TX2) (N := 16) hx hb hts (fun _ h9 => List.mem_cons_of_mem _ (List.mem_append_left _ (List.mem_append_right _ h9))) tyX2 tyX2_ok nmX2 hown hK hP hD hS 0 rfl rfl 13 (by decide) (hts (.fieldLink RX2 72 "BuoyTender$Planner" "length" "I") (by decide +kernel)) (fun _ h9 => h9) rfl (by decide +kernel) rfl rfl (Nat.le_of_ble_eq_true rfl) dX2_chooseOrder_86 (fun H locs hP hD hS => ?_)
  have hP : va_P D vwCl [(p0, .inr (2, [.ref (b 1), .ref (b 2), .ref (b 3), .ref (b 4), .ref (b 5), .ref (b 6), .ref (b 7), .ref (b 8), .ref (b 9), .ref (b 10), .ref (b 11), .ref (b 12), .int 0, .int 0, .int 0, .int 0])), (b 9, .inl (cI, 1024, .inl f)), (b 4, .inl (cI, 10, .inl (fun _ => 0))), (b 10, .inl (cI, 10, .inl (fun _ => 0))), (b 11, .inl (cI, 10, .inl (va_cpy (fun _ => 0) (fun _ => 0) (0 : Int32).toNatClampNeg (0 : Int32).toNatClampNeg (10 : Int32).toNatClampNeg))), (s0, .inr (4, [.ref s1, .ref s2, .int 0, .int 0, .int 0, .int 1440, .int 1, .int 0, .int 12, .int 0]))] H := hP
  have hD : va_D A [(p0, .inr (2, [.ref (b 1), .ref (b 2), .ref (b 3), .ref (b 4), .ref (b 5), .ref (b 6), .ref (b 7), .ref (b 8), .ref (b 9), .ref (b 10), .ref (b 11), .ref (b 12), .int 0, .int 0, .int 0, .int 0])), (b 9, .inl (cI, 1024, .inl f)), (b 4, .inl (cI, 10, .inl (fun _ => 0))), (b 10, .inl (cI, 10, .inl (fun _ => 0))), (b 11, .inl (cI, 10, .inl (va_cpy (fun _ => 0) (fun _ => 0) (0 : Int32).toNatClampNeg (0 : Int32).toNatClampNeg (10 : Int32).toNatClampNeg))), (s0, .inr (4, [.ref s1, .ref s2, .int 0, .int 0, .int 0, .int 1440, .int 1, .int 0, .int 12, .int 0]))] := hD
  refine lv_iinc (v := 1) (lv' := [(2, .int 1), (3, .int 0), (0, .ref p0), (1, .ref s0)]) hx hb dX2_chooseOrder_89 hl (k := 1) rfl (by decide) (by decide) rfl (fun ls hl => ?_)
  refine lv_goto (tgt := 7) hx hb dX2_chooseOrder_92 (by decide) ?_
  refine lv_iload_n hx hb dX2_chooseOrder_7 rfl (lv_at hl 0 rfl) ?_
  refine lv_iconst (v := 1) hx hb dX2_chooseOrder_8 (by decide) ?_
  refine lv_aload_n hx hb dX2_chooseOrder_9 rfl (lv_at hl 2 rfl) ?_
  refine va_get (D := D) (ci := 2) (v := .int 0) (C := RX2) (T := TX2) (N := 16) hx hb hts (fun _ h9 => List.mem_cons_of_mem _ (List.mem_append_left _ (List.mem_append_right _ h9))) hown hK hP 0 rfl rfl 12 (by decide) (hts (.fieldLink RX2 76 "BuoyTender$Planner" "count" "I") (by decide +kernel)) (fun _ h9 => h9) rfl dX2_chooseOrder_10 ?_
  refine lv_ishl hx hb dX2_chooseOrder_13 ?_
  refine lv_topi (fun z_9 ez_9 => ?_)
  obtain rfl : z_9 = 1 := ez_9.trans (by decide)
  refine lv_icmp_ge (tgt := 95) hx hb dX2_chooseOrder_14 (by decide) (fun _ => ?_) (fun c_10 => False.elim (by revert c_10; decide))
  have hP9 := hP.sub (ws' := [(p0, .inr (2, [.ref (b 1), .ref (b 2), .ref (b 3), .ref (b 4), .ref (b 5), .ref (b 6), .ref (b 7), .ref (b 8), .ref (b 9), .ref (b 10), .ref (b 11), .ref (b 12), .int 0, .int 0, .int 0, .int 0])), (s0, .inr (4, [.ref s1, .ref s2, .int 0, .int 0, .int 0, .int 1440, .int 1, .int 0, .int 12, .int 0]))]) [0, 5] rfl
  have hD9 := hD.sub (ws' := [(p0, .inr (2, [.ref (b 1), .ref (b 2), .ref (b 3), .ref (b 4), .ref (b 5), .ref (b 6), .ref (b 7), .ref (b 8), .ref (b 9), .ref (b 10), .ref (b 11), .ref (b 12), .int 0, .int 0, .int 0, .int 0])), (s0, .inr (4, [.ref s1, .ref s2, .int 0, .int 0, .int 0, .int 1440, .int 1, .int 0, .int 12, .int 0]))]) [0, 5] (by decide) rfl
  exact W.vret hx hb hr (fun t ht hW => ⟨⟨(), rfl, trivial, ⟨by rw [ht]; exact hP9, hD9⟩⟩, hS.F ht⟩) hS.2.2 dX2_chooseOrder_95
set_option maxHeartbeats 4000000 in
set_option maxRecDepth 100000 in
/-- no job -/
theorem k_X2_timeOrder (l : Launch) (D : va_G) (cI cJ cZ cM : Nat) (p0 : Nat) (b : Nat → Nat) (s0 : Nat) (s1 : Nat) (s2 : Nat) : Met l yX2_timeOrder wsX2_timeOrder ({ frames := 0, cells := 0, slots := 0, locals := 0 } : Room) (RO D cI cJ cZ cM [.ref p0, .ref s0] [(p0, .inr (2, [.ref (b 1), .ref (b 2), .ref (b 3), .ref (b 4), .ref (b 5), .ref (b 6), .ref (b 7), .ref (b 8), .ref (b 9), .ref (b 10), .ref (b 11), .ref (b 12), .int 0, .int 0, .int 0, .int 0])), (s0, .inr (4, [.ref s1, .ref s2, .int 0, .int 0, .int 0, .int 1440, .int 1, .int 0, .int 12, .int 0]))]) (va_Sv (fun _ => True)) 0 0 (fun _ => False) := by
  refine Met.ofW (cc := cX2_timeOrder) (maxL := 6) (ret := none) (by decide) rfl ?_
  intro p e s m args below meth c s₁ B hml hv
  obtain ⟨rfl, hG, hP⟩ := hv
  have hx := B.exec
  have hb := B.bytes
  have hr := B.returns
  have hts := atoms_spec (ws := wsX2_timeOrder) B.pre
  have hown : s.vm.findClass RX2 = some m.cls := findClass_of_methodNamed B.named
  have hlocks := B.notSynchronized
  have hK := hG.1
  have hN := hG.2
  have hl := lv_entry ([.ref p0, .ref s0]) (n := 6) (Nat.le_of_ble_eq_true rfl)
  rw [lg_entry_eq]
  generalize (lg_sl ([.ref p0, .ref s0]) ++ List.replicate (6 - (lg_sl ([.ref p0, .ref s0])).length) Slot.unset).toArray = ls at hl ⊢
  have hl : lv_has ls 6 [(0, .ref p0), (1, .ref s0)] := hl
  refine lv_bipush (v := 10) hx hb dX2_timeOrder_0 (by decide) ?_
  refine lv_istore_n (lv' := [(2, .int 10), (0, .ref p0), (1, .ref s0)]) hx hb dX2_timeOrder_2 rfl hl (by decide) rfl (fun ls hl => ?_)
  refine lv_aload_n hx hb dX2_timeOrder_3 rfl (lv_at hl 2 rfl) ?_
  refine va_getN (D := D) (ci := 4) (v := .int 0) (C := RX4) (T := TX4) (N := 10) hx hb hts (fun _ h9 => List.mem_cons_of_mem _ (List.mem_append_left _ (List.mem_append_right _ h9))) hown hK hP 1 rfl rfl 4 (by decide) (va_Nw.use rfl (hN.1 (RX2, 136, "BuoyTender$Ship", "minute", "I", "BuoyTender") (by decide +kernel))) (fun _ h9 => h9) rfl dX2_timeOrder_4 ?_
  refine lv_istore_n (lv' := [(3, .int 0), (2, .int 10), (0, .ref p0), (1, .ref s0)]) hx hb dX2_timeOrder_7 rfl hl (by decide) rfl (fun ls hl => ?_)
  refine lv_iconst (v := 0) hx hb dX2_timeOrder_8 (by decide) ?_
  refine lv_istore (lv' := [(4, .int 0), (3, .int 0), (2, .int 10), (0, .ref p0), (1, .ref s0)]) hx hb dX2_timeOrder_9 hl (by decide) rfl (fun ls hl => ?_)
  refine lv_iload hx hb dX2_timeOrder_11 (lv_at hl 0 rfl) ?_
  refine lv_aload_n hx hb dX2_timeOrder_13 rfl (lv_at hl 3 rfl) ?_
  refine va_get (D := D) (ci := 2) (v := .int 0) (C := RX2) (T := TX2) (N := 16) hx hb hts (fun _ h9 => List.mem_cons_of_mem _ (List.mem_append_right _ h9)) hown hK hP 0 rfl rfl 13 (by decide) (hts (.fieldLink RX2 72 "BuoyTender$Planner" "length" "I") (by decide +kernel)) (fun _ h9 => h9) rfl dX2_timeOrder_14 ?_
  refine lv_icmp_ge (tgt := 81) hx hb dX2_timeOrder_17 (by decide) (fun _ => ?_) (fun c_1 => False.elim (by revert c_1; decide))
  exact W.vret hx hb hr (fun t ht hW => ⟨rfl, trivial, ht⟩) (fun _ h => by cases h) dX2_timeOrder_81
set_option maxHeartbeats 4000000 in
set_option maxRecDepth 100000 in
/-- no job: 0 -/
theorem k_X2_loadDone (l : Launch) (D : va_G) (cI cJ cZ cM : Nat) (p0 : Nat) (b : Nat → Nat) : Met l yX2_loadDone wsX2_loadDone ({ frames := 0, cells := 0, slots := 0, locals := 0 } : Room) (RO D cI cJ cZ cM [.ref p0] [(p0, .inr (2, [.ref (b 1), .ref (b 2), .ref (b 3), .ref (b 4), .ref (b 5), .ref (b 6), .ref (b 7), .ref (b 8), .ref (b 9), .ref (b 10), .ref (b 11), .ref (b 12), .int 0, .int 0, .int 0, .int 0]))]) (vp_Si (fun r => r = 0)) 0 0 (fun _ => False) := by
  refine Met.ofW (cc := cX2_loadDone) (maxL := 3) (ret := (some .int)) (by decide) rfl ?_
  intro p e s m args below meth c s₁ B hml hv
  obtain ⟨rfl, hG, hP⟩ := hv
  have hx := B.exec
  have hb := B.bytes
  have hr := B.returns
  have hts := atoms_spec (ws := wsX2_loadDone) B.pre
  have hown : s.vm.findClass RX2 = some m.cls := findClass_of_methodNamed B.named
  have hlocks := B.notSynchronized
  have hK := hG.1
  have hN := hG.2
  have hl := lv_entry ([.ref p0]) (n := 3) (Nat.le_of_ble_eq_true rfl)
  rw [lg_entry_eq]
  generalize (lg_sl ([.ref p0]) ++ List.replicate (3 - (lg_sl ([.ref p0])).length) Slot.unset).toArray = ls at hl ⊢
  have hl : lv_has ls 3 [(0, .ref p0)] := hl
  refine lv_iconst (v := 0) hx hb dX2_loadDone_0 (by decide) ?_
  refine lv_istore_n (lv' := [(1, .int 0), (0, .ref p0)]) hx hb dX2_loadDone_1 rfl hl (by decide) rfl (fun ls hl => ?_)
  refine lv_iconst (v := 0) hx hb dX2_loadDone_2 (by decide) ?_
  refine lv_istore_n (lv' := [(2, .int 0), (1, .int 0), (0, .ref p0)]) hx hb dX2_loadDone_3 rfl hl (by decide) rfl (fun ls hl => ?_)
  refine lv_iload_n hx hb dX2_loadDone_4 rfl (lv_at hl 0 rfl) ?_
  refine lv_aload_n hx hb dX2_loadDone_5 rfl (lv_at hl 2 rfl) ?_
  refine va_get (D := D) (ci := 2) (v := .int 0) (C := RX2) (T := TX2) (N := 16) hx hb hts (fun _ h9 => List.mem_cons_of_mem _ (List.mem_append_right _ h9)) hown hK hP 0 rfl rfl 13 (by decide) (hts (.fieldLink RX2 72 "BuoyTender$Planner" "length" "I") (by decide +kernel)) (fun _ h9 => h9) rfl dX2_loadDone_6 ?_
  refine lv_icmp_ge (tgt := 32) hx hb dX2_loadDone_9 (by decide) (fun _ => ?_) (fun c_1 => False.elim (by revert c_1; decide))
  refine lv_iload_n hx hb dX2_loadDone_32 rfl (lv_at hl 1 rfl) ?_
  exact W.iret (v := 0) hx hb hr (fun t ht hW => ⟨0, rfl, rfl, ht⟩) (fun _ h => by cases h) dX2_loadDone_33
set_option maxHeartbeats 4000000 in
set_option maxRecDepth 100000 in
/-- no job: none -/
theorem k_X2_step (l : Launch) (D : va_G) (cI cJ cZ cM : Nat) (p0 : Nat) (b : Nat → Nat) (x1 : Int32) : Met l yX2_step wsX2_step ({ frames := 0, cells := 0, slots := 0, locals := 0 } : Room) (RO D cI cJ cZ cM [.ref p0, .int x1] [(p0, .inr (2, [.ref (b 1), .ref (b 2), .ref (b 3), .ref (b 4), .ref (b 5), .ref (b 6), .ref (b 7), .ref (b 8), .ref (b 9), .ref (b 10), .ref (b 11), .ref (b 12), .int 0, .int 0, .int 0, .int 0]))]) (vp_Si (fun r => r = -1)) 0 0 (fun _ => False) := by
  refine Met.ofW (cc := cX2_step) (maxL := 2) (ret := (some .int)) (by decide) rfl ?_
  intro p e s m args below meth c s₁ B hml hv
  obtain ⟨rfl, hG, hP⟩ := hv
  have hx := B.exec
  have hb := B.bytes
  have hr := B.returns
  have hts := atoms_spec (ws := wsX2_step) B.pre
  have hown : s.vm.findClass RX2 = some m.cls := findClass_of_methodNamed B.named
  have hlocks := B.notSynchronized
  have hK := hG.1
  have hN := hG.2
  have hl := lv_entry ([.ref p0, .int x1]) (n := 2) (Nat.le_of_ble_eq_true rfl)
  rw [lg_entry_eq]
  generalize (lg_sl ([.ref p0, .int x1]) ++ List.replicate (2 - (lg_sl ([.ref p0, .int x1])).length) Slot.unset).toArray = ls at hl ⊢
  have hl : lv_has ls 2 [(0, .ref p0), (1, .int x1)] := hl
  refine lv_iload_n hx hb dX2_step_0 rfl (lv_at hl 1 rfl) ?_
  refine lv_bipush (v := 100) hx hb dX2_step_1 (by decide) ?_
  refine lv_icmp_lt (tgt := 32) hx hb dX2_step_3 (by decide) (fun c_1 => ?_) (fun c_1 => ?_)
  · refine lv_iload_n hx hb dX2_step_32 rfl (lv_at hl 1 rfl) ?_
    refine lv_sipush (v := 200) hx hb dX2_step_33 (by decide) ?_
    refine lv_icmp_lt (tgt := 62) hx hb dX2_step_36 (by decide) (fun c_2 => ?_) (fun c_2 => ?_)
    · refine lv_iconst (v := (-1)) hx hb dX2_step_62 (by decide) ?_
      exact W.iret (v := (-1)) hx hb hr (fun t ht hW => ⟨(-1), rfl, rfl, ht⟩) (fun _ h => by cases h) dX2_step_63
    refine lv_iload_n hx hb dX2_step_39 rfl (lv_at hl 1 rfl) ?_
    refine lv_sipush (v := 200) hx hb dX2_step_40 (by decide) ?_
    refine lv_aload_n hx hb dX2_step_43 rfl (lv_at hl 0 rfl) ?_
    refine va_get (D := D) (ci := 2) (v := .int 0) (C := RX2) (T := TX2) (N := 16) hx hb hts (fun _ h9 => List.mem_cons_of_mem _ (List.mem_append_right _ h9)) hown hK hP 0 rfl rfl 13 (by decide) (hts (.fieldLink RX2 72 "BuoyTender$Planner" "length" "I") (by decide +kernel)) (fun _ h9 => h9) rfl dX2_step_44 ?_
    refine lv_iadd hx hb dX2_step_47 ?_
    refine lv_topi (fun z_3 ez_3 => ?_)
    obtain rfl : z_3 = 200 := ez_3.trans (by decide)
    refine lv_icmp_ge (tgt := 62) hx hb dX2_step_48 (by decide) (fun c_4 => ?_) (fun c_4 => absurd (Int32.not_lt.mp c_2) c_4)
    refine lv_iconst (v := (-1)) hx hb dX2_step_62 (by decide) ?_
    exact W.iret (v := (-1)) hx hb hr (fun t ht hW => ⟨(-1), rfl, rfl, ht⟩) (fun _ h => by cases h) dX2_step_63
  refine lv_iload_n hx hb dX2_step_6 rfl (lv_at hl 1 rfl) ?_
  refine lv_bipush (v := 100) hx hb dX2_step_7 (by decide) ?_
  refine lv_aload_n hx hb dX2_step_9 rfl (lv_at hl 0 rfl) ?_
  refine va_get (D := D) (ci := 2) (v := .int 0) (C := RX2) (T := TX2) (N := 16) hx hb hts (fun _ h9 => List.mem_cons_of_mem _ (List.mem_append_right _ h9)) hown hK hP 0 rfl rfl 13 (by decide) (hts (.fieldLink RX2 72 "BuoyTender$Planner" "length" "I") (by decide +kernel)) (fun _ h9 => h9) rfl dX2_step_10 ?_
  refine lv_iadd hx hb dX2_step_13 ?_
  refine lv_topi (fun z_5 ez_5 => ?_)
  obtain rfl : z_5 = 100 := ez_5.trans (by decide)
  refine lv_icmp_ge (tgt := 32) hx hb dX2_step_14 (by decide) (fun c_6 => ?_) (fun c_6 => absurd (Int32.not_lt.mp c_1) c_6)
  refine lv_iload_n hx hb dX2_step_32 rfl (lv_at hl 1 rfl) ?_
  refine lv_sipush (v := 200) hx hb dX2_step_33 (by decide) ?_
  refine lv_icmp_lt (tgt := 62) hx hb dX2_step_36 (by decide) (fun c_7 => ?_) (fun c_7 => ?_)
  · refine lv_iconst (v := (-1)) hx hb dX2_step_62 (by decide) ?_
    exact W.iret (v := (-1)) hx hb hr (fun t ht hW => ⟨(-1), rfl, rfl, ht⟩) (fun _ h => by cases h) dX2_step_63
  refine lv_iload_n hx hb dX2_step_39 rfl (lv_at hl 1 rfl) ?_
  refine lv_sipush (v := 200) hx hb dX2_step_40 (by decide) ?_
  refine lv_aload_n hx hb dX2_step_43 rfl (lv_at hl 0 rfl) ?_
  refine va_get (D := D) (ci := 2) (v := .int 0) (C := RX2) (T := TX2) (N := 16) hx hb hts (fun _ h9 => List.mem_cons_of_mem _ (List.mem_append_right _ h9)) hown hK hP 0 rfl rfl 13 (by decide) (hts (.fieldLink RX2 72 "BuoyTender$Planner" "length" "I") (by decide +kernel)) (fun _ h9 => h9) rfl dX2_step_44 ?_
  refine lv_iadd hx hb dX2_step_47 ?_
  refine lv_topi (fun z_8 ez_8 => ?_)
  obtain rfl : z_8 = 200 := ez_8.trans (by decide)
  refine lv_icmp_ge (tgt := 62) hx hb dX2_step_48 (by decide) (fun c_9 => ?_) (fun c_9 => absurd (Int32.not_lt.mp c_7) c_9)
  refine lv_iconst (v := (-1)) hx hb dX2_step_62 (by decide) ?_
  exact W.iret (v := (-1)) hx hb hr (fun t ht hW => ⟨(-1), rfl, rfl, ht⟩) (fun _ h => by cases h) dX2_step_63
set_option maxHeartbeats 4000000 in
set_option maxRecDepth 100000 in
/-- the empty round -/
theorem k_X2_plan (l : Launch) (D : va_G) (cI cJ cZ cM : Nat) (p0 : Nat) (b : Nat → Nat) (m0 : Nat) (d0 : Nat) (s0 : Nat) (s1 : Nat) (s2 : Nat) (sz : Nat) : Met l yX2_plan wsX2_plan ({ frames := 2, cells := 0, slots := 0, locals := 83 } : Room) (RW D cI cJ cZ cM [.ref p0, .ref m0, .ref d0, .ref s0] [(p0, .inr (2, [.ref (b 1), .ref (b 2), .ref (b 3), .ref (b 4), .ref (b 5), .ref (b 6), .ref (b 7), .ref (b 8), .ref (b 9), .ref (b 10), .ref (b 11), .ref (b 12), .int 0, .int 0, .int 0, .int 0])), (m0, .inl (cM, 10, .inr (.inr (.inr (.inr (fun _ => none)))))), (b 9, .inl (cI, 1024, .inl (fun _ => 0))), (b 4, .inl (cI, 10, .inl (fun _ => 0))), (b 10, .inl (cI, 10, .inl (fun _ => 0))), (b 11, .inl (cI, 10, .inl (fun _ => 0))), (s0, .inr (4, [.ref s1, .ref s2, .int 0, .int 0, .int 0, .int 1440, .int 1, .int 0, .int 12, .int 0]))] sz) (va_Qv (S := Unit) (fun u => True) (BB D (fun _ => [(p0, .inr (2, [.ref (b 1), .ref (b 2), .ref (b 3), .ref (b 4), .ref (b 5), .ref (b 6), .ref (b 7), .ref (b 8), .ref (b 9), .ref (b 10), .ref (b 11), .ref (b 12), .int 0, .int 0, .int 0, .int 0]))]) (va_A [(p0, .inr (2, [.ref (b 1), .ref (b 2), .ref (b 3), .ref (b 4), .ref (b 5), .ref (b 6), .ref (b 7), .ref (b 8), .ref (b 9), .ref (b 10), .ref (b 11), .ref (b 12), .int 0, .int 0, .int 0, .int 0])), (m0, .inl (cM, 10, .inr (.inr (.inr (.inr (fun _ => none)))))), (b 9, .inl (cI, 1024, .inl (fun _ => 0))), (b 4, .inl (cI, 10, .inl (fun _ => 0))), (b 10, .inl (cI, 10, .inl (fun _ => 0))), (b 11, .inl (cI, 10, .inl (fun _ => 0))), (s0, .inr (4, [.ref s1, .ref s2, .int 0, .int 0, .int 0, .int 1440, .int 1, .int 0, .int 12, .int 0]))] sz)) (va_A [(p0, .inr (2, [.ref (b 1), .ref (b 2), .ref (b 3), .ref (b 4), .ref (b 5), .ref (b 6), .ref (b 7), .ref (b 8), .ref (b 9), .ref (b 10), .ref (b 11), .ref (b 12), .int 0, .int 0, .int 0, .int 0])), (m0, .inl (cM, 10, .inr (.inr (.inr (.inr (fun _ => none)))))), (b 9, .inl (cI, 1024, .inl (fun _ => 0))), (b 4, .inl (cI, 10, .inl (fun _ => 0))), (b 10, .inl (cI, 10, .inl (fun _ => 0))), (b 11, .inl (cI, 10, .inl (fun _ => 0))), (s0, .inr (4, [.ref s1, .ref s2, .int 0, .int 0, .int 0, .int 1440, .int 1, .int 0, .int 12, .int 0]))] sz)) 0 0 (va_A [(p0, .inr (2, [.ref (b 1), .ref (b 2), .ref (b 3), .ref (b 4), .ref (b 5), .ref (b 6), .ref (b 7), .ref (b 8), .ref (b 9), .ref (b 10), .ref (b 11), .ref (b 12), .int 0, .int 0, .int 0, .int 0])), (m0, .inl (cM, 10, .inr (.inr (.inr (.inr (fun _ => none)))))), (b 9, .inl (cI, 1024, .inl (fun _ => 0))), (b 4, .inl (cI, 10, .inl (fun _ => 0))), (b 10, .inl (cI, 10, .inl (fun _ => 0))), (b 11, .inl (cI, 10, .inl (fun _ => 0))), (s0, .inr (4, [.ref s1, .ref s2, .int 0, .int 0, .int 0, .int 1440, .int 1, .int 0, .int 12, .int 0]))] sz) := by
  refine Met.ofW (cc := cX2_plan) (maxL := 4) (ret := none) (by decide) rfl ?_
  intro p e s m args below meth c s₁ B hml hv
  obtain ⟨rfl, hsz, hG, hP, hD0⟩ := hv
  have hx := B.exec
  have hb := B.bytes
  have hr := B.returns
  have hts := atoms_spec (ws := wsX2_plan) B.pre
  have hown : s.vm.findClass RX2 = some m.cls := findClass_of_methodNamed B.named
  have hlocks := B.notSynchronized
  have hK := hG.1
  have hN := hG.2
  subst hsz
  have hD := hD0.self (sz := s.heap.size)
  generalize hAe : va_A [(p0, .inr (2, [.ref (b 1), .ref (b 2), .ref (b 3), .ref (b 4), .ref (b 5), .ref (b 6), .ref (b 7), .ref (b 8), .ref (b 9), .ref (b 10), .ref (b 11), .ref (b 12), .int 0, .int 0, .int 0, .int 0])), (m0, .inl (cM, 10, .inr (.inr (.inr (.inr (fun _ => none)))))), (b 9, .inl (cI, 1024, .inl (fun _ => 0))), (b 4, .inl (cI, 10, .inl (fun _ => 0))), (b 10, .inl (cI, 10, .inl (fun _ => 0))), (b 11, .inl (cI, 10, .inl (fun _ => 0))), (s0, .inr (4, [.ref s1, .ref s2, .int 0, .int 0, .int 0, .int 1440, .int 1, .int 0, .int 12, .int 0]))] s.heap.size = A at hD ⊢
  have hA : ∀ q : Nat, s.heap.size ≤ q → A q := fun q h => by rw [← hAe]; exact Or.inr h
  have hS : va_S A s.heap s.heap [] := va_S.rf
  have hP : va_P D vwCl [(p0, .inr (2, [.ref (b 1), .ref (b 2), .ref (b 3), .ref (b 4), .ref (b 5), .ref (b 6), .ref (b 7), .ref (b 8), .ref (b 9), .ref (b 10), .ref (b 11), .ref (b 12), .int 0, .int 0, .int 0, .int 0])), (m0, .inl (cM, 10, .inr (.inr (.inr (.inr (fun _ => none)))))), (b 9, .inl (cI, 1024, .inl (fun _ => 0))), (b 4, .inl (cI, 10, .inl (fun _ => 0))), (b 10, .inl (cI, 10, .inl (fun _ => 0))), (b 11, .inl (cI, 10, .inl (fun _ => 0))), (s0, .inr (4, [.ref s1, .ref s2, .int 0, .int 0, .int 0, .int 1440, .int 1, .int 0, .int 12, .int 0]))] s.heap := hP
  have hl := lv_entry ([.ref p0, .ref m0, .ref d0, .ref s0]) (n := 4) (Nat.le_of_ble_eq_true rfl)
  rw [lg_entry_eq]
  generalize (lg_sl ([.ref p0, .ref m0, .ref d0, .ref s0]) ++ List.replicate (4 - (lg_sl ([.ref p0, .ref m0, .ref d0, .ref s0])).length) Slot.unset).toArray = ls at hl ⊢
  have hl : lv_has ls 4 [(0, .ref p0), (1, .ref m0), (2, .ref d0), (3, .ref s0)] := hl
  refine lv_aload_n hx hb dX2_plan_0 rfl (lv_at hl 0 rfl) ?_
  refine lv_aload_n hx hb dX2_plan_1 rfl (lv_at hl 1 rfl) ?_
  refine lv_aload_n hx hb dX2_plan_2 rfl (lv_at hl 2 rfl) ?_
  refine lv_aload_n hx hb dX2_plan_3 rfl (lv_at hl 3 rfl) ?_
  have hPc := hP.sub (ws' := [(p0, .inr (2, [.ref (b 1), .ref (b 2), .ref (b 3), .ref (b 4), .ref (b 5), .ref (b 6), .ref (b 7), .ref (b 8), .ref (b 9), .ref (b 10), .ref (b 11), .ref (b 12), .int 0, .int 0, .int 0, .int 0])), (m0, .inl (cM, 10, .inr (.inr (.inr (.inr (fun _ => none))))))]) [0, 1] rfl
  have hDc := hD.sub (ws' := [(p0, .inr (2, [.ref (b 1), .ref (b 2), .ref (b 3), .ref (b 4), .ref (b 5), .ref (b 6), .ref (b 7), .ref (b 8), .ref (b 9), .ref (b 10), .ref (b 11), .ref (b 12), .int 0, .int 0, .int 0, .int 0])), (m0, .inl (cM, 10, .inr (.inr (.inr (.inr (fun _ => none))))))]) [0, 1] (by decide) rfl
  have hFc := va_free (wc := [(p0, .inr (2, [.ref (b 1), .ref (b 2), .ref (b 3), .ref (b 4), .ref (b 5), .ref (b 6), .ref (b 7), .ref (b 8), .ref (b 9), .ref (b 10), .ref (b 11), .ref (b 12), .int 0, .int 0, .int 0, .int 0])), (m0, .inl (cM, 10, .inr (.inr (.inr (.inr (fun _ => none))))))]) hD hS hA [0, 1] rfl
  refine va_callv (va_runV (As := [.ref m0, .ref d0, .ref s0]) (rest := []) ⟨hx, hb, hml, hown, hts⟩ (k_X2_gather l D cI cJ cZ cM p0 b m0 d0 s0 _) (cwV 3 hts gX2_plan_X2_gather rfl rfl rfl (by decide +kernel) ⟨Nat.le_of_ble_eq_true rfl, Nat.le_of_ble_eq_true rfl⟩) (rw_V hG hPc hDc (va_recv hK hPc (ci := 2) (q0 := 0) rfl rfl)) rfl rfl hl.1 rfl (lv_room (Nat.le_of_ble_eq_true rfl)) dX2_plan_4 ⟨Nat.le_of_ble_eq_true rfl, Nat.le_of_ble_eq_true rfl⟩) hS (fun q _ h => hFc q h) hFc (fun u_1 t_1 H1 locs ht hvm hw hB hz1 hk1 hS => ?_)
  obtain ⟨hP1, hD1⟩ := hB
  rw [ht] at hP1
  obtain ⟨hP, hD⟩ := va_join (wr := [(b 9, .inl (cI, 1024, .inl (fun _ => 0))), (b 4, .inl (cI, 10, .inl (fun _ => 0))), (b 10, .inl (cI, 10, .inl (fun _ => 0))), (b 11, .inl (cI, 10, .inl (fun _ => 0))), (s0, .inr (4, [.ref s1, .ref s2, .int 0, .int 0, .int 0, .int 1440, .int 1, .int 0, .int 12, .int 0]))]) (w1 := [(p0, .inr (2, [.ref (b 1), .ref (b 2), .ref (b 3), .ref (b 4), .ref (b 5), .ref (b 6), .ref (b 7), .ref (b 8), .ref (b 9), .ref (b 10), .ref (b 11), .ref (b 12), .int 0, .int 0, .int 0, .int 0])), (m0, .inl (cM, 10, .inr (.inr (.inr (.inr (fun _ => none))))))]) hP hD [0, 1] [2, 3, 4, 5, 6] rfl rfl (by decide) (by decide) hk1 hFc hP1 hD1
  generalize H1 = H at hP hS ⊢
  have hP : va_P D vwCl [(b 9, .inl (cI, 1024, .inl (fun _ => 0))), (b 4, .inl (cI, 10, .inl (fun _ => 0))), (b 10, .inl (cI, 10, .inl (fun _ => 0))), (b 11, .inl (cI, 10, .inl (fun _ => 0))), (s0, .inr (4, [.ref s1, .ref s2, .int 0, .int 0, .int 0, .int 1440, .int 1, .int 0, .int 12, .int 0])), (p0, .inr (2, [.ref (b 1), .ref (b 2), .ref (b 3), .ref (b 4), .ref (b 5), .ref (b 6), .ref (b 7), .ref (b 8), .ref (b 9), .ref (b 10), .ref (b 11), .ref (b 12), .int 0, .int 0, .int 0, .int 0])), (m0, .inl (cM, 10, .inr (.inr (.inr (.inr (fun _ => none))))))] H := hP
  have hD : va_D A [(b 9, .inl (cI, 1024, .inl (fun _ => 0))), (b 4, .inl (cI, 10, .inl (fun _ => 0))), (b 10, .inl (cI, 10, .inl (fun _ => 0))), (b 11, .inl (cI, 10, .inl (fun _ => 0))), (s0, .inr (4, [.ref s1, .ref s2, .int 0, .int 0, .int 0, .int 1440, .int 1, .int 0, .int 12, .int 0])), (p0, .inr (2, [.ref (b 1), .ref (b 2), .ref (b 3), .ref (b 4), .ref (b 5), .ref (b 6), .ref (b 7), .ref (b 8), .ref (b 9), .ref (b 10), .ref (b 11), .ref (b 12), .int 0, .int 0, .int 0, .int 0])), (m0, .inl (cM, 10, .inr (.inr (.inr (.inr (fun _ => none))))))] := hD
  refine lv_aload_n hx hb dX2_plan_7 rfl (lv_at hl 0 rfl) ?_
  refine lv_aload_n hx hb dX2_plan_8 rfl (lv_at hl 1 rfl) ?_
  refine lv_aload_n hx hb dX2_plan_9 rfl (lv_at hl 3 rfl) ?_
  have hPc := hP.sub (ws' := [(p0, .inr (2, [.ref (b 1), .ref (b 2), .ref (b 3), .ref (b 4), .ref (b 5), .ref (b 6), .ref (b 7), .ref (b 8), .ref (b 9), .ref (b 10), .ref (b 11), .ref (b 12), .int 0, .int 0, .int 0, .int 0]))]) [5] rfl
  refine va_csv (va_Run.run (va_runV (As := [.ref m0, .ref s0]) (rest := []) ⟨hx, hb, hml, hown, hts⟩ (k_X2_measure l D cI cJ cZ cM p0 b m0 s0) (cwV 2 hts gX2_plan_X2_measure rfl rfl rfl (by decide +kernel) ⟨Nat.le_of_ble_eq_true rfl, Nat.le_of_ble_eq_true rfl⟩) (ro_V hG hPc (va_recv hK hPc (ci := 2) (q0 := 0) rfl rfl)) rfl rfl hl.1 rfl (lv_room (Nat.le_of_ble_eq_true rfl)) dX2_plan_10 ⟨Nat.le_of_ble_eq_true rfl, Nat.le_of_ble_eq_true rfl⟩)) (fun _ => ?_)
  refine lv_aload_n hx hb dX2_plan_13 rfl (lv_at hl 0 rfl) ?_
  refine lv_aload_n hx hb dX2_plan_14 rfl (lv_at hl 3 rfl) ?_
  have hPc := hP.sub (ws' := [(p0, .inr (2, [.ref (b 1), .ref (b 2), .ref (b 3), .ref (b 4), .ref (b 5), .ref (b 6), .ref (b 7), .ref (b 8), .ref (b 9), .ref (b 10), .ref (b 11), .ref (b 12), .int 0, .int 0, .int 0, .int 0])), (b 9, .inl (cI, 1024, .inl (fun _ => 0))), (s0, .inr (4, [.ref s1, .ref s2, .int 0, .int 0, .int 0, .int 1440, .int 1, .int 0, .int 12, .int 0]))]) [5, 0, 4] rfl
  have hDc := hD.sub (ws' := [(p0, .inr (2, [.ref (b 1), .ref (b 2), .ref (b 3), .ref (b 4), .ref (b 5), .ref (b 6), .ref (b 7), .ref (b 8), .ref (b 9), .ref (b 10), .ref (b 11), .ref (b 12), .int 0, .int 0, .int 0, .int 0])), (b 9, .inl (cI, 1024, .inl (fun _ => 0))), (s0, .inr (4, [.ref s1, .ref s2, .int 0, .int 0, .int 0, .int 1440, .int 1, .int 0, .int 12, .int 0]))]) [5, 0, 4] (by decide) rfl
  have hFc := va_free (wc := [(p0, .inr (2, [.ref (b 1), .ref (b 2), .ref (b 3), .ref (b 4), .ref (b 5), .ref (b 6), .ref (b 7), .ref (b 8), .ref (b 9), .ref (b 10), .ref (b 11), .ref (b 12), .int 0, .int 0, .int 0, .int 0])), (b 9, .inl (cI, 1024, .inl (fun _ => 0))), (s0, .inr (4, [.ref s1, .ref s2, .int 0, .int 0, .int 0, .int 1440, .int 1, .int 0, .int 12, .int 0]))]) hD hS hA [5, 0, 4] rfl
  refine va_callv (va_runV (As := [.ref s0]) (rest := []) ⟨hx, hb, hml, hown, hts⟩ (k_X2_findEarliestEnds l D cI cJ cZ cM p0 b s0 s1 s2 _) (cwV 1 hts gX2_plan_X2_findEarliestEnds rfl rfl rfl (by decide +kernel) ⟨Nat.le_of_ble_eq_true rfl, Nat.le_of_ble_eq_true rfl⟩) (rw_V hG hPc hDc (va_recv hK hPc (ci := 2) (q0 := 0) rfl rfl)) rfl rfl hl.1 rfl (lv_room (Nat.le_of_ble_eq_true rfl)) dX2_plan_15 ⟨Nat.le_of_ble_eq_true rfl, Nat.le_of_ble_eq_true rfl⟩) hS (fun q _ h => hFc q h) hFc (fun u_3 t_3 H1 locs ht hvm hw hB hz1 hk1 hS => ?_)
  obtain ⟨fb_3, rfl⟩ : ∃ z, z = u_3 := ⟨_, rfl⟩
  obtain ⟨hP1, hD1⟩ := hB
  rw [ht] at hP1
  obtain ⟨hP, hD⟩ := va_join (wr := [(b 4, .inl (cI, 10, .inl (fun _ => 0))), (b 10, .inl (cI, 10, .inl (fun _ => 0))), (b 11, .inl (cI, 10, .inl (fun _ => 0))), (m0, .inl (cM, 10, .inr (.inr (.inr (.inr (fun _ => none))))))]) (w1 := [(p0, .inr (2, [.ref (b 1), .ref (b 2), .ref (b 3), .ref (b 4), .ref (b 5), .ref (b 6), .ref (b 7), .ref (b 8), .ref (b 9), .ref (b 10), .ref (b 11), .ref (b 12), .int 0, .int 0, .int 0, .int 0])), (b 9, .inl (cI, 1024, .inl fb_3)), (s0, .inr (4, [.ref s1, .ref s2, .int 0, .int 0, .int 0, .int 1440, .int 1, .int 0, .int 12, .int 0]))]) hP hD [5, 0, 4] [1, 2, 3, 6] rfl rfl (by decide) (by decide) hk1 hFc hP1 hD1
  generalize H1 = H at hP hS ⊢
  have hP : va_P D vwCl [(b 4, .inl (cI, 10, .inl (fun _ => 0))), (b 10, .inl (cI, 10, .inl (fun _ => 0))), (b 11, .inl (cI, 10, .inl (fun _ => 0))), (m0, .inl (cM, 10, .inr (.inr (.inr (.inr (fun _ => none)))))), (p0, .inr (2, [.ref (b 1), .ref (b 2), .ref (b 3), .ref (b 4), .ref (b 5), .ref (b 6), .ref (b 7), .ref (b 8), .ref (b 9), .ref (b 10), .ref (b 11), .ref (b 12), .int 0, .int 0, .int 0, .int 0])), (b 9, .inl (cI, 1024, .inl fb_3)), (s0, .inr (4, [.ref s1, .ref s2, .int 0, .int 0, .int 0, .int 1440, .int 1, .int 0, .int 12, .int 0]))] H := hP
  have hD : va_D A [(b 4, .inl (cI, 10, .inl (fun _ => 0))), (b 10, .inl (cI, 10, .inl (fun _ => 0))), (b 11, .inl (cI, 10, .inl (fun _ => 0))), (m0, .inl (cM, 10, .inr (.inr (.inr (.inr (fun _ => none)))))), (p0, .inr (2, [.ref (b 1), .ref (b 2), .ref (b 3), .ref (b 4), .ref (b 5), .ref (b 6), .ref (b 7), .ref (b 8), .ref (b 9), .ref (b 10), .ref (b 11), .ref (b 12), .int 0, .int 0, .int 0, .int 0])), (b 9, .inl (cI, 1024, .inl fb_3)), (s0, .inr (4, [.ref s1, .ref s2, .int 0, .int 0, .int 0, .int 1440, .int 1, .int 0, .int 12, .int 0]))] := hD
  have hf : fb_3 0 = 0 := hw
  refine lv_aload_n hx hb dX2_plan_18 rfl (lv_at hl 0 rfl) ?_
  have hPc := hP.sub (ws' := [(p0, .inr (2, [.ref (b 1), .ref (b 2), .ref (b 3), .ref (b 4), .ref (b 5), .ref (b 6), .ref (b 7), .ref (b 8), .ref (b 9), .ref (b 10), .ref (b 11), .ref (b 12), .int 0, .int 0, .int 0, .int 0])), (b 9, .inl (cI, 1024, .inl fb_3))]) [4, 5] rfl
  have hDc := hD.sub (ws' := [(p0, .inr (2, [.ref (b 1), .ref (b 2), .ref (b 3), .ref (b 4), .ref (b 5), .ref (b 6), .ref (b 7), .ref (b 8), .ref (b 9), .ref (b 10), .ref (b 11), .ref (b 12), .int 0, .int 0, .int 0, .int 0])), (b 9, .inl (cI, 1024, .inl fb_3))]) [4, 5] (by decide) rfl
  have hFc := va_free (wc := [(p0, .inr (2, [.ref (b 1), .ref (b 2), .ref (b 3), .ref (b 4), .ref (b 5), .ref (b 6), .ref (b 7), .ref (b 8), .ref (b 9), .ref (b 10), .ref (b 11), .ref (b 12), .int 0, .int 0, .int 0, .int 0])), (b 9, .inl (cI, 1024, .inl fb_3))]) hD hS hA [4, 5] rfl
  refine va_callv (va_runV (As := []) (rest := []) ⟨hx, hb, hml, hown, hts⟩ (k_X2_chooseBest l D cI cJ cZ cM p0 b fb_3 hf _) (cwV 0 hts gX2_plan_X2_chooseBest rfl rfl rfl (by decide +kernel) ⟨Nat.le_of_ble_eq_true rfl, Nat.le_of_ble_eq_true rfl⟩) (rw_V hG hPc hDc (va_recv hK hPc (ci := 2) (q0 := 0) rfl rfl)) rfl rfl hl.1 rfl (lv_room (Nat.le_of_ble_eq_true rfl)) dX2_plan_19 ⟨Nat.le_of_ble_eq_true rfl, Nat.le_of_ble_eq_true rfl⟩) hS (fun q _ h => hFc q h) hFc (fun u_4 t_4 H1 locs ht hvm hw hB hz1 hk1 hS => ?_)
  obtain ⟨hP1, hD1⟩ := hB
  rw [ht] at hP1
  obtain ⟨hP, hD⟩ := va_join (wr := [(b 4, .inl (cI, 10, .inl (fun _ => 0))), (b 10, .inl (cI, 10, .inl (fun _ => 0))), (b 11, .inl (cI, 10, .inl (fun _ => 0))), (m0, .inl (cM, 10, .inr (.inr (.inr (.inr (fun _ => none)))))), (s0, .inr (4, [.ref s1, .ref s2, .int 0, .int 0, .int 0, .int 1440, .int 1, .int 0, .int 12, .int 0]))]) (w1 := [(p0, .inr (2, [.ref (b 1), .ref (b 2), .ref (b 3), .ref (b 4), .ref (b 5), .ref (b 6), .ref (b 7), .ref (b 8), .ref (b 9), .ref (b 10), .ref (b 11), .ref (b 12), .int 0, .int 0, .int 0, .int 0])), (b 9, .inl (cI, 1024, .inl fb_3))]) hP hD [4, 5] [0, 1, 2, 3, 6] rfl rfl (by decide) (by decide) hk1 hFc hP1 hD1
  generalize H1 = H at hP hS ⊢
  have hP : va_P D vwCl [(b 4, .inl (cI, 10, .inl (fun _ => 0))), (b 10, .inl (cI, 10, .inl (fun _ => 0))), (b 11, .inl (cI, 10, .inl (fun _ => 0))), (m0, .inl (cM, 10, .inr (.inr (.inr (.inr (fun _ => none)))))), (s0, .inr (4, [.ref s1, .ref s2, .int 0, .int 0, .int 0, .int 1440, .int 1, .int 0, .int 12, .int 0])), (p0, .inr (2, [.ref (b 1), .ref (b 2), .ref (b 3), .ref (b 4), .ref (b 5), .ref (b 6), .ref (b 7), .ref (b 8), .ref (b 9), .ref (b 10), .ref (b 11), .ref (b 12), .int 0, .int 0, .int 0, .int 0])), (b 9, .inl (cI, 1024, .inl fb_3))] H := hP
  have hD : va_D A [(b 4, .inl (cI, 10, .inl (fun _ => 0))), (b 10, .inl (cI, 10, .inl (fun _ => 0))), (b 11, .inl (cI, 10, .inl (fun _ => 0))), (m0, .inl (cM, 10, .inr (.inr (.inr (.inr (fun _ => none)))))), (s0, .inr (4, [.ref s1, .ref s2, .int 0, .int 0, .int 0, .int 1440, .int 1, .int 0, .int 12, .int 0])), (p0, .inr (2, [.ref (b 1), .ref (b 2), .ref (b 3), .ref (b 4), .ref (b 5), .ref (b 6), .ref (b 7), .ref (b 8), .ref (b 9), .ref (b 10), .ref (b 11), .ref (b 12), .int 0, .int 0, .int 0, .int 0])), (b 9, .inl (cI, 1024, .inl fb_3))] := hD
  refine lv_aload_n hx hb dX2_plan_22 rfl (lv_at hl 0 rfl) ?_
  have hPc := hP.sub (ws' := [(p0, .inr (2, [.ref (b 1), .ref (b 2), .ref (b 3), .ref (b 4), .ref (b 5), .ref (b 6), .ref (b 7), .ref (b 8), .ref (b 9), .ref (b 10), .ref (b 11), .ref (b 12), .int 0, .int 0, .int 0, .int 0]))]) [5] rfl
  refine va_csv (va_Run.run (va_runV (As := []) (rest := []) ⟨hx, hb, hml, hown, hts⟩ (k_X2_findLatestEnds l D cI cJ cZ cM p0 b) (cwV 0 hts gX2_plan_X2_findLatestEnds rfl rfl rfl (by decide +kernel) ⟨Nat.le_of_ble_eq_true rfl, Nat.le_of_ble_eq_true rfl⟩) (ro_V hG hPc (va_recv hK hPc (ci := 2) (q0 := 0) rfl rfl)) rfl rfl hl.1 rfl (lv_room (Nat.le_of_ble_eq_true rfl)) dX2_plan_23 ⟨Nat.le_of_ble_eq_true rfl, Nat.le_of_ble_eq_true rfl⟩)) (fun _ => ?_)
  refine lv_aload_n hx hb dX2_plan_26 rfl (lv_at hl 0 rfl) ?_
  refine lv_aload_n hx hb dX2_plan_27 rfl (lv_at hl 3 rfl) ?_
  have hPc := hP.sub (ws' := [(p0, .inr (2, [.ref (b 1), .ref (b 2), .ref (b 3), .ref (b 4), .ref (b 5), .ref (b 6), .ref (b 7), .ref (b 8), .ref (b 9), .ref (b 10), .ref (b 11), .ref (b 12), .int 0, .int 0, .int 0, .int 0])), (b 9, .inl (cI, 1024, .inl fb_3)), (b 4, .inl (cI, 10, .inl (fun _ => 0))), (b 10, .inl (cI, 10, .inl (fun _ => 0))), (b 11, .inl (cI, 10, .inl (fun _ => 0))), (s0, .inr (4, [.ref s1, .ref s2, .int 0, .int 0, .int 0, .int 1440, .int 1, .int 0, .int 12, .int 0]))]) [5, 6, 0, 1, 2, 4] rfl
  have hDc := hD.sub (ws' := [(p0, .inr (2, [.ref (b 1), .ref (b 2), .ref (b 3), .ref (b 4), .ref (b 5), .ref (b 6), .ref (b 7), .ref (b 8), .ref (b 9), .ref (b 10), .ref (b 11), .ref (b 12), .int 0, .int 0, .int 0, .int 0])), (b 9, .inl (cI, 1024, .inl fb_3)), (b 4, .inl (cI, 10, .inl (fun _ => 0))), (b 10, .inl (cI, 10, .inl (fun _ => 0))), (b 11, .inl (cI, 10, .inl (fun _ => 0))), (s0, .inr (4, [.ref s1, .ref s2, .int 0, .int 0, .int 0, .int 1440, .int 1, .int 0, .int 12, .int 0]))]) [5, 6, 0, 1, 2, 4] (by decide) rfl
  have hFc := va_free (wc := [(p0, .inr (2, [.ref (b 1), .ref (b 2), .ref (b 3), .ref (b 4), .ref (b 5), .ref (b 6), .ref (b 7), .ref (b 8), .ref (b 9), .ref (b 10), .ref (b 11), .ref (b 12), .int 0, .int 0, .int 0, .int 0])), (b 9, .inl (cI, 1024, .inl fb_3)), (b 4, .inl (cI, 10, .inl (fun _ => 0))), (b 10, .inl (cI, 10, .inl (fun _ => 0))), (b 11, .inl (cI, 10, .inl (fun _ => 0))), (s0, .inr (4, [.ref s1, .ref s2, .int 0, .int 0, .int 0, .int 1440, .int 1, .int 0, .int 12, .int 0]))]) hD hS hA [5, 6, 0, 1, 2, 4] rfl
  refine va_callv (va_runV (As := [.ref s0]) (rest := []) ⟨hx, hb, hml, hown, hts⟩ (k_X2_chooseOrder l D cI cJ cZ cM p0 b s0 s1 s2 fb_3 hf _) (cwV 1 hts gX2_plan_X2_chooseOrder rfl rfl rfl (by decide +kernel) ⟨Nat.le_of_ble_eq_true rfl, Nat.le_of_ble_eq_true rfl⟩) (rw_V hG hPc hDc (va_recv hK hPc (ci := 2) (q0 := 0) rfl rfl)) rfl rfl hl.1 rfl (lv_room (Nat.le_of_ble_eq_true rfl)) dX2_plan_28 ⟨Nat.le_of_ble_eq_true rfl, Nat.le_of_ble_eq_true rfl⟩) hS (fun q _ h => hFc q h) hFc (fun u_6 t_6 H1 locs ht hvm hw hB hz1 hk1 hS => ?_)
  obtain ⟨hP1, hD1⟩ := hB
  rw [ht] at hP1
  obtain ⟨hP, hD⟩ := va_join (wr := [(m0, .inl (cM, 10, .inr (.inr (.inr (.inr (fun _ => none))))))]) (w1 := [(p0, .inr (2, [.ref (b 1), .ref (b 2), .ref (b 3), .ref (b 4), .ref (b 5), .ref (b 6), .ref (b 7), .ref (b 8), .ref (b 9), .ref (b 10), .ref (b 11), .ref (b 12), .int 0, .int 0, .int 0, .int 0])), (s0, .inr (4, [.ref s1, .ref s2, .int 0, .int 0, .int 0, .int 1440, .int 1, .int 0, .int 12, .int 0]))]) hP hD [5, 6, 0, 1, 2, 4] [3] rfl rfl (by decide) (by decide) hk1 hFc hP1 hD1
  generalize H1 = H at hP hS ⊢
  have hP : va_P D vwCl [(m0, .inl (cM, 10, .inr (.inr (.inr (.inr (fun _ => none)))))), (p0, .inr (2, [.ref (b 1), .ref (b 2), .ref (b 3), .ref (b 4), .ref (b 5), .ref (b 6), .ref (b 7), .ref (b 8), .ref (b 9), .ref (b 10), .ref (b 11), .ref (b 12), .int 0, .int 0, .int 0, .int 0])), (s0, .inr (4, [.ref s1, .ref s2, .int 0, .int 0, .int 0, .int 1440, .int 1, .int 0, .int 12, .int 0]))] H := hP
  have hD : va_D A [(m0, .inl (cM, 10, .inr (.inr (.inr (.inr (fun _ => none)))))), (p0, .inr (2, [.ref (b 1), .ref (b 2), .ref (b 3), .ref (b 4), .ref (b 5), .ref (b 6), .ref (b 7), .ref (b 8), .ref (b 9), .ref (b 10), .ref (b 11), .ref (b 12), .int 0, .int 0, .int 0, .int 0])), (s0, .inr (4, [.ref s1, .ref s2, .int 0, .int 0, .int 0, .int 1440, .int 1, .int 0, .int 12, .int 0]))] := hD
  refine lv_aload_n hx hb dX2_plan_31 rfl (lv_at hl 0 rfl) ?_
  refine lv_aload_n hx hb dX2_plan_32 rfl (lv_at hl 3 rfl) ?_
  have hPc := hP.sub (ws' := [(p0, .inr (2, [.ref (b 1), .ref (b 2), .ref (b 3), .ref (b 4), .ref (b 5), .ref (b 6), .ref (b 7), .ref (b 8), .ref (b 9), .ref (b 10), .ref (b 11), .ref (b 12), .int 0, .int 0, .int 0, .int 0])), (s0, .inr (4, [.ref s1, .ref s2, .int 0, .int 0, .int 0, .int 1440, .int 1, .int 0, .int 12, .int 0]))]) [1, 2] rfl
  refine va_csv (va_Run.run (va_runV (As := [.ref s0]) (rest := []) ⟨hx, hb, hml, hown, hts⟩ (k_X2_timeOrder l D cI cJ cZ cM p0 b s0 s1 s2) (cwV 1 hts gX2_plan_X2_timeOrder rfl rfl rfl (by decide +kernel) ⟨Nat.le_of_ble_eq_true rfl, Nat.le_of_ble_eq_true rfl⟩) (ro_V hG hPc (va_recv hK hPc (ci := 2) (q0 := 0) rfl rfl)) rfl rfl hl.1 rfl (lv_room (Nat.le_of_ble_eq_true rfl)) dX2_plan_33 ⟨Nat.le_of_ble_eq_true rfl, Nat.le_of_ble_eq_true rfl⟩)) (fun _ => ?_)
  have hP9 := hP.sub (ws' := [(p0, .inr (2, [.ref (b 1), .ref (b 2), .ref (b 3), .ref (b 4), .ref (b 5), .ref (b 6), .ref (b 7), .ref (b 8), .ref (b 9), .ref (b 10), .ref (b 11), .ref (b 12), .int 0, .int 0, .int 0, .int 0]))]) [1] rfl
  have hD9 := hD.sub (ws' := [(p0, .inr (2, [.ref (b 1), .ref (b 2), .ref (b 3), .ref (b 4), .ref (b 5), .ref (b 6), .ref (b 7), .ref (b 8), .ref (b 9), .ref (b 10), .ref (b 11), .ref (b 12), .int 0, .int 0, .int 0, .int 0]))]) [1] (by decide) rfl
  exact W.vret hx hb hr (fun t ht hW => ⟨⟨(), rfl, trivial, ⟨by rw [ht]; exact hP9, hD9⟩⟩, hS.F ht⟩) hS.2.2 dX2_plan_36
