set_option maxHeartbeats 4000000 in
set_option maxRecDepth 100000 in
/-- J7_fill_d0a16: the loop at 6 -/
theorem lp_J7_fill {p : Program} {l : Launch} {e : Env} {s : State} {m : MethodId} {args : Array Value} {below : List Frame} {meth : Method} {c : Code} {Q : State → Prop} {D : va_G} {cI cJ cZ cM : Nat} {s1 : Nat} {x : Int64} {A : Nat → Prop} (hx : p.tables.exec = Jvm.exec) (hb : c.code = cJ7_fill_d0a16) (hml : c.maxLocals = 5) (hts : ∀ w ∈ wsJ7_fill_d0a16, w.before args s = true) (hown : s.vm.findClass RJ7 = some m.cls) (hG : GK D cI cJ cZ cM s) (hA : ∀ q : Nat, s.heap.size ≤ q → A q)  :
    ∀ (k9 : Nat) (k_ : Nat) (f : Nat → Int64), (k_ ≤ 40) → 40 - k_ < k9 → ∀ (H : Heap) (locs : List Loc) (ls : Array Slot), va_P D vwCl [(s1, .inl (cJ, 40, .inr (.inl f)))] H → va_D A [(s1, .inl (cJ, 40, .inr (.inl f)))] → va_S A s.heap H locs → lv_has ls 5 [(3, .int (nI k_)), (0, .ref s1), (1, .long x), (4, .int 40)] → (∀ (f : Nat → Int64) (H : Heap) (locs : List Loc) (ls : Array Slot), va_P D vwCl [(s1, .inl (cJ, 40, .inr (.inl f)))] H → va_D A [(s1, .inl (cJ, 40, .inr (.inl f)))] → va_S A s.heap H locs → lv_has ls 5 [(0, .ref s1), (1, .long x), (4, .int 40)] → W p l e (headSpec wsJ7_fill_d0a16 ({ frames := 0, cells := 0, slots := 0, locals := 0 } : Room)).room s m args below meth c H locs 0 0 Q (F0 m 22 ls [])) → W p l e (headSpec wsJ7_fill_d0a16 ({ frames := 0, cells := 0, slots := 0, locals := 0 } : Room)).room s m args below meth c H locs 0 0 Q (F0 m 6 ls []) := by
  have hK := hG.1
  have hN := hG.2
  intro k9
  induction k9 with
  | zero => intro k_ f hk hfu; exact absurd hfu (Nat.not_lt_zero _)
  | succ k9 ih =>
    intro k_ f hk hfu H locs ls hP hD hS hl kk0
    rcases Nat.lt_or_ge k_ 40 with hlt | hge
    · refine lv_iload_n hx hb dJ7_fill_d0a16_6 rfl (lv_at hl 0 rfl) ?_
      refine lv_iload hx hb dJ7_fill_d0a16_7 (lv_at hl 3 rfl) ?_
      refine lv_icmp_ge (tgt := 22) hx hb dJ7_fill_d0a16_9 (by decide) (fun c_1 => absurd c_1 (nI_ge hlt (by decide))) (fun c_1 => ?_)
      refine lv_aload_n hx hb dJ7_fill_d0a16_12 rfl (lv_at hl 1 rfl) ?_
      refine lv_iload_n hx hb dJ7_fill_d0a16_13 rfl (lv_at hl 0 rfl) ?_
      refine lv_lload_n hx hb dJ7_fill_d0a16_14 rfl (lv_at hl 2 rfl) ?_
      refine va_last hx hb hK hP hD hS 0 1 rfl rfl (vp_in_nI (by omega) (by decide)) dJ7_fill_d0a16_15 (fun H locs hP hD hS => ?_)
      rw [nI_clamp (by omega)] at hP hD
      have hP : va_P D vwCl [(s1, .inl (cJ, 40, .inr (.inl (vp_updL f k_ x))))] H := hP
      have hD : va_D A [(s1, .inl (cJ, 40, .inr (.inl (vp_updL f k_ x))))] := hD
      refine lv_iinc (v := nI (k_ + 1)) (lv' := [(3, .int (nI (k_ + 1))), (0, .ref s1), (1, .long x), (4, .int 40)]) hx hb dJ7_fill_d0a16_16 hl (k := 0) rfl (nI_add k_ 1) (by decide) rfl (fun ls hl => ?_)
      refine lv_goto (tgt := 6) hx hb dJ7_fill_d0a16_19 (by decide) ?_
      exact ih (k_ + 1) (vp_updL f k_ x) (by omega) (by omega) _ _ _ hP hD hS (lv_sub hl [0, 1, 2, 3] rfl) kk0
    · refine lv_iload_n hx hb dJ7_fill_d0a16_6 rfl (lv_at hl 0 rfl) ?_
      refine lv_iload hx hb dJ7_fill_d0a16_7 (lv_at hl 3 rfl) ?_
      refine lv_icmp_ge (tgt := 22) hx hb dJ7_fill_d0a16_9 (by decide) (fun c_2 => ?_) (fun c_2 => absurd (nI_le hge (by omega)) c_2)
      exact kk0 f _ _ _  hP hD hS (lv_sub hl [1, 2, 3] rfl)
set_option maxHeartbeats 4000000 in
set_option maxRecDepth 100000 in
/-- Arrays.fill -/
theorem k_J7_fill (l : Launch) (D : va_G) (cI cJ cZ cM : Nat) (s1 : Nat) (f : Nat → Int64) (x : Int64) (sz : Nat) : Met l yJ7_fill_d0a16 wsJ7_fill_d0a16 ({ frames := 0, cells := 0, slots := 0, locals := 0 } : Room) (RW D cI cJ cZ cM [.ref s1, .long x] [(s1, .inl (cJ, 40, .inr (.inl f)))] sz) (va_Qv (S := (Nat → Int64)) (fun u => True) (BB D (fun u => [(s1, .inl (cJ, 40, .inr (.inl u)))]) (va_A [(s1, .inl (cJ, 40, .inr (.inl f)))] sz)) (va_A [(s1, .inl (cJ, 40, .inr (.inl f)))] sz)) 0 0 (va_A [(s1, .inl (cJ, 40, .inr (.inl f)))] sz) := by
  refine Met.ofW (cc := cJ7_fill_d0a16) (maxL := 5) (ret := none) (by decide) rfl ?_
  intro p e s m args below meth c s₁ B hml hv
  obtain ⟨rfl, hsz, hG, hP, hD0⟩ := hv
  have hx := B.exec
  have hb := B.bytes
  have hr := B.returns
  have hts := atoms_spec (ws := wsJ7_fill_d0a16) B.pre
  have hown : s.vm.findClass RJ7 = some m.cls := findClass_of_methodNamed B.named
  have hlocks := B.notSynchronized
  have hK := hG.1
  have hN := hG.2
  subst hsz
  have hD := hD0.self (sz := s.heap.size)
  generalize hAe : va_A [(s1, .inl (cJ, 40, .inr (.inl f)))] s.heap.size = A at hD ⊢
  have hA : ∀ q : Nat, s.heap.size ≤ q → A q := fun q h => by rw [← hAe]; exact Or.inr h
  have hS : va_S A s.heap s.heap [] := va_S.rf
  have hP : va_P D vwCl [(s1, .inl (cJ, 40, .inr (.inl f)))] s.heap := hP
  have hl := lv_entry ([.ref s1, .long x]) (n := 5) (Nat.le_of_ble_eq_true rfl)
  rw [lg_entry_eq]
  generalize (lg_sl ([.ref s1, .long x]) ++ List.replicate (5 - (lg_sl ([.ref s1, .long x])).length) Slot.unset).toArray = ls at hl ⊢
  have hl : lv_has ls 5 [(0, .ref s1), (1, .long x)] := hl
  refine lv_iconst (v := 0) hx hb dJ7_fill_d0a16_0 (by decide) ?_
  refine lv_istore_n (lv' := [(3, .int 0), (0, .ref s1), (1, .long x)]) hx hb dJ7_fill_d0a16_1 rfl hl (by decide) rfl (fun ls hl => ?_)
  refine lv_aload_n hx hb dJ7_fill_d0a16_2 rfl (lv_at hl 1 rfl) ?_
  refine va_alen (v := 40) hx hb hK hP 0 1 rfl rfl rfl dJ7_fill_d0a16_3 ?_
  refine lv_istore (lv' := [(4, .int 40), (3, .int 0), (0, .ref s1), (1, .long x)]) hx hb dJ7_fill_d0a16_4 hl (by decide) rfl (fun ls hl => ?_)
  refine lp_J7_fill hx hb hml hts hown hG hA  (40 + 1) 0 f (Nat.zero_le _) (by omega) _ _ _ hP hD hS (lv_sub hl [1, 2, 3, 0] rfl) (fun f_1 H locs ls  hP hD hS hl => ?_)
  have hP9 := hP.sub (ws' := [(s1, .inl (cJ, 40, .inr (.inl f_1)))]) [0] rfl
  have hD9 := hD.sub (ws' := [(s1, .inl (cJ, 40, .inr (.inl f_1)))]) [0] (by decide) rfl
  exact W.vret hx hb hr (fun t ht hW => ⟨⟨f_1, rfl, trivial, ⟨by rw [ht]; exact hP9, hD9⟩⟩, hS.F ht⟩) hS.2.2 dJ7_fill_d0a16_22
set_option maxHeartbeats 4000000 in
set_option maxRecDepth 100000 in
/-- X5_begin -/
theorem k_X5_begin (l : Launch) (D : va_G) (cI cJ cZ cM : Nat) (s0 : Nat) (s1 : Nat) (y1 : Int32) (y2 : Int32) (y3 : Int32) (f : Nat → Int64) (sz : Nat) : Met l yX5_begin wsX5_begin ({ frames := 1, cells := 0, slots := 0, locals := 24 } : Room) (RW D cI cJ cZ cM [.ref s0] [(s0, .inr (5, [.ref s1, .int y1, .int y2, .int y3])), (s1, .inl (cJ, 40, .inr (.inl f)))] sz) (va_Qv (S := Int32 × Int32 × Int32 × (Nat → Int64)) (fun u => True) (BB D (fun u => [(s0, .inr (5, [.ref s1, .int u.1, .int u.2.1, .int u.2.2.1])), (s1, .inl (cJ, 40, .inr (.inl u.2.2.2)))]) (va_A [(s0, .inr (5, [.ref s1, .int y1, .int y2, .int y3])), (s1, .inl (cJ, 40, .inr (.inl f)))] sz)) (va_A [(s0, .inr (5, [.ref s1, .int y1, .int y2, .int y3])), (s1, .inl (cJ, 40, .inr (.inl f)))] sz)) 0 0 (va_A [(s0, .inr (5, [.ref s1, .int y1, .int y2, .int y3])), (s1, .inl (cJ, 40, .inr (.inl f)))] sz) := by
  refine Met.ofW (cc := cX5_begin) (maxL := 1) (ret := none) (by decide) rfl ?_
  intro p e s m args below meth c s₁ B hml hv
  obtain ⟨rfl, hsz, hG, hP, hD0⟩ := hv
  have hx := B.exec
  have hb := B.bytes
  have hr := B.returns
  have hts := atoms_spec (ws := wsX5_begin) B.pre
  have hown : s.vm.findClass RX5 = some m.cls := findClass_of_methodNamed B.named
  have hlocks := B.notSynchronized
  have hK := hG.1
  have hN := hG.2
  subst hsz
  have hD := hD0.self (sz := s.heap.size)
  generalize hAe : va_A [(s0, .inr (5, [.ref s1, .int y1, .int y2, .int y3])), (s1, .inl (cJ, 40, .inr (.inl f)))] s.heap.size = A at hD ⊢
  have hA : ∀ q : Nat, s.heap.size ≤ q → A q := fun q h => by rw [← hAe]; exact Or.inr h
  have hS : va_S A s.heap s.heap [] := va_S.rf
  have hP : va_P D vwCl [(s0, .inr (5, [.ref s1, .int y1, .int y2, .int y3])), (s1, .inl (cJ, 40, .inr (.inl f)))] s.heap := hP
  have hl := lv_entry ([.ref s0]) (n := 1) (Nat.le_of_ble_eq_true rfl)
  rw [lg_entry_eq]
  generalize (lg_sl ([.ref s0]) ++ List.replicate (1 - (lg_sl ([.ref s0])).length) Slot.unset).toArray = ls at hl ⊢
  have hl : lv_has ls 1 [(0, .ref s0)] := hl
  refine lv_aload_n hx hb dX5_begin_0 rfl (lv_at hl 0 rfl) ?_
  refine va_get (D := D) (ci := 5) (v := .ref s1) (C := RX5) (T := TX5) (N := 4) hx hb hts (fun _ h9 => List.mem_cons_of_mem _ (List.mem_append_right _ h9)) hown hK hP 0 rfl rfl 0 (by decide) (hts (.fieldLink RX5 9 "BuoyTender$Sighting" "ruledOut" "[J") (by decide +kernel)) (fun _ h9 => h9) rfl dX5_begin_1 ?_
  refine lv_lconst (v := 0) hx hb dX5_begin_4 (by decide) ?_
  have hPc := hP.sub (ws' := [(s1, .inl (cJ, 40, .inr (.inl f)))]) [1] rfl
  have hDc := hD.sub (ws' := [(s1, .inl (cJ, 40, .inr (.inl f)))]) [1] (by decide) rfl
  have hFc := va_free (wc := [(s1, .inl (cJ, 40, .inr (.inl f)))]) hD hS hA [1] rfl
  refine va_callv (va_runS (As := [.ref s1, .long 0]) (rest := []) ⟨hx, hb, hml, hown, hts⟩ (k_J7_fill l D cI cJ cZ cM s1 f 0 _) (va_cwS 2 hts gX5_begin_J7_fill_d0a16 rfl rfl rfl (by decide +kernel) ⟨Nat.le_of_ble_eq_true rfl, Nat.le_of_ble_eq_true rfl⟩) (rw_S hG hPc hDc) rfl rfl hl.1 rfl (lv_room (Nat.le_of_ble_eq_true rfl)) dX5_begin_5 ⟨Nat.le_of_ble_eq_true rfl, Nat.le_of_ble_eq_true rfl⟩) hS (fun q _ h => hFc q h) hFc (fun u_1 t_1 H1 locs ht hvm hw hB hz1 hk1 hS => ?_)
  obtain ⟨ff_1, rfl⟩ : ∃ z, z = u_1 := ⟨_, rfl⟩
  obtain ⟨hP1, hD1⟩ := hB
  rw [ht] at hP1
  obtain ⟨hP, hD⟩ := va_join (wr := [(s0, .inr (5, [.ref s1, .int y1, .int y2, .int y3]))]) (w1 := [(s1, .inl (cJ, 40, .inr (.inl ff_1)))]) hP hD [1] [0] rfl rfl (by decide) (by decide) hk1 hFc hP1 hD1
  generalize H1 = H at hP hS ⊢
  have hP : va_P D vwCl [(s0, .inr (5, [.ref s1, .int y1, .int y2, .int y3])), (s1, .inl (cJ, 40, .inr (.inl ff_1)))] H := hP
  have hD : va_D A [(s0, .inr (5, [.ref s1, .int y1, .int y2, .int y3])), (s1, .inl (cJ, 40, .inr (.inl ff_1)))] := hD
  refine lv_aload_n hx hb dX5_begin_8 rfl (lv_at hl 0 rfl) ?_
  refine lv_iconst (v := 0) hx hb dX5_begin_9 (by decide) ?_
  refine va_put (D := D) (ci := 5) (v := .int 0) (ty := (tyX5 1)) (C := RX5) (T := TX5) (N := 4) hx hb hts (fun _ h9 => List.mem_cons_of_mem _ (List.mem_append_right _ h9)) tyX5 tyX5_ok nmX5 hown hK hP hD hS 0 rfl rfl 1 (by decide) (hts (.fieldLink RX5 25 "BuoyTender$Sighting" "shallowest" "I") (by decide +kernel)) (fun _ h9 => h9) rfl (by decide +kernel) rfl rfl (Nat.le_of_ble_eq_true rfl) dX5_begin_10 (fun H locs hP hD hS => ?_)
  have hP : va_P D vwCl [(s0, .inr (5, [.ref s1, .int 0, .int y2, .int y3])), (s1, .inl (cJ, 40, .inr (.inl ff_1)))] H := hP
  have hD : va_D A [(s0, .inr (5, [.ref s1, .int 0, .int y2, .int y3])), (s1, .inl (cJ, 40, .inr (.inl ff_1)))] := hD
  refine lv_aload_n hx hb dX5_begin_13 rfl (lv_at hl 0 rfl) ?_
  refine lv_sipush (v := 200) hx hb dX5_begin_14 (by decide) ?_
  refine va_put (D := D) (ci := 5) (v := .int 200) (ty := (tyX5 2)) (C := RX5) (T := TX5) (N := 4) hx hb hts (fun _ h9 => List.mem_cons_of_mem _ (List.mem_append_right _ h9)) tyX5 tyX5_ok nmX5 hown hK hP hD hS 0 rfl rfl 2 (by decide) (hts (.fieldLink RX5 15 "BuoyTender$Sighting" "deepest" "I") (by decide +kernel)) (fun _ h9 => h9) rfl (by decide +kernel) rfl rfl (Nat.le_of_ble_eq_true rfl) dX5_begin_17 (fun H locs hP hD hS => ?_)
  have hP : va_P D vwCl [(s0, .inr (5, [.ref s1, .int 0, .int 200, .int y3])), (s1, .inl (cJ, 40, .inr (.inl ff_1)))] H := hP
  have hD : va_D A [(s0, .inr (5, [.ref s1, .int 0, .int 200, .int y3])), (s1, .inl (cJ, 40, .inr (.inl ff_1)))] := hD
  refine lv_aload_n hx hb dX5_begin_20 rfl (lv_at hl 0 rfl) ?_
  refine lv_iconst (v := 0) hx hb dX5_begin_21 (by decide) ?_
  refine va_put (D := D) (ci := 5) (v := .int 0) (ty := (tyX5 3)) (C := RX5) (T := TX5) (N := 4) hx hb hts (fun _ h9 => List.mem_cons_of_mem _ (List.mem_append_right _ h9)) tyX5 tyX5_ok nmX5 hown hK hP hD hS 0 rfl rfl 3 (by decide) (hts (.fieldLink RX5 28 "BuoyTender$Sighting" "told" "Z") (by decide +kernel)) (fun _ h9 => h9) rfl (by decide +kernel) rfl rfl (Nat.le_of_ble_eq_true rfl) dX5_begin_22 (fun H locs hP hD hS => ?_)
  have hP : va_P D vwCl [(s0, .inr (5, [.ref s1, .int 0, .int 200, .int 0])), (s1, .inl (cJ, 40, .inr (.inl ff_1)))] H := hP
  have hD : va_D A [(s0, .inr (5, [.ref s1, .int 0, .int 200, .int 0])), (s1, .inl (cJ, 40, .inr (.inl ff_1)))] := hD
  have hP9 := hP.sub (ws' := [(s0, .inr (5, [.ref s1, .int 0, .int 200, .int 0])), (s1, .inl (cJ, 40, .inr (.inl ff_1)))]) [0, 1] rfl
  have hD9 := hD.sub (ws' := [(s0, .inr (5, [.ref s1, .int 0, .int 200, .int 0])), (s1, .inl (cJ, 40, .inr (.inl ff_1)))]) [0, 1] (by decide) rfl
  exact W.vret hx hb hr (fun t ht hW => ⟨⟨(0, 200, 0, ff_1), rfl, trivial, ⟨by rw [ht]; exact hP9, hD9⟩⟩, hS.F ht⟩) hS.2.2 dX5_begin_25
set_option maxHeartbeats 4000000 in
set_option maxRecDepth 100000 in
/-- X5_tellSounding -/
theorem k_X5_tellSounding (l : Launch) (D : va_G) (cI cJ cZ cM : Nat) (s0 : Nat) (s1 : Nat) (y1 : Int32) (y2 : Int32) (y3 : Int32) (f : Nat → Int64) (x1 : Int32) (x2 : Int32) (sz : Nat) : Met l yX5_tellSounding wsX5_tellSounding ({ frames := 1, cells := 0, slots := 0, locals := 40 } : Room) (RW D cI cJ cZ cM [.ref s0, .int x1, .int x2] [(s0, .inr (5, [.ref s1, .int y1, .int y2, .int y3])), (s1, .inl (cJ, 40, .inr (.inl f)))] sz) (va_Qv (S := Int32 × Int32 × Int32 × (Nat → Int64)) (fun u => True) (BB D (fun u => [(s0, .inr (5, [.ref s1, .int u.1, .int u.2.1, .int u.2.2.1])), (s1, .inl (cJ, 40, .inr (.inl u.2.2.2)))]) (va_A [(s0, .inr (5, [.ref s1, .int y1, .int y2, .int y3])), (s1, .inl (cJ, 40, .inr (.inl f)))] sz)) (va_A [(s0, .inr (5, [.ref s1, .int y1, .int y2, .int y3])), (s1, .inl (cJ, 40, .inr (.inl f)))] sz)) 0 0 (va_A [(s0, .inr (5, [.ref s1, .int y1, .int y2, .int y3])), (s1, .inl (cJ, 40, .inr (.inl f)))] sz) := by
  refine Met.ofW (cc := cX5_tellSounding) (maxL := 3) (ret := none) (by decide) rfl ?_
  intro p e s m args below meth c s₁ B hml hv
  obtain ⟨rfl, hsz, hG, hP, hD0⟩ := hv
  have hx := B.exec
  have hb := B.bytes
  have hr := B.returns
  have hts := atoms_spec (ws := wsX5_tellSounding) B.pre
  have hown : s.vm.findClass RX5 = some m.cls := findClass_of_methodNamed B.named
  have hlocks := B.notSynchronized
  have hK := hG.1
  have hN := hG.2
  subst hsz
  have hD := hD0.self (sz := s.heap.size)
  generalize hAe : va_A [(s0, .inr (5, [.ref s1, .int y1, .int y2, .int y3])), (s1, .inl (cJ, 40, .inr (.inl f)))] s.heap.size = A at hD ⊢
  have hA : ∀ q : Nat, s.heap.size ≤ q → A q := fun q h => by rw [← hAe]; exact Or.inr h
  have hS : va_S A s.heap s.heap [] := va_S.rf
  have hP : va_P D vwCl [(s0, .inr (5, [.ref s1, .int y1, .int y2, .int y3])), (s1, .inl (cJ, 40, .inr (.inl f)))] s.heap := hP
  have hl := lv_entry ([.ref s0, .int x1, .int x2]) (n := 3) (Nat.le_of_ble_eq_true rfl)
  rw [lg_entry_eq]
  generalize (lg_sl ([.ref s0, .int x1, .int x2]) ++ List.replicate (3 - (lg_sl ([.ref s0, .int x1, .int x2])).length) Slot.unset).toArray = ls at hl ⊢
  have hl : lv_has ls 3 [(0, .ref s0), (1, .int x1), (2, .int x2)] := hl
  refine lv_aload_n hx hb dX5_tellSounding_0 rfl (lv_at hl 0 rfl) ?_
  refine lv_aload_n hx hb dX5_tellSounding_1 rfl (lv_at hl 0 rfl) ?_
  refine va_get (D := D) (ci := 5) (v := .int y1) (C := RX5) (T := TX5) (N := 4) hx hb hts (fun _ h9 => List.mem_cons_of_mem _ (List.mem_append_right _ h9)) hown hK hP 0 rfl rfl 1 (by decide) (hts (.fieldLink RX5 25 "BuoyTender$Sighting" "shallowest" "I") (by decide +kernel)) (fun _ h9 => h9) rfl dX5_tellSounding_2 ?_
  refine lv_iload_n hx hb dX5_tellSounding_5 rfl (lv_at hl 1 rfl) ?_
  refine va_mmax hx hb (hml.trans hl.1.symm) hown (hts (.methodLink RX5 32 Lib.Math.max.name) (by decide +kernel)) (hts (.static Lib.Math.max.name) (by decide +kernel)) (hts (.initialized "java/lang/Math") (by decide +kernel)) (hts (.code Lib.Math.max.name Lib.Math.max.code 2 (some .int)) (by decide +kernel)) (Nat.le_of_ble_eq_true rfl) (Nat.le_of_ble_eq_true rfl) (Nat.le_of_ble_eq_true rfl) (Nat.le_of_ble_eq_true rfl) dX5_tellSounding_6 ?_
  refine lv_topi (fun z_1 ez_1 => ?_)
  refine va_put (D := D) (ci := 5) (v := .int z_1) (ty := (tyX5 1)) (C := RX5) (T := TX5) (N := 4) hx hb hts (fun _ h9 => List.mem_cons_of_mem _ (List.mem_append_right _ h9)) tyX5 tyX5_ok nmX5 hown hK hP hD hS 0 rfl rfl 1 (by decide) (hts (.fieldLink RX5 25 "BuoyTender$Sighting" "shallowest" "I") (by decide +kernel)) (fun _ h9 => h9) rfl (by decide +kernel) rfl rfl (Nat.le_of_ble_eq_true rfl) dX5_tellSounding_9 (fun H locs hP hD hS => ?_)
  have hP : va_P D vwCl [(s0, .inr (5, [.ref s1, .int z_1, .int y2, .int y3])), (s1, .inl (cJ, 40, .inr (.inl f)))] H := hP
  have hD : va_D A [(s0, .inr (5, [.ref s1, .int z_1, .int y2, .int y3])), (s1, .inl (cJ, 40, .inr (.inl f)))] := hD
  refine lv_aload_n hx hb dX5_tellSounding_12 rfl (lv_at hl 0 rfl) ?_
  refine lv_aload_n hx hb dX5_tellSounding_13 rfl (lv_at hl 0 rfl) ?_
  refine va_get (D := D) (ci := 5) (v := .int y2) (C := RX5) (T := TX5) (N := 4) hx hb hts (fun _ h9 => List.mem_cons_of_mem _ (List.mem_append_right _ h9)) hown hK hP 0 rfl rfl 2 (by decide) (hts (.fieldLink RX5 15 "BuoyTender$Sighting" "deepest" "I") (by decide +kernel)) (fun _ h9 => h9) rfl dX5_tellSounding_14 ?_
  refine lv_iload_n hx hb dX5_tellSounding_17 rfl (lv_at hl 2 rfl) ?_
  refine va_mmin hx hb (hml.trans hl.1.symm) hown (hts (.methodLink RX5 38 Lib.Math.min.name) (by decide +kernel)) (hts (.static Lib.Math.min.name) (by decide +kernel)) (hts (.initialized "java/lang/Math") (by decide +kernel)) (hts (.code Lib.Math.min.name Lib.Math.min.code 2 (some .int)) (by decide +kernel)) (Nat.le_of_ble_eq_true rfl) (Nat.le_of_ble_eq_true rfl) (Nat.le_of_ble_eq_true rfl) (Nat.le_of_ble_eq_true rfl) dX5_tellSounding_18 ?_
  refine lv_topi (fun z_2 ez_2 => ?_)
  refine va_put (D := D) (ci := 5) (v := .int z_2) (ty := (tyX5 2)) (C := RX5) (T := TX5) (N := 4) hx hb hts (fun _ h9 => List.mem_cons_of_mem _ (List.mem_append_right _ h9)) tyX5 tyX5_ok nmX5 hown hK hP hD hS 0 rfl rfl 2 (by decide) (hts (.fieldLink RX5 15 "BuoyTender$Sighting" "deepest" "I") (by decide +kernel)) (fun _ h9 => h9) rfl (by decide +kernel) rfl rfl (Nat.le_of_ble_eq_true rfl) dX5_tellSounding_21 (fun H locs hP hD hS => ?_)
  have hP : va_P D vwCl [(s0, .inr (5, [.ref s1, .int z_1, .int z_2, .int y3])), (s1, .inl (cJ, 40, .inr (.inl f)))] H := hP
  have hD : va_D A [(s0, .inr (5, [.ref s1, .int z_1, .int z_2, .int y3])), (s1, .inl (cJ, 40, .inr (.inl f)))] := hD
  refine lv_aload_n hx hb dX5_tellSounding_24 rfl (lv_at hl 0 rfl) ?_
  refine lv_iconst (v := 1) hx hb dX5_tellSounding_25 (by decide) ?_
  refine va_put (D := D) (ci := 5) (v := .int 1) (ty := (tyX5 3)) (C := RX5) (T := TX5) (N := 4) hx hb hts (fun _ h9 => List.mem_cons_of_mem _ (List.mem_append_right _ h9)) tyX5 tyX5_ok nmX5 hown hK hP hD hS 0 rfl rfl 3 (by decide) (hts (.fieldLink RX5 28 "BuoyTender$Sighting" "told" "Z") (by decide +kernel)) (fun _ h9 => h9) rfl (by decide +kernel) rfl rfl (Nat.le_of_ble_eq_true rfl) dX5_tellSounding_26 (fun H locs hP hD hS => ?_)
  have hP : va_P D vwCl [(s0, .inr (5, [.ref s1, .int z_1, .int z_2, .int 1])), (s1, .inl (cJ, 40, .inr (.inl f)))] H := hP
  have hD : va_D A [(s0, .inr (5, [.ref s1, .int z_1, .int z_2, .int 1])), (s1, .inl (cJ, 40, .inr (.inl f)))] := hD
  have hP9 := hP.sub (ws' := [(s0, .inr (5, [.ref s1, .int z_1, .int z_2, .int 1])), (s1, .inl (cJ, 40, .inr (.inl f)))]) [0, 1] rfl
  have hD9 := hD.sub (ws' := [(s0, .inr (5, [.ref s1, .int z_1, .int z_2, .int 1])), (s1, .inl (cJ, 40, .inr (.inl f)))]) [0, 1] (by decide) rfl
  exact W.vret hx hb hr (fun t ht hW => ⟨⟨(z_1, z_2, 1, f), rfl, trivial, ⟨by rw [ht]; exact hP9, hD9⟩⟩, hS.F ht⟩) hS.2.2 dX5_tellSounding_29
set_option maxHeartbeats 4000000 in
set_option maxRecDepth 100000 in
/-- X5_tellBearing: the loop at 22 -/
theorem lp_X5_tbI {p : Program} {l : Launch} {e : Env} {s : State} {m : MethodId} {args : Array Value} {below : List Frame} {meth : Method} {c : Code} {Q : State → Prop} {D : va_G} {cI cJ cZ cM : Nat} {s0 : Nat} {s1 : Nat} {y1 : Int32} {y2 : Int32} {y3 : Int32} {x1 : Int32} {x2 : Int32} {x3 : Int32} {x4 : Int32} {x5 : Int32} {x6 : Int32} {i_ : Nat} {f : Nat → Int64} {A : Nat → Prop} (hx : p.tables.exec = Jvm.exec) (hb : c.code = cX5_tellBearing) (hml : c.maxLocals = 12) (hts : ∀ w ∈ wsX5_tellBearing, w.before args s = true) (hown : s.vm.findClass RX5 = some m.cls) (hG : GK D cI cJ cZ cM s) (hA : ∀ q : Nat, s.heap.size ≤ q → A q) (hi_ : i_ < 40) :
    ∀ (k9 : Nat) (k_ : Nat) (z : Int64), (k_ ≤ 40) → 40 - k_ < k9 → ∀ (H : Heap) (locs : List Loc) (ls : Array Slot), va_P D vwCl [(s0, .inr (5, [.ref s1, .int y1, .int y2, .int y3])), (s1, .inl (cJ, 40, .inr (.inl f)))] H → va_D A [(s0, .inr (5, [.ref s1, .int y1, .int y2, .int y3])), (s1, .inl (cJ, 40, .inr (.inl f)))] → va_S A s.heap H locs → lv_has ls 12 [(10, .int (nI k_)), (8, .long z), (7, .int (nI i_)), (0, .ref s0), (1, .int x1), (2, .int x2), (3, .int x3), (4, .int x4), (5, .int x5), (6, .int x6)] → (∀ (z : Int64) (H : Heap) (locs : List Loc) (ls : Array Slot), va_P D vwCl [(s0, .inr (5, [.ref s1, .int y1, .int y2, .int y3])), (s1, .inl (cJ, 40, .inr (.inl f)))] H → va_D A [(s0, .inr (5, [.ref s1, .int y1, .int y2, .int y3])), (s1, .inl (cJ, 40, .inr (.inl f)))] → va_S A s.heap H locs → lv_has ls 12 [(8, .long z), (7, .int (nI i_)), (0, .ref s0), (1, .int x1), (2, .int x2), (3, .int x3), (4, .int x4), (5, .int x5), (6, .int x6)] → W p l e (headSpec wsX5_tellBearing ({ frames := 0, cells := 0, slots := 0, locals := 0 } : Room)).room s m args below meth c H locs 0 0 Q (F0 m 91 ls [])) → W p l e (headSpec wsX5_tellBearing ({ frames := 0, cells := 0, slots := 0, locals := 0 } : Room)).room s m args below meth c H locs 0 0 Q (F0 m 22 ls []) := by
  have hK := hG.1
  have hN := hG.2
  intro k9
  induction k9 with
  | zero => intro k_ z hk hfu; exact absurd hfu (Nat.not_lt_zero _)
  | succ k9 ih =>
    intro k_ z hk hfu H locs ls hP hD hS hl kk0
    rcases Nat.lt_or_ge k_ 40 with hlt | hge
    · refine lv_iload hx hb dX5_tellBearing_22 (lv_at hl 0 rfl) ?_
      refine lv_bipush (v := 40) hx hb dX5_tellBearing_24 (by decide) ?_
      refine lv_icmp_ge (tgt := 91) hx hb dX5_tellBearing_26 (by decide) (fun c_1 => absurd c_1 (nI_ge hlt (by decide))) (fun c_1 => ?_)
      refine lv_iload_n hx hb dX5_tellBearing_29 rfl (lv_at hl 6 rfl) ?_
      refine lv_iload hx hb dX5_tellBearing_30 (lv_at hl 2 rfl) ?_
      refine lv_iload_n hx hb dX5_tellBearing_32 rfl (lv_at hl 5 rfl) ?_
      refine lv_isub hx hb dX5_tellBearing_33 ?_
      refine lv_imul hx hb dX5_tellBearing_34 ?_
      refine lv_iload hx hb dX5_tellBearing_35 (lv_at hl 7 rfl) ?_
      refine lv_iload hx hb dX5_tellBearing_37 (lv_at hl 0 rfl) ?_
      refine lv_iload_n hx hb dX5_tellBearing_39 rfl (lv_at hl 4 rfl) ?_
      refine lv_isub hx hb dX5_tellBearing_40 ?_
      refine lv_imul hx hb dX5_tellBearing_41 ?_
      refine lv_isub hx hb dX5_tellBearing_42 ?_
      refine lv_if_lt (tgt := 68) hx hb dX5_tellBearing_43 (by decide) (fun c_2 => ?_) (fun c_2 => ?_)
      · refine lv_iconst (v := 0) hx hb dX5_tellBearing_68 (by decide) ?_
        refine lv_istore (lv' := [(11, .int 0), (10, .int (nI k_)), (8, .long z), (7, .int (nI i_)), (0, .ref s0), (1, .int x1), (2, .int x2), (3, .int x3), (4, .int x4), (5, .int x5), (6, .int x6)]) hx hb dX5_tellBearing_69 hl (by decide) rfl (fun ls hl => ?_)
        refine lv_iload hx hb dX5_tellBearing_71 (lv_at hl 0 rfl) ?_
        refine lv_if_ne (tgt := 85) hx hb dX5_tellBearing_73 (by decide) (fun c_3 => False.elim (by revert c_3; decide)) (fun _ => ?_)
        refine lv_lload hx hb dX5_tellBearing_76 (lv_at hl 2 rfl) ?_
        refine lv_lconst (v := 1) hx hb dX5_tellBearing_78 (by decide) ?_
        refine lv_iload hx hb dX5_tellBearing_79 (lv_at hl 1 rfl) ?_
        refine lv_lshl hx hb dX5_tellBearing_81 rfl ?_
        refine lv_topl (fun z_4 ez_4 => ?_)
        refine lv_lor hx hb dX5_tellBearing_82 ?_
        refine lv_topl (fun z_5 ez_5 => ?_)
        refine lv_lstore (lv' := [(8, .long z_5), (11, .int 0), (10, .int (nI k_)), (7, .int (nI i_)), (0, .ref s0), (1, .int x1), (2, .int x2), (3, .int x3), (4, .int x4), (5, .int x5), (6, .int x6)]) hx hb dX5_tellBearing_83 hl (by decide) rfl (fun ls hl => ?_)
        refine lv_iinc (v := nI (k_ + 1)) (lv' := [(10, .int (nI (k_ + 1))), (8, .long z_5), (11, .int 0), (7, .int (nI i_)), (0, .ref s0), (1, .int x1), (2, .int x2), (3, .int x3), (4, .int x4), (5, .int x5), (6, .int x6)]) hx hb dX5_tellBearing_85 hl (k := 2) rfl (nI_add k_ 1) (by decide) rfl (fun ls hl => ?_)
        refine lv_goto (tgt := 22) hx hb dX5_tellBearing_88 (by decide) ?_
        exact ih (k_ + 1) z_5 (by omega) (by omega) _ _ _ hP hD hS (lv_sub hl [0, 1, 3, 4, 5, 6, 7, 8, 9, 10] rfl) kk0
      refine lv_iload hx hb dX5_tellBearing_46 (lv_at hl 8 rfl) ?_
      refine lv_iload hx hb dX5_tellBearing_48 (lv_at hl 2 rfl) ?_
      refine lv_iload_n hx hb dX5_tellBearing_50 rfl (lv_at hl 5 rfl) ?_
      refine lv_isub hx hb dX5_tellBearing_51 ?_
      refine lv_imul hx hb dX5_tellBearing_52 ?_
      refine lv_iload hx hb dX5_tellBearing_53 (lv_at hl 9 rfl) ?_
      refine lv_iload hx hb dX5_tellBearing_55 (lv_at hl 0 rfl) ?_
      refine lv_iload_n hx hb dX5_tellBearing_57 rfl (lv_at hl 4 rfl) ?_
      refine lv_isub hx hb dX5_tellBearing_58 ?_
      refine lv_imul hx hb dX5_tellBearing_59 ?_
      refine lv_isub hx hb dX5_tellBearing_60 ?_
      refine lv_if_gt (tgt := 68) hx hb dX5_tellBearing_61 (by decide) (fun c_6 => ?_) (fun c_6 => ?_)
      · refine lv_iconst (v := 0) hx hb dX5_tellBearing_68 (by decide) ?_
        refine lv_istore (lv' := [(11, .int 0), (10, .int (nI k_)), (8, .long z), (7, .int (nI i_)), (0, .ref s0), (1, .int x1), (2, .int x2), (3, .int x3), (4, .int x4), (5, .int x5), (6, .int x6)]) hx hb dX5_tellBearing_69 hl (by decide) rfl (fun ls hl => ?_)
        refine lv_iload hx hb dX5_tellBearing_71 (lv_at hl 0 rfl) ?_
        refine lv_if_ne (tgt := 85) hx hb dX5_tellBearing_73 (by decide) (fun c_7 => False.elim (by revert c_7; decide)) (fun _ => ?_)
        refine lv_lload hx hb dX5_tellBearing_76 (lv_at hl 2 rfl) ?_
        refine lv_lconst (v := 1) hx hb dX5_tellBearing_78 (by decide) ?_
        refine lv_iload hx hb dX5_tellBearing_79 (lv_at hl 1 rfl) ?_
        refine lv_lshl hx hb dX5_tellBearing_81 rfl ?_
        refine lv_topl (fun z_8 ez_8 => ?_)
        refine lv_lor hx hb dX5_tellBearing_82 ?_
        refine lv_topl (fun z_9 ez_9 => ?_)
        refine lv_lstore (lv' := [(8, .long z_9), (11, .int 0), (10, .int (nI k_)), (7, .int (nI i_)), (0, .ref s0), (1, .int x1), (2, .int x2), (3, .int x3), (4, .int x4), (5, .int x5), (6, .int x6)]) hx hb dX5_tellBearing_83 hl (by decide) rfl (fun ls hl => ?_)
        refine lv_iinc (v := nI (k_ + 1)) (lv' := [(10, .int (nI (k_ + 1))), (8, .long z_9), (11, .int 0), (7, .int (nI i_)), (0, .ref s0), (1, .int x1), (2, .int x2), (3, .int x3), (4, .int x4), (5, .int x5), (6, .int x6)]) hx hb dX5_tellBearing_85 hl (k := 2) rfl (nI_add k_ 1) (by decide) rfl (fun ls hl => ?_)
        refine lv_goto (tgt := 22) hx hb dX5_tellBearing_88 (by decide) ?_
        exact ih (k_ + 1) z_9 (by omega) (by omega) _ _ _ hP hD hS (lv_sub hl [0, 1, 3, 4, 5, 6, 7, 8, 9, 10] rfl) kk0
      refine lv_iconst (v := 1) hx hb dX5_tellBearing_64 (by decide) ?_
      refine lv_goto (tgt := 69) hx hb dX5_tellBearing_65 (by decide) ?_
      refine lv_istore (lv' := [(11, .int 1), (10, .int (nI k_)), (8, .long z), (7, .int (nI i_)), (0, .ref s0), (1, .int x1), (2, .int x2), (3, .int x3), (4, .int x4), (5, .int x5), (6, .int x6)]) hx hb dX5_tellBearing_69 hl (by decide) rfl (fun ls hl => ?_)
      refine lv_iload hx hb dX5_tellBearing_71 (lv_at hl 0 rfl) ?_
      refine lv_if_ne (tgt := 85) hx hb dX5_tellBearing_73 (by decide) (fun _ => ?_) (fun c_10 => False.elim (by revert c_10; decide))
      refine lv_iinc (v := nI (k_ + 1)) (lv' := [(10, .int (nI (k_ + 1))), (11, .int 1), (8, .long z), (7, .int (nI i_)), (0, .ref s0), (1, .int x1), (2, .int x2), (3, .int x3), (4, .int x4), (5, .int x5), (6, .int x6)]) hx hb dX5_tellBearing_85 hl (k := 1) rfl (nI_add k_ 1) (by decide) rfl (fun ls hl => ?_)
      refine lv_goto (tgt := 22) hx hb dX5_tellBearing_88 (by decide) ?_
      exact ih (k_ + 1) z (by omega) (by omega) _ _ _ hP hD hS (lv_sub hl [0, 2, 3, 4, 5, 6, 7, 8, 9, 10] rfl) kk0
    · refine lv_iload hx hb dX5_tellBearing_22 (lv_at hl 0 rfl) ?_
      refine lv_bipush (v := 40) hx hb dX5_tellBearing_24 (by decide) ?_
      refine lv_icmp_ge (tgt := 91) hx hb dX5_tellBearing_26 (by decide) (fun c_11 => ?_) (fun c_11 => absurd (nI_le hge (by omega)) c_11)
      exact kk0 z _ _ _  hP hD hS (lv_sub hl [1, 2, 3, 4, 5, 6, 7, 8, 9] rfl)
set_option maxHeartbeats 4000000 in
set_option maxRecDepth 100000 in
/-- X5_tellBearing: the loop at 3 -/
theorem lp_X5_tbO {p : Program} {l : Launch} {e : Env} {s : State} {m : MethodId} {args : Array Value} {below : List Frame} {meth : Method} {c : Code} {Q : State → Prop} {D : va_G} {cI cJ cZ cM : Nat} {s0 : Nat} {s1 : Nat} {y1 : Int32} {y2 : Int32} {y3 : Int32} {x1 : Int32} {x2 : Int32} {x3 : Int32} {x4 : Int32} {x5 : Int32} {x6 : Int32} {A : Nat → Prop} (hx : p.tables.exec = Jvm.exec) (hb : c.code = cX5_tellBearing) (hml : c.maxLocals = 12) (hts : ∀ w ∈ wsX5_tellBearing, w.before args s = true) (hown : s.vm.findClass RX5 = some m.cls) (hG : GK D cI cJ cZ cM s) (hA : ∀ q : Nat, s.heap.size ≤ q → A q)  :
    ∀ (k9 : Nat) (i_ : Nat) (f : Nat → Int64), (i_ ≤ 40) → 40 - i_ < k9 → ∀ (H : Heap) (locs : List Loc) (ls : Array Slot), va_P D vwCl [(s0, .inr (5, [.ref s1, .int y1, .int y2, .int y3])), (s1, .inl (cJ, 40, .inr (.inl f)))] H → va_D A [(s0, .inr (5, [.ref s1, .int y1, .int y2, .int y3])), (s1, .inl (cJ, 40, .inr (.inl f)))] → va_S A s.heap H locs → lv_has ls 12 [(7, .int (nI i_)), (0, .ref s0), (1, .int x1), (2, .int x2), (3, .int x3), (4, .int x4), (5, .int x5), (6, .int x6)] → (∀ (f : Nat → Int64) (H : Heap) (locs : List Loc) (ls : Array Slot), va_P D vwCl [(s0, .inr (5, [.ref s1, .int y1, .int y2, .int y3])), (s1, .inl (cJ, 40, .inr (.inl f)))] H → va_D A [(s0, .inr (5, [.ref s1, .int y1, .int y2, .int y3])), (s1, .inl (cJ, 40, .inr (.inl f)))] → va_S A s.heap H locs → lv_has ls 12 [(0, .ref s0), (1, .int x1), (2, .int x2), (3, .int x3), (4, .int x4), (5, .int x5), (6, .int x6)] → W p l e (headSpec wsX5_tellBearing ({ frames := 0, cells := 0, slots := 0, locals := 0 } : Room)).room s m args below meth c H locs 0 0 Q (F0 m 106 ls [])) → W p l e (headSpec wsX5_tellBearing ({ frames := 0, cells := 0, slots := 0, locals := 0 } : Room)).room s m args below meth c H locs 0 0 Q (F0 m 3 ls []) := by
  have hK := hG.1
  have hN := hG.2
  intro k9
  induction k9 with
  | zero => intro i_ f hi_ hfu; exact absurd hfu (Nat.not_lt_zero _)
  | succ k9 ih =>
    intro i_ f hi_ hfu H locs ls hP hD hS hl kk0
    rcases Nat.lt_or_ge i_ 40 with hlt | hge
    · refine lv_iload hx hb dX5_tellBearing_3 (lv_at hl 0 rfl) ?_
      refine lv_bipush (v := 40) hx hb dX5_tellBearing_5 (by decide) ?_
      refine lv_icmp_ge (tgt := 106) hx hb dX5_tellBearing_7 (by decide) (fun c_1 => absurd c_1 (nI_ge hlt (by decide))) (fun c_1 => ?_)
      refine lv_aload_n hx hb dX5_tellBearing_10 rfl (lv_at hl 1 rfl) ?_
      refine va_get (D := D) (ci := 5) (v := .ref s1) (C := RX5) (T := TX5) (N := 4) hx hb hts (fun _ h9 => List.mem_cons_of_mem _ (List.mem_append_right _ h9)) hown hK hP 0 rfl rfl 0 (by decide) (hts (.fieldLink RX5 9 "BuoyTender$Sighting" "ruledOut" "[J") (by decide +kernel)) (fun _ h9 => h9) rfl dX5_tellBearing_11 ?_
      refine lv_iload hx hb dX5_tellBearing_14 (lv_at hl 0 rfl) ?_
      refine va_lald hx hb hK hP 1 1 rfl rfl (vp_in_nI (by omega) (by decide)) dX5_tellBearing_16 ?_
      refine lv_topl (fun z_2 ez_2 => ?_)
      obtain rfl : z_2 = f i_ := ez_2.trans (congrArg f (nI_clamp (by omega)))
      refine lv_lstore (lv' := [(8, .long (f i_)), (7, .int (nI i_)), (0, .ref s0), (1, .int x1), (2, .int x2), (3, .int x3), (4, .int x4), (5, .int x5), (6, .int x6)]) hx hb dX5_tellBearing_17 hl (by decide) rfl (fun ls hl => ?_)
      refine lv_iconst (v := 0) hx hb dX5_tellBearing_19 (by decide) ?_
      refine lv_istore (lv' := [(10, .int 0), (8, .long (f i_)), (7, .int (nI i_)), (0, .ref s0), (1, .int x1), (2, .int x2), (3, .int x3), (4, .int x4), (5, .int x5), (6, .int x6)]) hx hb dX5_tellBearing_20 hl (by decide) rfl (fun ls hl => ?_)
      refine lp_X5_tbI hx hb hml hts hown hG hA hlt (40 + 1) 0 (f i_) (Nat.zero_le _) (by omega) _ _ _ hP hD hS (lv_sub hl [0, 1, 2, 3, 4, 5, 6, 7, 8, 9] rfl) (fun z_3 H locs ls  hP hD hS hl => ?_)
      refine lv_aload_n hx hb dX5_tellBearing_91 rfl (lv_at hl 2 rfl) ?_
      refine va_get (D := D) (ci := 5) (v := .ref s1) (C := RX5) (T := TX5) (N := 4) hx hb hts (fun _ h9 => List.mem_cons_of_mem _ (List.mem_append_right _ h9)) hown hK hP 0 rfl rfl 0 (by decide) (hts (.fieldLink RX5 9 "BuoyTender$Sighting" "ruledOut" "[J") (by decide +kernel)) (fun _ h9 => h9) rfl dX5_tellBearing_92 ?_
      refine lv_iload hx hb dX5_tellBearing_95 (lv_at hl 1 rfl) ?_
      refine lv_lload hx hb dX5_tellBearing_97 (lv_at hl 0 rfl) ?_
      refine va_last hx hb hK hP hD hS 1 1 rfl rfl (vp_in_nI (by omega) (by decide)) dX5_tellBearing_99 (fun H locs hP hD hS => ?_)
      rw [nI_clamp (by omega)] at hP hD
      have hP : va_P D vwCl [(s0, .inr (5, [.ref s1, .int y1, .int y2, .int y3])), (s1, .inl (cJ, 40, .inr (.inl (vp_updL f i_ z_3))))] H := hP
      have hD : va_D A [(s0, .inr (5, [.ref s1, .int y1, .int y2, .int y3])), (s1, .inl (cJ, 40, .inr (.inl (vp_updL f i_ z_3))))] := hD
      refine lv_iinc (v := nI (i_ + 1)) (lv' := [(7, .int (nI (i_ + 1))), (8, .long z_3), (0, .ref s0), (1, .int x1), (2, .int x2), (3, .int x3), (4, .int x4), (5, .int x5), (6, .int x6)]) hx hb dX5_tellBearing_100 hl (k := 1) rfl (nI_add i_ 1) (by decide) rfl (fun ls hl => ?_)
      refine lv_goto (tgt := 3) hx hb dX5_tellBearing_103 (by decide) ?_
      exact ih (i_ + 1) (vp_updL f i_ z_3) (by omega) (by omega) _ _ _ hP hD hS (lv_sub hl [0, 2, 3, 4, 5, 6, 7, 8] rfl) kk0
    · refine lv_iload hx hb dX5_tellBearing_3 (lv_at hl 0 rfl) ?_
      refine lv_bipush (v := 40) hx hb dX5_tellBearing_5 (by decide) ?_
      refine lv_icmp_ge (tgt := 106) hx hb dX5_tellBearing_7 (by decide) (fun c_4 => ?_) (fun c_4 => absurd (nI_le hge (by omega)) c_4)
      exact kk0 f _ _ _  hP hD hS (lv_sub hl [1, 2, 3, 4, 5, 6, 7] rfl)
set_option maxHeartbeats 4000000 in
set_option maxRecDepth 100000 in
/-- X5_tellBearing -/
theorem k_X5_tellBearing (l : Launch) (D : va_G) (cI cJ cZ cM : Nat) (s0 : Nat) (s1 : Nat) (y1 : Int32) (y2 : Int32) (y3 : Int32) (f : Nat → Int64) (x1 : Int32) (x2 : Int32) (x3 : Int32) (x4 : Int32) (x5 : Int32) (x6 : Int32) (sz : Nat) : Met l yX5_tellBearing wsX5_tellBearing ({ frames := 0, cells := 0, slots := 0, locals := 0 } : Room) (RW D cI cJ cZ cM [.ref s0, .int x1, .int x2, .int x3, .int x4, .int x5, .int x6] [(s0, .inr (5, [.ref s1, .int y1, .int y2, .int y3])), (s1, .inl (cJ, 40, .inr (.inl f)))] sz) (va_Qv (S := Int32 × Int32 × Int32 × (Nat → Int64)) (fun u => True) (BB D (fun u => [(s0, .inr (5, [.ref s1, .int u.1, .int u.2.1, .int u.2.2.1])), (s1, .inl (cJ, 40, .inr (.inl u.2.2.2)))]) (va_A [(s0, .inr (5, [.ref s1, .int y1, .int y2, .int y3])), (s1, .inl (cJ, 40, .inr (.inl f)))] sz)) (va_A [(s0, .inr (5, [.ref s1, .int y1, .int y2, .int y3])), (s1, .inl (cJ, 40, .inr (.inl f)))] sz)) 0 0 (va_A [(s0, .inr (5, [.ref s1, .int y1, .int y2, .int y3])), (s1, .inl (cJ, 40, .inr (.inl f)))] sz) := by
  refine Met.ofW (cc := cX5_tellBearing) (maxL := 12) (ret := none) (by decide) rfl ?_
  intro p e s m args below meth c s₁ B hml hv
  obtain ⟨rfl, hsz, hG, hP, hD0⟩ := hv
  have hx := B.exec
  have hb := B.bytes
  have hr := B.returns
  have hts := atoms_spec (ws := wsX5_tellBearing) B.pre
  have hown : s.vm.findClass RX5 = some m.cls := findClass_of_methodNamed B.named
  have hlocks := B.notSynchronized
  have hK := hG.1
  have hN := hG.2
  subst hsz
  have hD := hD0.self (sz := s.heap.size)
  generalize hAe : va_A [(s0, .inr (5, [.ref s1, .int y1, .int y2, .int y3])), (s1, .inl (cJ, 40, .inr (.inl f)))] s.heap.size = A at hD ⊢
  have hA : ∀ q : Nat, s.heap.size ≤ q → A q := fun q h => by rw [← hAe]; exact Or.inr h
  have hS : va_S A s.heap s.heap [] := va_S.rf
  have hP : va_P D vwCl [(s0, .inr (5, [.ref s1, .int y1, .int y2, .int y3])), (s1, .inl (cJ, 40, .inr (.inl f)))] s.heap := hP
  have hl := lv_entry ([.ref s0, .int x1, .int x2, .int x3, .int x4, .int x5, .int x6]) (n := 12) (Nat.le_of_ble_eq_true rfl)
  rw [lg_entry_eq]
  generalize (lg_sl ([.ref s0, .int x1, .int x2, .int x3, .int x4, .int x5, .int x6]) ++ List.replicate (12 - (lg_sl ([.ref s0, .int x1, .int x2, .int x3, .int x4, .int x5, .int x6])).length) Slot.unset).toArray = ls at hl ⊢
  have hl : lv_has ls 12 [(0, .ref s0), (1, .int x1), (2, .int x2), (3, .int x3), (4, .int x4), (5, .int x5), (6, .int x6)] := hl
  refine lv_iconst (v := 0) hx hb dX5_tellBearing_0 (by decide) ?_
  refine lv_istore (lv' := [(7, .int 0), (0, .ref s0), (1, .int x1), (2, .int x2), (3, .int x3), (4, .int x4), (5, .int x5), (6, .int x6)]) hx hb dX5_tellBearing_1 hl (by decide) rfl (fun ls hl => ?_)
  refine lp_X5_tbO hx hb hml hts hown hG hA  (40 + 1) 0 f (Nat.zero_le _) (by omega) _ _ _ hP hD hS (lv_sub hl [0, 1, 2, 3, 4, 5, 6, 7] rfl) (fun f_1 H locs ls  hP hD hS hl => ?_)
  refine lv_aload_n hx hb dX5_tellBearing_106 rfl (lv_at hl 0 rfl) ?_
  refine lv_iconst (v := 1) hx hb dX5_tellBearing_107 (by decide) ?_
  refine va_put (D := D) (ci := 5) (v := .int 1) (ty := (tyX5 3)) (C := RX5) (T := TX5) (N := 4) hx hb hts (fun _ h9 => List.mem_cons_of_mem _ (List.mem_append_right _ h9)) tyX5 tyX5_ok nmX5 hown hK hP hD hS 0 rfl rfl 3 (by decide) (hts (.fieldLink RX5 28 "BuoyTender$Sighting" "told" "Z") (by decide +kernel)) (fun _ h9 => h9) rfl (by decide +kernel) rfl rfl (Nat.le_of_ble_eq_true rfl) dX5_tellBearing_108 (fun H locs hP hD hS => ?_)
  have hP : va_P D vwCl [(s0, .inr (5, [.ref s1, .int y1, .int y2, .int 1])), (s1, .inl (cJ, 40, .inr (.inl f_1)))] H := hP
  have hD : va_D A [(s0, .inr (5, [.ref s1, .int y1, .int y2, .int 1])), (s1, .inl (cJ, 40, .inr (.inl f_1)))] := hD
  have hP9 := hP.sub (ws' := [(s0, .inr (5, [.ref s1, .int y1, .int y2, .int 1])), (s1, .inl (cJ, 40, .inr (.inl f_1)))]) [0, 1] rfl
  have hD9 := hD.sub (ws' := [(s0, .inr (5, [.ref s1, .int y1, .int y2, .int 1])), (s1, .inl (cJ, 40, .inr (.inl f_1)))]) [0, 1] (by decide) rfl
  exact W.vret hx hb hr (fun t ht hW => ⟨⟨(y1, y2, 1, f_1), rfl, trivial, ⟨by rw [ht]; exact hP9, hD9⟩⟩, hS.F ht⟩) hS.2.2 dX5_tellBearing_111
