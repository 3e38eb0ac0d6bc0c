theorem rng1_n {x : Int32} {N : Nat} (hN : N < 2 ^ 31) (h : 1 ≤ x ∧ x ≤ nI N) : ∃ t, 1 ≤ t ∧ t ≤ N ∧ x = nI t := by
  obtain ⟨j, hj, rfl⟩ := nI_of (x := x) (fun q => by
    have := Int32.lt_of_le_of_lt h.1 q
    exact absurd this (by decide))
  exact ⟨j, (nI_leI (by decide) hj).mp h.1, (nI_leI hj hN).mp h.2, rfl⟩
def nrC (v w : Nat → Int32) : Int32 := (v 0 - w 0) * (v 0 - w 0) + (v 1 - w 1) * (v 1 - w 1)
set_option maxHeartbeats 4000000 in
set_option maxRecDepth 100000 in
/-- no rhythm -/
theorem k_X3_goDark (l : Launch) (D : va_G) (cI cJ cZ cM : Nat) (s0 : Nat) (s1 : Nat) (y1 : Int32) (f : Nat → Int32) (sz : Nat) : Met l yX3_goDark wsX3_goDark ({ frames := 0, cells := 0, slots := 0, locals := 0 } : Room) (RW D cI cJ cZ cM [.ref s0] [(s0, .inr (3, [.ref s1, .int y1])), (s1, .inl (cI, 8, .inl f))] sz) (va_Qv (S := Unit) (fun u => True) (BB D (fun _ => [(s0, .inr (3, [.ref s1, .int 0])), (s1, .inl (cI, 8, .inl f))]) (va_A [(s0, .inr (3, [.ref s1, .int y1])), (s1, .inl (cI, 8, .inl f))] sz)) (va_A [(s0, .inr (3, [.ref s1, .int y1])), (s1, .inl (cI, 8, .inl f))] sz)) 0 0 (va_A [(s0, .inr (3, [.ref s1, .int y1])), (s1, .inl (cI, 8, .inl f))] sz) := by
  refine Met.ofW (cc := cX3_goDark) (maxL := 1) (ret := none) (by decide) rfl ?_
  intro p e s m args below meth c s₁ B hml hv
  obtain ⟨rfl, hsz, hG, hP, hD0⟩ := hv
  have hx := B.exec
  have hb := B.bytes
  have hr := B.returns
  have hts := atoms_spec (ws := wsX3_goDark) B.pre
  have hown : s.vm.findClass RX3 = some m.cls := findClass_of_methodNamed B.named
  have hlocks := B.notSynchronized
  have hK := hG.1
  have hN := hG.2
  subst hsz
  have hD := hD0.self (sz := s.heap.size)
  generalize hAe : va_A [(s0, .inr (3, [.ref s1, .int y1])), (s1, .inl (cI, 8, .inl f))] s.heap.size = A at hD ⊢
  have hA : ∀ q : Nat, s.heap.size ≤ q → A q := fun q h => by rw [← hAe]; exact Or.inr h
  have hS : va_S A s.heap s.heap [] := va_S.rf
  have hP : va_P D vwCl [(s0, .inr (3, [.ref s1, .int y1])), (s1, .inl (cI, 8, .inl f))] s.heap := hP
  have hl := lv_entry ([.ref s0]) (n := 1) (Nat.le_of_ble_eq_true rfl)
  rw [lg_entry_eq]
  generalize (lg_sl ([.ref s0]) ++ List.replicate (1 - (lg_sl ([.ref s0])).length) Slot.unset).toArray = ls at hl ⊢
  have hl : lv_has ls 1 [(0, .ref s0)] := hl
  refine lv_aload_n hx hb dX3_goDark_0 rfl (lv_at hl 0 rfl) ?_
  refine lv_iconst (v := 0) hx hb dX3_goDark_1 (by decide) ?_
  refine va_put (D := D) (ci := 3) (v := .int 0) (ty := (tyX3 1)) (C := RX3) (T := TX3) (N := 2) hx hb hts (fun _ h9 => List.mem_cons_of_mem _ (List.mem_append_right _ h9)) tyX3 tyX3_ok nmX3 hown hK hP hD hS 0 rfl rfl 1 (by decide) (hts (.fieldLink RX3 15 "BuoyTender$Rhythm" "many" "I") (by decide +kernel)) (fun _ h9 => h9) rfl (by decide +kernel) rfl rfl (Nat.le_of_ble_eq_true rfl) dX3_goDark_2 (fun H locs hP hD hS => ?_)
  have hP : va_P D vwCl [(s0, .inr (3, [.ref s1, .int 0])), (s1, .inl (cI, 8, .inl f))] H := hP
  have hD : va_D A [(s0, .inr (3, [.ref s1, .int 0])), (s1, .inl (cI, 8, .inl f))] := hD
  have hP9 := hP.sub (ws' := [(s0, .inr (3, [.ref s1, .int 0])), (s1, .inl (cI, 8, .inl f))]) [0, 1] rfl
  have hD9 := hD.sub (ws' := [(s0, .inr (3, [.ref s1, .int 0])), (s1, .inl (cI, 8, .inl f))]) [0, 1] (by decide) rfl
  exact W.vret hx hb hr (fun t ht hW => ⟨⟨(), rfl, trivial, ⟨by rw [ht]; exact hP9, hD9⟩⟩, hS.F ht⟩) hS.2.2 dX3_goDark_5
set_option maxHeartbeats 4000000 in
set_option maxRecDepth 100000 in
/-- is there a rhythm -/
theorem k_X3_isLit (l : Launch) (D : va_G) (cI cJ cZ cM : Nat) (s0 : Nat) (s1 : Nat) (y1 : Int32) (f : Nat → Int32) : Met l yX3_isLit wsX3_isLit ({ frames := 0, cells := 0, slots := 0, locals := 0 } : Room) (RO D cI cJ cZ cM [.ref s0] [(s0, .inr (3, [.ref s1, .int y1])), (s1, .inl (cI, 8, .inl f))]) (vp_Si (fun r => r = 0 ∨ r = 1)) 0 0 (fun _ => False) := by
  refine Met.ofW (cc := cX3_isLit) (maxL := 1) (ret := (some .boolean)) (by decide) rfl ?_
  intro p e s m args below meth c s₁ B hml hv
  obtain ⟨rfl, hG, hP⟩ := hv
  have hx := B.exec
  have hb := B.bytes
  have hr := B.returns
  have hts := atoms_spec (ws := wsX3_isLit) B.pre
  have hown : s.vm.findClass RX3 = some m.cls := findClass_of_methodNamed B.named
  have hlocks := B.notSynchronized
  have hK := hG.1
  have hN := hG.2
  have hl := lv_entry ([.ref s0]) (n := 1) (Nat.le_of_ble_eq_true rfl)
  rw [lg_entry_eq]
  generalize (lg_sl ([.ref s0]) ++ List.replicate (1 - (lg_sl ([.ref s0])).length) Slot.unset).toArray = ls at hl ⊢
  have hl : lv_has ls 1 [(0, .ref s0)] := hl
  refine lv_aload_n hx hb dX3_isLit_0 rfl (lv_at hl 0 rfl) ?_
  refine va_get (D := D) (ci := 3) (v := .int y1) (C := RX3) (T := TX3) (N := 2) hx hb hts (fun _ h9 => List.mem_cons_of_mem _ (List.mem_append_right _ h9)) hown hK hP 0 rfl rfl 1 (by decide) (hts (.fieldLink RX3 15 "BuoyTender$Rhythm" "many" "I") (by decide +kernel)) (fun _ h9 => h9) rfl dX3_isLit_1 ?_
  refine lv_if_le (tgt := 11) hx hb dX3_isLit_4 (by decide) (fun c_1 => ?_) (fun c_1 => ?_)
  · refine lv_iconst (v := 0) hx hb dX3_isLit_11 (by decide) ?_
    exact W.zret (v := 0) hx hb hr rfl (fun t ht hW => ⟨0, rfl, (Or.inl rfl), ht⟩) (fun _ h => by cases h) dX3_isLit_12
  refine lv_iconst (v := 1) hx hb dX3_isLit_7 (by decide) ?_
  refine lv_goto (tgt := 12) hx hb dX3_isLit_8 (by decide) ?_
  exact W.zret (v := 1) hx hb hr rfl (fun t ht hW => ⟨1, rfl, (Or.inr rfl), ht⟩) (fun _ h => by cases h) dX3_isLit_12
set_option maxHeartbeats 4000000 in
set_option maxRecDepth 100000 in
/-- X3_read: the loop at 23 -/
theorem lp_X3_read {p : Program} {l : Launch} {e : Env} {s : State} {m : MethodId} {args : Array Value} {below : List Frame} {meth : Method} {c : Code} {Q : State → Prop} {D : va_G} {cI cJ cZ cM : Nat} {a : Nat → Nat} {iv : Nat → Int32} {v_ : Nat} {x2 : Int32} {A : Nat → Prop} (hx : p.tables.exec = Jvm.exec) (hb : c.code = cX3_read) (hml : c.maxLocals = 6) (hts : ∀ w ∈ wsX3_read, w.before args s = true) (hown : s.vm.findClass RX3 = some m.cls) (hG : GK D cI cJ cZ cM s) (hA : ∀ q : Nat, s.heap.size ≤ q → A q) (hv_ : v_ ≤ 8) :
    ∀ (k9 : Nat) (k_ : Nat) (z : Int32) (f15 : Nat → Int32), (k_ ≤ v_) → v_ - k_ < k9 → ∀ (H : Heap) (locs : List Loc) (ls : Array Slot), va_P D vwCl [(a 8, .inr (3, [.ref (a 15), .int (iv 19)])), (a 15, .inl (cI, 8, .inl f15))] H → va_D A [(a 8, .inr (3, [.ref (a 15), .int (iv 19)])), (a 15, .inl (cI, 8, .inl f15))] → va_S A s.heap H locs → lv_has ls 6 [(4, .int (nI k_)), (3, .int z), (0, .ref (a 8)), (1, .int (nI v_)), (2, .int x2)] → (∀ (z : Int32) (f15 : Nat → Int32) (H : Heap) (locs : List Loc) (ls : Array Slot), va_P D vwCl [(a 8, .inr (3, [.ref (a 15), .int (iv 19)])), (a 15, .inl (cI, 8, .inl f15))] H → va_D A [(a 8, .inr (3, [.ref (a 15), .int (iv 19)])), (a 15, .inl (cI, 8, .inl f15))] → va_S A s.heap H locs → lv_has ls 6 [(3, .int z), (0, .ref (a 8)), (1, .int (nI v_)), (2, .int x2)] → W p l e (headSpec wsX3_read ({ frames := 1, cells := 0, slots := 0, locals := 22 } : Room)).room s m args below meth c H locs 0 0 Q (F0 m 62 ls [])) → (∀ (f15 : Nat → Int32) (H : Heap) (locs : List Loc) (ls : Array Slot), va_P D vwCl [(a 8, .inr (3, [.ref (a 15), .int (iv 19)])), (a 15, .inl (cI, 8, .inl f15))] H → va_D A [(a 8, .inr (3, [.ref (a 15), .int (iv 19)])), (a 15, .inl (cI, 8, .inl f15))] → va_S A s.heap H locs → lv_has ls 6 [(0, .ref (a 8))] → W p l e (headSpec wsX3_read ({ frames := 1, cells := 0, slots := 0, locals := 22 } : Room)).room s m args below meth c H locs 0 0 Q (F0 m 40 ls [])) → W p l e (headSpec wsX3_read ({ frames := 1, cells := 0, slots := 0, locals := 22 } : Room)).room s m args below meth c H locs 0 0 Q (F0 m 23 ls []) := by
  have hK := hG.1
  have hN := hG.2
  intro k9
  induction k9 with
  | zero => intro k_ z f15 hk hfu; exact absurd hfu (Nat.not_lt_zero _)
  | succ k9 ih =>
    intro k_ z f15 hk hfu H locs ls hP hD hS hl kk0 kk1
    rcases Nat.lt_or_ge k_ v_ with hlt | hge
    · refine lv_iload hx hb dX3_read_23 (lv_at hl 0 rfl) ?_
      refine lv_iload_n hx hb dX3_read_25 rfl (lv_at hl 3 rfl) ?_
      refine lv_icmp_ge (tgt := 62) hx hb dX3_read_26 (by decide) (fun c_1 => absurd c_1 (nI_ge hlt (by omega))) (fun c_1 => ?_)
      refine lv_iload_n hx hb dX3_read_29 rfl (lv_at hl 1 rfl) ?_
      refine lv_bipush (v := 10) hx hb dX3_read_30 (by decide) ?_
      refine lv_irem hx hb dX3_read_32 (by decide) ?_
      refine lv_istore (lv' := [(5, .int (z - z / 10 * 10)), (4, .int (nI k_)), (3, .int z), (0, .ref (a 8)), (1, .int (nI v_)), (2, .int x2)]) hx hb dX3_read_33 hl (by decide) rfl (fun ls hl => ?_)
      refine lv_iload hx hb dX3_read_35 (lv_at hl 0 rfl) ?_
      refine lv_if_gt (tgt := 42) hx hb dX3_read_37 (by decide) (fun c_2 => ?_) (fun c_2 => ?_)
      · refine lv_aload_n hx hb dX3_read_42 rfl (lv_at hl 3 rfl) ?_
        refine va_get (D := D) (ci := 3) (v := .ref (a 15)) (C := RX3) (T := TX3) (N := 2) hx hb hts (fun _ h9 => List.mem_cons_of_mem _ (List.mem_append_right _ h9)) hown hK hP 0 rfl rfl 0 (by decide) (hts (.fieldLink RX3 9 "BuoyTender$Rhythm" "steps" "[I") (by decide +kernel)) (fun _ h9 => h9) rfl dX3_read_43 ?_
        refine lv_iload hx hb dX3_read_46 (lv_at hl 1 rfl) ?_
        refine lv_iload hx hb dX3_read_48 (lv_at hl 0 rfl) ?_
        refine va_iast hx hb hK hP hD hS 1 0 rfl rfl (vp_in_nI (by omega) (by decide)) dX3_read_50 (fun H locs hP hD hS => ?_)
        rw [nI_clamp (by omega)] at hP hD
        have hP : va_P D vwCl [(a 8, .inr (3, [.ref (a 15), .int (iv 19)])), (a 15, .inl (cI, 8, .inl (upd f15 k_ (z - z / 10 * 10))))] H := hP
        have hD : va_D A [(a 8, .inr (3, [.ref (a 15), .int (iv 19)])), (a 15, .inl (cI, 8, .inl (upd f15 k_ (z - z / 10 * 10))))] := hD
        refine lv_iload_n hx hb dX3_read_51 rfl (lv_at hl 2 rfl) ?_
        refine lv_bipush (v := 10) hx hb dX3_read_52 (by decide) ?_
        refine lv_idiv hx hb dX3_read_54 (by decide) ?_
        refine lv_istore_n (lv' := [(3, .int (z / 10)), (5, .int (z - z / 10 * 10)), (4, .int (nI k_)), (0, .ref (a 8)), (1, .int (nI v_)), (2, .int x2)]) hx hb dX3_read_55 rfl hl (by decide) rfl (fun ls hl => ?_)
        refine lv_iinc (v := nI (k_ + 1)) (lv' := [(4, .int (nI (k_ + 1))), (3, .int (z / 10)), (5, .int (z - z / 10 * 10)), (0, .ref (a 8)), (1, .int (nI v_)), (2, .int x2)]) hx hb dX3_read_56 hl (k := 2) rfl (nI_add k_ 1) (by decide) rfl (fun ls hl => ?_)
        refine lv_goto (tgt := 23) hx hb dX3_read_59 (by decide) ?_
        exact ih (k_ + 1) (z / 10) (upd f15 k_ (z - z / 10 * 10)) (by omega) (by omega) _ _ _ hP hD hS (lv_sub hl [0, 1, 3, 4, 5] rfl) kk0 kk1
      exact kk1 f15 _ _ _  hP hD hS (lv_sub hl [3] rfl)
    · refine lv_iload hx hb dX3_read_23 (lv_at hl 0 rfl) ?_
      refine lv_iload_n hx hb dX3_read_25 rfl (lv_at hl 3 rfl) ?_
      refine lv_icmp_ge (tgt := 62) hx hb dX3_read_26 (by decide) (fun c_3 => ?_) (fun c_3 => absurd (nI_le hge (by omega)) c_3)
      exact kk0 z f15 _ _ _  hP hD hS (lv_sub hl [1, 2, 3, 4] rfl)
set_option maxHeartbeats 4000000 in
set_option maxRecDepth 100000 in
/-- X3_read -/
theorem k_X3_read (l : Launch) (D : va_G) (cI cJ cZ cM : Nat) (a : Nat → Nat) (iv : Nat → Int32) (av : Nat → Nat → Int32) (b9 : Nat) (e19 : iv 19 = nI b9) (hb9 : b9 ≤ 8) (x1 : Int32) (x2 : Int32) (sz : Nat) : Met l yX3_read wsX3_read ({ frames := 1, cells := 0, slots := 0, locals := 22 } : Room) (RW D cI cJ cZ cM [.ref (a 8), .int x1, .int x2] [(a 8, .inr (3, [.ref (a 15), .int (iv 19)])), (a 15, .inl (cI, 8, .inl (av 15)))] sz) (va_Qi (S := Int32 × (Nat → Int32)) (fun r u => (r = 0 ∨ r = 1) ∧ ∃ q, q ≤ 8 ∧ u.1 = nI q) (BB D (fun u => [(a 8, .inr (3, [.ref (a 15), .int u.1])), (a 15, .inl (cI, 8, .inl u.2))]) (va_A [(a 8, .inr (3, [.ref (a 15), .int (iv 19)])), (a 15, .inl (cI, 8, .inl (av 15)))] sz)) (va_A [(a 8, .inr (3, [.ref (a 15), .int (iv 19)])), (a 15, .inl (cI, 8, .inl (av 15)))] sz)) 0 0 (va_A [(a 8, .inr (3, [.ref (a 15), .int (iv 19)])), (a 15, .inl (cI, 8, .inl (av 15)))] sz) := by
  refine Met.ofW (cc := cX3_read) (maxL := 6) (ret := (some .boolean)) (by decide) rfl ?_
  intro p e s m args below meth c s₁ B hml hv
  obtain ⟨rfl, hsz, hG, hP, hD0⟩ := hv
  have hx := B.exec
  have hb := B.bytes
  have hr := B.returns
  have hts := atoms_spec (ws := wsX3_read) B.pre
  have hown : s.vm.findClass RX3 = some m.cls := findClass_of_methodNamed B.named
  have hlocks := B.notSynchronized
  have hK := hG.1
  have hN := hG.2
  subst hsz
  have hD := hD0.self (sz := s.heap.size)
  generalize hAe : va_A [(a 8, .inr (3, [.ref (a 15), .int (iv 19)])), (a 15, .inl (cI, 8, .inl (av 15)))] s.heap.size = A at hD ⊢
  have hA : ∀ q : Nat, s.heap.size ≤ q → A q := fun q h => by rw [← hAe]; exact Or.inr h
  have hS : va_S A s.heap s.heap [] := va_S.rf
  have hP : va_P D vwCl [(a 8, .inr (3, [.ref (a 15), .int (iv 19)])), (a 15, .inl (cI, 8, .inl (av 15)))] s.heap := hP
  have hl := lv_entry ([.ref (a 8), .int x1, .int x2]) (n := 6) (Nat.le_of_ble_eq_true rfl)
  rw [lg_entry_eq]
  generalize (lg_sl ([.ref (a 8), .int x1, .int x2]) ++ List.replicate (6 - (lg_sl ([.ref (a 8), .int x1, .int x2])).length) Slot.unset).toArray = ls at hl ⊢
  have hl : lv_has ls 6 [(0, .ref (a 8)), (1, .int x1), (2, .int x2)] := hl
  refine lv_iload_n hx hb dX3_read_0 rfl (lv_at hl 1 rfl) ?_
  refine lv_iconst (v := 1) hx hb dX3_read_1 (by decide) ?_
  refine lv_bipush (v := 8) hx hb dX3_read_2 (by decide) ?_
  refine vp_callSi (va_Run.run (va_runSN (As := [.int x1, .int 1, .int 8]) (rest := []) ⟨hx, hb, hml, hown, hts⟩ (k_X8_within l x1 1 8) ⟨(va_cnB 3 hts gX3_read_X8_within_n19 rfl rfl rfl (hN.2.1 (RX3, 19, yX8_within, "BuoyTender") (by decide +kernel)) (hts (.initialized RX8) (by decide +kernel)) (by decide +kernel) ⟨Nat.le_of_ble_eq_true rfl, Nat.le_of_ble_eq_true rfl⟩), hts (.static yX8_within) (by decide +kernel), trivial⟩ preEq rfl rfl hl.1 rfl (lv_room (Nat.le_of_ble_eq_true rfl)) dX3_read_4 ⟨Nat.le_of_ble_eq_true rfl, Nat.le_of_ble_eq_true rfl⟩)) (fun r_1 h_1 => ?_)
  rcases h_1 with ⟨rfl, h_1⟩ | ⟨rfl, h_1⟩
  · refine lv_if_eq (tgt := 16) hx hb dX3_read_7 (by decide) (fun c_2 => False.elim (by revert c_2; decide)) (fun _ => ?_)
    refine lv_iload_n hx hb dX3_read_10 rfl (lv_at hl 1 rfl) ?_
    refine lv_iconst (v := 2) hx hb dX3_read_11 (by decide) ?_
    refine lv_irem hx hb dX3_read_12 (by decide) ?_
    refine lv_if_eq (tgt := 18) hx hb dX3_read_13 (by decide) (fun c_3 => ?_) (fun c_3 => ?_)
    · obtain ⟨v_, hv1_, hv_, rfl⟩ := rng1_n (N := 8) (by decide) h_1
      have hl : lv_has ls 6 [(0, .ref (a 8)), (1, .int (nI v_)), (2, .int x2)] := hl
      refine lv_iload_n hx hb dX3_read_18 rfl (lv_at hl 2 rfl) ?_
      refine lv_istore_n (lv' := [(3, .int x2), (0, .ref (a 8)), (1, .int (nI v_)), (2, .int x2)]) hx hb dX3_read_19 rfl hl (by decide) rfl (fun ls hl => ?_)
      refine lv_iconst (v := 0) hx hb dX3_read_20 (by decide) ?_
      refine lv_istore (lv' := [(4, .int 0), (3, .int x2), (0, .ref (a 8)), (1, .int (nI v_)), (2, .int x2)]) hx hb dX3_read_21 hl (by decide) rfl (fun ls hl => ?_)
      refine lp_X3_read hx hb hml hts hown hG hA hv_ (v_ + 1) 0 x2 (av 15) (Nat.zero_le _) (by omega) _ _ _ hP hD hS (lv_sub hl [0, 1, 2, 3, 4] rfl) (fun z_4 f15_4 H locs ls  hP hD hS hl => ?_) (fun f15_5 H locs ls  hP hD hS hl => ?_)
      · refine lv_aload_n hx hb dX3_read_62 rfl (lv_at hl 1 rfl) ?_
        refine lv_iload_n hx hb dX3_read_63 rfl (lv_at hl 2 rfl) ?_
        refine va_put (D := D) (ci := 3) (v := .int (nI v_)) (ty := (tyX3 1)) (C := RX3) (T := TX3) (N := 2) hx hb hts (fun _ h9 => List.mem_cons_of_mem _ (List.mem_append_right _ h9)) tyX3 tyX3_ok nmX3 hown hK hP hD hS 0 rfl rfl 1 (by decide) (hts (.fieldLink RX3 15 "BuoyTender$Rhythm" "many" "I") (by decide +kernel)) (fun _ h9 => h9) rfl (by decide +kernel) rfl rfl (Nat.le_of_ble_eq_true rfl) dX3_read_64 (fun H locs hP hD hS => ?_)
        have hP : va_P D vwCl [(a 8, .inr (3, [.ref (a 15), .int (nI v_)])), (a 15, .inl (cI, 8, .inl f15_4))] H := hP
        have hD : va_D A [(a 8, .inr (3, [.ref (a 15), .int (nI v_)])), (a 15, .inl (cI, 8, .inl f15_4))] := hD
        refine lv_iload_n hx hb dX3_read_67 rfl (lv_at hl 0 rfl) ?_
        refine lv_if_ne (tgt := 75) hx hb dX3_read_68 (by decide) (fun c_6 => ?_) (fun c_6 => ?_)
        · refine lv_iconst (v := 0) hx hb dX3_read_75 (by decide) ?_
          have hP9 := hP.sub (ws' := [(a 8, .inr (3, [.ref (a 15), .int (nI v_)])), (a 15, .inl (cI, 8, .inl f15_4))]) [0, 1] rfl
          have hD9 := hD.sub (ws' := [(a 8, .inr (3, [.ref (a 15), .int (nI v_)])), (a 15, .inl (cI, 8, .inl f15_4))]) [0, 1] (by decide) rfl
          exact W.zret (v := 0) hx hb hr rfl (fun t ht hW => ⟨⟨0, (nI v_, f15_4), rfl, ⟨Or.inl rfl, _, hv_, rfl⟩, ⟨by rw [ht]; exact hP9, hD9⟩⟩, hS.F ht⟩) hS.2.2 dX3_read_76
        refine lv_iconst (v := 1) hx hb dX3_read_71 (by decide) ?_
        refine lv_goto (tgt := 76) hx hb dX3_read_72 (by decide) ?_
        have hP9 := hP.sub (ws' := [(a 8, .inr (3, [.ref (a 15), .int (nI v_)])), (a 15, .inl (cI, 8, .inl f15_4))]) [0, 1] rfl
        have hD9 := hD.sub (ws' := [(a 8, .inr (3, [.ref (a 15), .int (nI v_)])), (a 15, .inl (cI, 8, .inl f15_4))]) [0, 1] (by decide) rfl
        exact W.zret (v := 1) hx hb hr rfl (fun t ht hW => ⟨⟨1, (nI v_, f15_4), rfl, ⟨Or.inr rfl, _, hv_, rfl⟩, ⟨by rw [ht]; exact hP9, hD9⟩⟩, hS.F ht⟩) hS.2.2 dX3_read_76
      refine lv_iconst (v := 0) hx hb dX3_read_40 (by decide) ?_
      have hP9 := hP.sub (ws' := [(a 8, .inr (3, [.ref (a 15), .int (iv 19)])), (a 15, .inl (cI, 8, .inl f15_5))]) [0, 1] rfl
      have hD9 := hD.sub (ws' := [(a 8, .inr (3, [.ref (a 15), .int (iv 19)])), (a 15, .inl (cI, 8, .inl f15_5))]) [0, 1] (by decide) rfl
      exact W.zret (v := 0) hx hb hr rfl (fun t ht hW => ⟨⟨0, (iv 19, f15_5), rfl, ⟨Or.inl rfl, _, hb9, e19⟩, ⟨by rw [ht]; exact hP9, hD9⟩⟩, hS.F ht⟩) hS.2.2 dX3_read_41
    refine lv_iconst (v := 0) hx hb dX3_read_16 (by decide) ?_
    have hP9 := hP.sub (ws' := [(a 8, .inr (3, [.ref (a 15), .int (iv 19)])), (a 15, .inl (cI, 8, .inl (av 15)))]) [0, 1] rfl
    have hD9 := hD.sub (ws' := [(a 8, .inr (3, [.ref (a 15), .int (iv 19)])), (a 15, .inl (cI, 8, .inl (av 15)))]) [0, 1] (by decide) rfl
    exact W.zret (v := 0) hx hb hr rfl (fun t ht hW => ⟨⟨0, (iv 19, av 15), rfl, ⟨Or.inl rfl, _, hb9, e19⟩, ⟨by rw [ht]; exact hP9, hD9⟩⟩, hS.F ht⟩) hS.2.2 dX3_read_17
  refine lv_if_eq (tgt := 16) hx hb dX3_read_7 (by decide) (fun _ => ?_) (fun c_7 => False.elim (by revert c_7; decide))
  refine lv_iconst (v := 0) hx hb dX3_read_16 (by decide) ?_
  have hP9 := hP.sub (ws' := [(a 8, .inr (3, [.ref (a 15), .int (iv 19)])), (a 15, .inl (cI, 8, .inl (av 15)))]) [0, 1] rfl
  have hD9 := hD.sub (ws' := [(a 8, .inr (3, [.ref (a 15), .int (iv 19)])), (a 15, .inl (cI, 8, .inl (av 15)))]) [0, 1] (by decide) rfl
  exact W.zret (v := 0) hx hb hr rfl (fun t ht hW => ⟨⟨0, (iv 19, av 15), rfl, ⟨Or.inl rfl, _, hb9, e19⟩, ⟨by rw [ht]; exact hP9, hD9⟩⟩, hS.F ht⟩) hS.2.2 dX3_read_17
set_option maxHeartbeats 4000000 in
set_option maxRecDepth 100000 in
/-- a rhythm taken over -/
theorem k_X3_copyFrom (l : Launch) (D : va_G) (cI cJ cZ cM : Nat) (s0 : Nat) (s1 : Nat) (y1 : Int32) (f : Nat → Int32) (t0 : Nat) (t1 : Nat) (y2 : Int32) (g : Nat → Int32) (sz : Nat) : Met l yX3_copyFrom wsX3_copyFrom ({ frames := 1, cells := 0, slots := 0, locals := 40 } : Room) (RW D cI cJ cZ cM [.ref s0, .ref t0] [(t0, .inr (3, [.ref t1, .int y2])), (t1, .inl (cI, 8, .inl g)), (s0, .inr (3, [.ref s1, .int y1])), (s1, .inl (cI, 8, .inl f))] sz) (va_Qv (S := Unit) (fun u => True) (BB D (fun _ => [(t0, .inr (3, [.ref t1, .int y2])), (t1, .inl (cI, 8, .inl g)), (s0, .inr (3, [.ref s1, .int y2])), (s1, .inl (cI, 8, .inl (va_cpy g f (0 : Int32).toNatClampNeg (0 : Int32).toNatClampNeg (8 : Int32).toNatClampNeg)))]) (va_A [(t0, .inr (3, [.ref t1, .int y2])), (t1, .inl (cI, 8, .inl g)), (s0, .inr (3, [.ref s1, .int y1])), (s1, .inl (cI, 8, .inl f))] sz)) (va_A [(t0, .inr (3, [.ref t1, .int y2])), (t1, .inl (cI, 8, .inl g)), (s0, .inr (3, [.ref s1, .int y1])), (s1, .inl (cI, 8, .inl f))] sz)) 0 0 (va_A [(t0, .inr (3, [.ref t1, .int y2])), (t1, .inl (cI, 8, .inl g)), (s0, .inr (3, [.ref s1, .int y1])), (s1, .inl (cI, 8, .inl f))] sz) := by
  refine Met.ofW (cc := cX3_copyFrom) (maxL := 2) (ret := none) (by decide) rfl ?_
  intro p e s m args below meth c s₁ B hml hv
  obtain ⟨rfl, hsz, hG, hP, hD0⟩ := hv
  have hx := B.exec
  have hb := B.bytes
  have hr := B.returns
  have hts := atoms_spec (ws := wsX3_copyFrom) B.pre
  have hown : s.vm.findClass RX3 = some m.cls := findClass_of_methodNamed B.named
  have hlocks := B.notSynchronized
  have hK := hG.1
  have hN := hG.2
  subst hsz
  have hD := hD0.self (sz := s.heap.size)
  generalize hAe : va_A [(t0, .inr (3, [.ref t1, .int y2])), (t1, .inl (cI, 8, .inl g)), (s0, .inr (3, [.ref s1, .int y1])), (s1, .inl (cI, 8, .inl f))] s.heap.size = A at hD ⊢
  have hA : ∀ q : Nat, s.heap.size ≤ q → A q := fun q h => by rw [← hAe]; exact Or.inr h
  have hS : va_S A s.heap s.heap [] := va_S.rf
  have hP : va_P D vwCl [(t0, .inr (3, [.ref t1, .int y2])), (t1, .inl (cI, 8, .inl g)), (s0, .inr (3, [.ref s1, .int y1])), (s1, .inl (cI, 8, .inl f))] s.heap := hP
  have hl := lv_entry ([.ref s0, .ref t0]) (n := 2) (Nat.le_of_ble_eq_true rfl)
  rw [lg_entry_eq]
  generalize (lg_sl ([.ref s0, .ref t0]) ++ List.replicate (2 - (lg_sl ([.ref s0, .ref t0])).length) Slot.unset).toArray = ls at hl ⊢
  have hl : lv_has ls 2 [(0, .ref s0), (1, .ref t0)] := hl
  refine lv_aload_n hx hb dX3_copyFrom_0 rfl (lv_at hl 1 rfl) ?_
  refine va_get (D := D) (ci := 3) (v := .ref t1) (C := RX3) (T := TX3) (N := 2) hx hb hts (fun _ h9 => List.mem_cons_of_mem _ (List.mem_append_right _ h9)) hown hK hP 0 rfl rfl 0 (by decide) (hts (.fieldLink RX3 9 "BuoyTender$Rhythm" "steps" "[I") (by decide +kernel)) (fun _ h9 => h9) rfl dX3_copyFrom_1 ?_
  refine lv_iconst (v := 0) hx hb dX3_copyFrom_4 (by decide) ?_
  refine lv_aload_n hx hb dX3_copyFrom_5 rfl (lv_at hl 0 rfl) ?_
  refine va_get (D := D) (ci := 3) (v := .ref s1) (C := RX3) (T := TX3) (N := 2) hx hb hts (fun _ h9 => List.mem_cons_of_mem _ (List.mem_append_right _ h9)) hown hK hP 2 rfl rfl 0 (by decide) (hts (.fieldLink RX3 9 "BuoyTender$Rhythm" "steps" "[I") (by decide +kernel)) (fun _ h9 => h9) rfl dX3_copyFrom_6 ?_
  refine lv_iconst (v := 0) hx hb dX3_copyFrom_9 (by decide) ?_
  refine lv_bipush (v := 8) hx hb dX3_copyFrom_10 (by decide) ?_
  refine va_copyi hx hb (hml.trans hl.1.symm) hown (hts (.methodLink RX3 23 arraycopyName) (by decide +kernel)) (hts (.native arraycopyName) (by decide +kernel)) (hts (.static arraycopyName) (by decide +kernel)) (hts (.initialized "java/lang/System") (by decide +kernel)) hK hP hD hS 1 3 0 0 rfl rfl rfl rfl rfl (by decide) (by decide) (by decide) (by decide) (by decide) (fun _ _ => rfl) (Nat.le_of_ble_eq_true rfl) (Nat.le_of_ble_eq_true rfl) dX3_copyFrom_12 (fun H locs hP hD hS => ?_)
  have hP : va_P D vwCl [(t0, .inr (3, [.ref t1, .int y2])), (t1, .inl (cI, 8, .inl g)), (s0, .inr (3, [.ref s1, .int y1])), (s1, .inl (cI, 8, .inl (va_cpy g f (0 : Int32).toNatClampNeg (0 : Int32).toNatClampNeg (8 : Int32).toNatClampNeg)))] H := hP
  have hD : va_D A [(t0, .inr (3, [.ref t1, .int y2])), (t1, .inl (cI, 8, .inl g)), (s0, .inr (3, [.ref s1, .int y1])), (s1, .inl (cI, 8, .inl (va_cpy g f (0 : Int32).toNatClampNeg (0 : Int32).toNatClampNeg (8 : Int32).toNatClampNeg)))] := hD
  refine lv_aload_n hx hb dX3_copyFrom_15 rfl (lv_at hl 0 rfl) ?_
  refine lv_aload_n hx hb dX3_copyFrom_16 rfl (lv_at hl 1 rfl) ?_
  refine va_get (D := D) (ci := 3) (v := .int y2) (C := RX3) (T := TX3) (N := 2) hx hb hts (fun _ h9 => List.mem_cons_of_mem _ (List.mem_append_right _ h9)) hown hK hP 0 rfl rfl 1 (by decide) (hts (.fieldLink RX3 15 "BuoyTender$Rhythm" "many" "I") (by decide +kernel)) (fun _ h9 => h9) rfl dX3_copyFrom_17 ?_
  refine va_put (D := D) (ci := 3) (v := .int y2) (ty := (tyX3 1)) (C := RX3) (T := TX3) (N := 2) hx hb hts (fun _ h9 => List.mem_cons_of_mem _ (List.mem_append_right _ h9)) tyX3 tyX3_ok nmX3 hown hK hP hD hS 2 rfl rfl 1 (by decide) (hts (.fieldLink RX3 15 "BuoyTender$Rhythm" "many" "I") (by decide +kernel)) (fun _ h9 => h9) rfl (by decide +kernel) rfl rfl (Nat.le_of_ble_eq_true rfl) dX3_copyFrom_20 (fun H locs hP hD hS => ?_)
  have hP : va_P D vwCl [(t0, .inr (3, [.ref t1, .int y2])), (t1, .inl (cI, 8, .inl g)), (s0, .inr (3, [.ref s1, .int y2])), (s1, .inl (cI, 8, .inl (va_cpy g f (0 : Int32).toNatClampNeg (0 : Int32).toNatClampNeg (8 : Int32).toNatClampNeg)))] H := hP
  have hD : va_D A [(t0, .inr (3, [.ref t1, .int y2])), (t1, .inl (cI, 8, .inl g)), (s0, .inr (3, [.ref s1, .int y2])), (s1, .inl (cI, 8, .inl (va_cpy g f (0 : Int32).toNatClampNeg (0 : Int32).toNatClampNeg (8 : Int32).toNatClampNeg)))] := hD
  have hP9 := hP.sub (ws' := [(t0, .inr (3, [.ref t1, .int y2])), (t1, .inl (cI, 8, .inl g)), (s0, .inr (3, [.ref s1, .int y2])), (s1, .inl (cI, 8, .inl (va_cpy g f (0 : Int32).toNatClampNeg (0 : Int32).toNatClampNeg (8 : Int32).toNatClampNeg)))]) [0, 1, 2, 3] rfl
  have hD9 := hD.sub (ws' := [(t0, .inr (3, [.ref t1, .int y2])), (t1, .inl (cI, 8, .inl g)), (s0, .inr (3, [.ref s1, .int y2])), (s1, .inl (cI, 8, .inl (va_cpy g f (0 : Int32).toNatClampNeg (0 : Int32).toNatClampNeg (8 : Int32).toNatClampNeg)))]) [0, 1, 2, 3] (by decide) rfl
  exact W.vret hx hb hr (fun t ht hW => ⟨⟨(), rfl, trivial, ⟨by rw [ht]; exact hP9, hD9⟩⟩, hS.F ht⟩) hS.2.2 dX3_copyFrom_23
set_option maxHeartbeats 4000000 in
set_option maxRecDepth 100000 in
/-- X3_matchesTurned: the loop at 2 -/
theorem lp_X3_mt {p : Program} {l : Launch} {e : Env} {s : State} {m : MethodId} {args : Array Value} {below : List Frame} {meth : Method} {c : Code} {Q : State → Prop} {D : va_G} {cI cJ cZ cM : Nat} {s0 : Nat} {s1 : Nat} {y1 : Int32} {f : Nat → Int32} {t0 : Nat} {t1 : Nat} {y2 : Int32} {g : Nat → Int32} {sa : Nat} {t_ : Nat} {H : Heap} (hx : p.tables.exec = Jvm.exec) (hb : c.code = cX3_matchesTurned) (hml : c.maxLocals = 4) (hts : ∀ w ∈ wsX3_matchesTurned, w.before args s = true) (hown : s.vm.findClass RX3 = some m.cls) (hG : GK D cI cJ cZ cM s) (hP : va_P D vwCl [(s0, .inr (3, [.ref s1, .int y1])), (s1, .inl (cI, 8, .inl f)), (t0, .inr (3, [.ref t1, .int y2])), (t1, .inl (cI, 8, .inl g))] H) (esa : y1 = nI sa) (hsa : sa ≤ 8) (ht_ : t_ < sa) :
    ∀ (k9 : Nat) (k_ : Nat), (k_ ≤ sa) → sa - k_ < k9 → ∀ (ls : Array Slot), lv_has ls 4 [(3, .int (nI k_)), (0, .ref s0), (1, .ref t0), (2, .int (nI t_))] → (∀  (ls : Array Slot), lv_has ls 4 [(0, .ref s0), (1, .ref t0), (2, .int (nI t_))] → W p l e (headSpec wsX3_matchesTurned ({ frames := 0, cells := 0, slots := 0, locals := 0 } : Room)).room s m args below meth c H [] 0 0 Q (F0 m 40 ls [])) → (∀  (ls : Array Slot), lv_has ls 4 [(0, .ref s0)] → W p l e (headSpec wsX3_matchesTurned ({ frames := 0, cells := 0, slots := 0, locals := 0 } : Room)).room s m args below meth c H [] 0 0 Q (F0 m 32 ls [])) → W p l e (headSpec wsX3_matchesTurned ({ frames := 0, cells := 0, slots := 0, locals := 0 } : Room)).room s m args below meth c H [] 0 0 Q (F0 m 2 ls []) := by
  have hK := hG.1
  have hN := hG.2
  intro k9
  induction k9 with
  | zero => intro k_ hk hfu; exact absurd hfu (Nat.not_lt_zero _)
  | succ k9 ih =>
    intro k_ hk hfu ls hl kk0 kk1
    rcases Nat.lt_or_ge k_ sa with hlt | hge
    · refine lv_iload_n hx hb dX3_matchesTurned_2 rfl (lv_at hl 0 rfl) ?_
      refine lv_aload_n hx hb dX3_matchesTurned_3 rfl (lv_at hl 1 rfl) ?_
      refine va_get (D := D) (ci := 3) (v := .int y1) (C := RX3) (T := TX3) (N := 2) hx hb hts (fun _ h9 => List.mem_cons_of_mem _ (List.mem_append_right _ h9)) hown hK hP 0 rfl rfl 1 (by decide) (hts (.fieldLink RX3 15 "BuoyTender$Rhythm" "many" "I") (by decide +kernel)) (fun _ h9 => h9) rfl dX3_matchesTurned_4 ?_
      refine lv_topi (fun z_1 ez_1 => ?_)
      obtain rfl : z_1 = nI sa := ez_1.trans esa
      refine lv_icmp_ge (tgt := 40) hx hb dX3_matchesTurned_7 (by decide) (fun c_2 => absurd c_2 (nI_ge hlt (by omega))) (fun c_2 => ?_)
      refine lv_aload_n hx hb dX3_matchesTurned_10 rfl (lv_at hl 1 rfl) ?_
      refine va_get (D := D) (ci := 3) (v := .ref s1) (C := RX3) (T := TX3) (N := 2) hx hb hts (fun _ h9 => List.mem_cons_of_mem _ (List.mem_append_right _ h9)) hown hK hP 0 rfl rfl 0 (by decide) (hts (.fieldLink RX3 9 "BuoyTender$Rhythm" "steps" "[I") (by decide +kernel)) (fun _ h9 => h9) rfl dX3_matchesTurned_11 ?_
      refine lv_iload_n hx hb dX3_matchesTurned_14 rfl (lv_at hl 0 rfl) ?_
      refine lv_iload_n hx hb dX3_matchesTurned_15 rfl (lv_at hl 3 rfl) ?_
      refine lv_iadd hx hb dX3_matchesTurned_16 ?_
      refine lv_topi (fun z_3 ez_3 => ?_)
      obtain rfl : z_3 = nI (k_ + t_) := ez_3.trans (nI_add k_ t_)
      refine lv_aload_n hx hb dX3_matchesTurned_17 rfl (lv_at hl 1 rfl) ?_
      refine va_get (D := D) (ci := 3) (v := .int y1) (C := RX3) (T := TX3) (N := 2) hx hb hts (fun _ h9 => List.mem_cons_of_mem _ (List.mem_append_right _ h9)) hown hK hP 0 rfl rfl 1 (by decide) (hts (.fieldLink RX3 15 "BuoyTender$Rhythm" "many" "I") (by decide +kernel)) (fun _ h9 => h9) rfl dX3_matchesTurned_18 ?_
      refine lv_topi (fun z_4 ez_4 => ?_)
      obtain rfl : z_4 = nI sa := ez_4.trans esa
      refine lv_irem hx hb dX3_matchesTurned_21 (nI_nz9 (by omega) (by omega)) ?_
      refine lv_topi (fun z_5 ez_5 => ?_)
      obtain rfl : z_5 = nI ((k_ + t_) % sa) := ez_5.trans (pk_rem (by omega) (by omega) (by omega))
      have hmod9 : (k_ + t_) % sa < sa := Nat.mod_lt _ (by omega)
      refine va_iald hx hb hK hP 1 0 rfl rfl (vp_in_nI (by omega) (by decide)) dX3_matchesTurned_22 ?_
      refine lv_topi (fun z_6 ez_6 => ?_)
      obtain rfl : z_6 = f ((k_ + t_) % sa) := ez_6.trans (congrArg f (nI_clamp (by omega)))
      refine lv_aload_n hx hb dX3_matchesTurned_23 rfl (lv_at hl 2 rfl) ?_
      refine va_get (D := D) (ci := 3) (v := .ref t1) (C := RX3) (T := TX3) (N := 2) hx hb hts (fun _ h9 => List.mem_cons_of_mem _ (List.mem_append_right _ h9)) hown hK hP 2 rfl rfl 0 (by decide) (hts (.fieldLink RX3 9 "BuoyTender$Rhythm" "steps" "[I") (by decide +kernel)) (fun _ h9 => h9) rfl dX3_matchesTurned_24 ?_
      refine lv_iload_n hx hb dX3_matchesTurned_27 rfl (lv_at hl 0 rfl) ?_
      refine va_iald hx hb hK hP 3 0 rfl rfl (vp_in_nI (by omega) (by decide)) dX3_matchesTurned_28 ?_
      refine lv_topi (fun z_7 ez_7 => ?_)
      obtain rfl : z_7 = g k_ := ez_7.trans (congrArg g (nI_clamp (by omega)))
      refine lv_icmp_eq (tgt := 34) hx hb dX3_matchesTurned_29 (by decide) (fun c_8 => ?_) (fun c_8 => ?_)
      · refine lv_iinc (v := nI (k_ + 1)) (lv' := [(3, .int (nI (k_ + 1))), (0, .ref s0), (1, .ref t0), (2, .int (nI t_))]) hx hb dX3_matchesTurned_34 hl (k := 0) rfl (nI_add k_ 1) (by decide) rfl (fun ls hl => ?_)
        refine lv_goto (tgt := 2) hx hb dX3_matchesTurned_37 (by decide) ?_
        exact ih (k_ + 1) (by omega) (by omega) _ (lv_sub hl [0, 1, 2, 3] rfl) kk0 kk1
      exact kk1  _  (lv_sub hl [1] rfl)
    · refine lv_iload_n hx hb dX3_matchesTurned_2 rfl (lv_at hl 0 rfl) ?_
      refine lv_aload_n hx hb dX3_matchesTurned_3 rfl (lv_at hl 1 rfl) ?_
      refine va_get (D := D) (ci := 3) (v := .int y1) (C := RX3) (T := TX3) (N := 2) hx hb hts (fun _ h9 => List.mem_cons_of_mem _ (List.mem_append_right _ h9)) hown hK hP 0 rfl rfl 1 (by decide) (hts (.fieldLink RX3 15 "BuoyTender$Rhythm" "many" "I") (by decide +kernel)) (fun _ h9 => h9) rfl dX3_matchesTurned_4 ?_
      refine lv_topi (fun z_9 ez_9 => ?_)
      obtain rfl : z_9 = nI sa := ez_9.trans esa
      refine lv_icmp_ge (tgt := 40) hx hb dX3_matchesTurned_7 (by decide) (fun c_10 => ?_) (fun c_10 => absurd (nI_le hge (by omega)) c_10)
      exact kk0  _  (lv_sub hl [1, 2, 3] rfl)
set_option maxHeartbeats 4000000 in
set_option maxRecDepth 100000 in
/-- alike, turned -/
theorem k_X3_matchesTurned (l : Launch) (D : va_G) (cI cJ cZ cM : Nat) (s0 : Nat) (s1 : Nat) (y1 : Int32) (f : Nat → Int32) (t0 : Nat) (t1 : Nat) (y2 : Int32) (g : Nat → Int32) (sa : Nat) (esa : y1 = nI sa) (hsa : sa ≤ 8) (t_ : Nat) (ht_ : t_ < sa) : Met l yX3_matchesTurned wsX3_matchesTurned ({ frames := 0, cells := 0, slots := 0, locals := 0 } : Room) (RO D cI cJ cZ cM [.ref s0, .ref t0, .int (nI t_)] [(s0, .inr (3, [.ref s1, .int y1])), (s1, .inl (cI, 8, .inl f)), (t0, .inr (3, [.ref t1, .int y2])), (t1, .inl (cI, 8, .inl g))]) (vp_Si (fun r => r = 0 ∨ r = 1)) 0 0 (fun _ => False) := by
  refine Met.ofW (cc := cX3_matchesTurned) (maxL := 4) (ret := (some .boolean)) (by decide) rfl ?_
  intro p e s m args below meth c s₁ B hml hv
  obtain ⟨rfl, hG, hP⟩ := hv
  have hx := B.exec
  have hb := B.bytes
  have hr := B.returns
  have hts := atoms_spec (ws := wsX3_matchesTurned) B.pre
  have hown : s.vm.findClass RX3 = some m.cls := findClass_of_methodNamed B.named
  have hlocks := B.notSynchronized
  have hK := hG.1
  have hN := hG.2
  have hl := lv_entry ([.ref s0, .ref t0, .int (nI t_)]) (n := 4) (Nat.le_of_ble_eq_true rfl)
  rw [lg_entry_eq]
  generalize (lg_sl ([.ref s0, .ref t0, .int (nI t_)]) ++ List.replicate (4 - (lg_sl ([.ref s0, .ref t0, .int (nI t_)])).length) Slot.unset).toArray = ls at hl ⊢
  have hl : lv_has ls 4 [(0, .ref s0), (1, .ref t0), (2, .int (nI t_))] := hl
  refine lv_iconst (v := 0) hx hb dX3_matchesTurned_0 (by decide) ?_
  refine lv_istore_n (lv' := [(3, .int 0), (0, .ref s0), (1, .ref t0), (2, .int (nI t_))]) hx hb dX3_matchesTurned_1 rfl hl (by decide) rfl (fun ls hl => ?_)
  have hPl := hP.sub (ws' := [(s0, .inr (3, [.ref s1, .int y1])), (s1, .inl (cI, 8, .inl f)), (t0, .inr (3, [.ref t1, .int y2])), (t1, .inl (cI, 8, .inl g))]) [0, 1, 2, 3] rfl
  refine lp_X3_mt hx hb hml hts hown hG hPl esa hsa ht_ (sa + 1) 0 (Nat.zero_le _) (by omega) _ (lv_sub hl [0, 1, 2, 3] rfl) (fun  ls  hl => ?_) (fun  ls  hl => ?_)
  · refine lv_iconst (v := 1) hx hb dX3_matchesTurned_40 (by decide) ?_
    exact W.zret (v := 1) hx hb hr rfl (fun t ht hW => ⟨1, rfl, (Or.inr rfl), ht⟩) (fun _ h => by cases h) dX3_matchesTurned_41
  refine lv_iconst (v := 0) hx hb dX3_matchesTurned_32 (by decide) ?_
  exact W.zret (v := 0) hx hb hr rfl (fun t ht hW => ⟨0, rfl, (Or.inl rfl), ht⟩) (fun _ h => by cases h) dX3_matchesTurned_33
set_option maxHeartbeats 4000000 in
set_option maxRecDepth 100000 in
/-- X3_matches: the loop at 15 -/
theorem lp_X3_matches {p : Program} {l : Launch} {e : Env} {s : State} {m : MethodId} {args : Array Value} {below : List Frame} {meth : Method} {c : Code} {Q : State → Prop} {D : va_G} {cI cJ cZ cM : Nat} {s0 : Nat} {s1 : Nat} {y1 : Int32} {f : Nat → Int32} {t0 : Nat} {t1 : Nat} {y2 : Int32} {g : Nat → Int32} {sa : Nat} {H : Heap} (hx : p.tables.exec = Jvm.exec) (hb : c.code = cX3_matches) (hml : c.maxLocals = 3) (hts : ∀ w ∈ wsX3_matches, w.before args s = true) (hown : s.vm.findClass RX3 = some m.cls) (hG : GK D cI cJ cZ cM s) (hP : va_P D vwCl [(s0, .inr (3, [.ref s1, .int y1])), (s1, .inl (cI, 8, .inl f)), (t0, .inr (3, [.ref t1, .int y2])), (t1, .inl (cI, 8, .inl g))] H) (esa : y1 = nI sa) (hsa : sa ≤ 8) :
    ∀ (k9 : Nat) (t_ : Nat), (t_ ≤ sa + 1) → sa - t_ < k9 → ∀ (ls : Array Slot), lv_has ls 3 [(2, .int (nI t_)), (0, .ref s0), (1, .ref t0)] → (∀  (ls : Array Slot), lv_has ls 3 [(0, .ref s0), (1, .ref t0)] → W p l e (headSpec wsX3_matches ({ frames := 1, cells := 0, slots := 0, locals := 23 } : Room)).room s m args below meth c H [] 0 0 Q (F0 m 40 ls [])) → (∀  (ls : Array Slot), lv_has ls 3 [(0, .ref s0)] → W p l e (headSpec wsX3_matches ({ frames := 1, cells := 0, slots := 0, locals := 23 } : Room)).room s m args below meth c H [] 0 0 Q (F0 m 32 ls [])) → W p l e (headSpec wsX3_matches ({ frames := 1, cells := 0, slots := 0, locals := 23 } : Room)).room s m args below meth c H [] 0 0 Q (F0 m 15 ls []) := by
  have hK := hG.1
  have hN := hG.2
  intro k9
  induction k9 with
  | zero => intro t_ ht_ hfu; exact absurd hfu (Nat.not_lt_zero _)
  | succ k9 ih =>
    intro t_ ht_ hfu ls hl kk0 kk1
    rcases Nat.lt_or_ge t_ sa with hlt | hge
    · refine lv_iload_n hx hb dX3_matches_15 rfl (lv_at hl 0 rfl) ?_
      refine lv_aload_n hx hb dX3_matches_16 rfl (lv_at hl 1 rfl) ?_
      refine va_get (D := D) (ci := 3) (v := .int y1) (C := RX3) (T := TX3) (N := 2) hx hb hts (fun _ h9 => List.mem_cons_of_mem _ (List.mem_append_right _ h9)) hown hK hP 0 rfl rfl 1 (by decide) (hts (.fieldLink RX3 15 "BuoyTender$Rhythm" "many" "I") (by decide +kernel)) (fun _ h9 => h9) rfl dX3_matches_17 ?_
      refine lv_topi (fun z_1 ez_1 => ?_)
      obtain rfl : z_1 = nI sa := ez_1.trans esa
      refine lv_icmp_ge (tgt := 40) hx hb dX3_matches_20 (by decide) (fun c_2 => absurd c_2 (nI_ge hlt (by omega))) (fun c_2 => ?_)
      refine lv_aload_n hx hb dX3_matches_23 rfl (lv_at hl 1 rfl) ?_
      refine lv_aload_n hx hb dX3_matches_24 rfl (lv_at hl 2 rfl) ?_
      refine lv_iload_n hx hb dX3_matches_25 rfl (lv_at hl 0 rfl) ?_
      have hq0 : va_P D vwCl [(s0, .inr (3, [.ref s1, .int y1]))] _ := vaP_1 (k := 0) hP rfl
      have hq1 : va_P D vwCl [(s1, .inl (cI, 8, .inl f))] _ := vaP_1 (k := 1) hP rfl
      have hq2 : va_P D vwCl [(t0, .inr (3, [.ref t1, .int y2]))] _ := vaP_1 (k := 2) hP rfl
      have hq3 : va_P D vwCl [(t1, .inl (cI, 8, .inl g))] _ := vaP_1 (k := 3) hP rfl
      have hPc := (va_P.app (va_P.app (va_P.app hq0 hq1) hq2) hq3)
      have hPc : va_P D vwCl [(s0, .inr (3, [.ref s1, .int y1])), (s1, .inl (cI, 8, .inl f)), (t0, .inr (3, [.ref t1, .int y2])), (t1, .inl (cI, 8, .inl g))] _ := hPc
      refine vp_callSi (va_Run.run (va_runV (As := [.ref t0, .int (nI t_)]) (rest := []) ⟨hx, hb, hml, hown, hts⟩ (k_X3_matchesTurned l D cI cJ cZ cM s0 s1 y1 f t0 t1 y2 g sa esa hsa t_ (by omega)) (cwV 2 hts gX3_matches_X3_matchesTurned rfl rfl rfl (by decide +kernel) ⟨Nat.le_of_ble_eq_true rfl, Nat.le_of_ble_eq_true rfl⟩) (ro_V hG hPc (va_recv hK hPc (ci := 3) (q0 := 0) rfl rfl)) rfl rfl hl.1 rfl (lv_room (Nat.le_of_ble_eq_true rfl)) dX3_matches_26 ⟨Nat.le_of_ble_eq_true rfl, Nat.le_of_ble_eq_true rfl⟩)) (fun r_3 h_3 => ?_)
      rcases h_3 with rfl | rfl
      · refine lv_if_eq (tgt := 34) hx hb dX3_matches_29 (by decide) (fun _ => ?_) (fun c_4 => False.elim (by revert c_4; decide))
        refine lv_iinc (v := nI (t_ + 2)) (lv' := [(2, .int (nI (t_ + 2))), (0, .ref s0), (1, .ref t0)]) hx hb dX3_matches_34 hl (k := 0) rfl (nI_add t_ 2) (by decide) rfl (fun ls hl => ?_)
        refine lv_goto (tgt := 15) hx hb dX3_matches_37 (by decide) ?_
        exact ih (t_ + 2) (by omega) (by omega) _ (lv_sub hl [0, 1, 2] rfl) kk0 kk1
      refine lv_if_eq (tgt := 34) hx hb dX3_matches_29 (by decide) (fun c_5 => False.elim (by revert c_5; decide)) (fun _ => ?_)
      exact kk1  _  (lv_sub hl [1] rfl)
    · refine lv_iload_n hx hb dX3_matches_15 rfl (lv_at hl 0 rfl) ?_
      refine lv_aload_n hx hb dX3_matches_16 rfl (lv_at hl 1 rfl) ?_
      refine va_get (D := D) (ci := 3) (v := .int y1) (C := RX3) (T := TX3) (N := 2) hx hb hts (fun _ h9 => List.mem_cons_of_mem _ (List.mem_append_right _ h9)) hown hK hP 0 rfl rfl 1 (by decide) (hts (.fieldLink RX3 15 "BuoyTender$Rhythm" "many" "I") (by decide +kernel)) (fun _ h9 => h9) rfl dX3_matches_17 ?_
      refine lv_topi (fun z_6 ez_6 => ?_)
      obtain rfl : z_6 = nI sa := ez_6.trans esa
      refine lv_icmp_ge (tgt := 40) hx hb dX3_matches_20 (by decide) (fun c_7 => ?_) (fun c_7 => absurd (nI_le hge (by omega)) c_7)
      exact kk0  _  (lv_sub hl [1, 2] rfl)
set_option maxHeartbeats 4000000 in
set_option maxRecDepth 100000 in
/-- alike -/
theorem k_X3_matches (l : Launch) (D : va_G) (cI cJ cZ cM : Nat) (s0 : Nat) (s1 : Nat) (y1 : Int32) (f : Nat → Int32) (t0 : Nat) (t1 : Nat) (y2 : Int32) (g : Nat → Int32) (sa : Nat) (esa : y1 = nI sa) (hsa : sa ≤ 8) : Met l yX3_matches wsX3_matches ({ frames := 1, cells := 0, slots := 0, locals := 23 } : Room) (RO D cI cJ cZ cM [.ref s0, .ref t0] [(s0, .inr (3, [.ref s1, .int y1])), (s1, .inl (cI, 8, .inl f)), (t0, .inr (3, [.ref t1, .int y2])), (t1, .inl (cI, 8, .inl g))]) (vp_Si (fun r => r = 0 ∨ r = 1)) 0 0 (fun _ => False) := by
  refine Met.ofW (cc := cX3_matches) (maxL := 3) (ret := (some .boolean)) (by decide) rfl ?_
  intro p e s m args below meth c s₁ B hml hv
  obtain ⟨rfl, hG, hP⟩ := hv
  have hx := B.exec
  have hb := B.bytes
  have hr := B.returns
  have hts := atoms_spec (ws := wsX3_matches) B.pre
  have hown : s.vm.findClass RX3 = some m.cls := findClass_of_methodNamed B.named
  have hlocks := B.notSynchronized
  have hK := hG.1
  have hN := hG.2
  have hl := lv_entry ([.ref s0, .ref t0]) (n := 3) (Nat.le_of_ble_eq_true rfl)
  rw [lg_entry_eq]
  generalize (lg_sl ([.ref s0, .ref t0]) ++ List.replicate (3 - (lg_sl ([.ref s0, .ref t0])).length) Slot.unset).toArray = ls at hl ⊢
  have hl : lv_has ls 3 [(0, .ref s0), (1, .ref t0)] := hl
  refine lv_aload_n hx hb dX3_matches_0 rfl (lv_at hl 0 rfl) ?_
  refine va_get (D := D) (ci := 3) (v := .int y1) (C := RX3) (T := TX3) (N := 2) hx hb hts (fun _ h9 => List.mem_cons_of_mem _ (List.mem_append_right _ h9)) hown hK hP 0 rfl rfl 1 (by decide) (hts (.fieldLink RX3 15 "BuoyTender$Rhythm" "many" "I") (by decide +kernel)) (fun _ h9 => h9) rfl dX3_matches_1 ?_
  refine lv_topi (fun z_1 ez_1 => ?_)
  obtain rfl : z_1 = nI sa := ez_1.trans esa
  refine lv_aload_n hx hb dX3_matches_4 rfl (lv_at hl 1 rfl) ?_
  refine va_get (D := D) (ci := 3) (v := .int y2) (C := RX3) (T := TX3) (N := 2) hx hb hts (fun _ h9 => List.mem_cons_of_mem _ (List.mem_append_right _ h9)) hown hK hP 2 rfl rfl 1 (by decide) (hts (.fieldLink RX3 15 "BuoyTender$Rhythm" "many" "I") (by decide +kernel)) (fun _ h9 => h9) rfl dX3_matches_5 ?_
  refine lv_icmp_eq (tgt := 13) hx hb dX3_matches_8 (by decide) (fun c_2 => ?_) (fun c_2 => ?_)
  · refine lv_iconst (v := 0) hx hb dX3_matches_13 (by decide) ?_
    refine lv_istore_n (lv' := [(2, .int 0), (0, .ref s0), (1, .ref t0)]) hx hb dX3_matches_14 rfl hl (by decide) rfl (fun ls hl => ?_)
    have hPl := hP.sub (ws' := [(s0, .inr (3, [.ref s1, .int y1])), (s1, .inl (cI, 8, .inl f)), (t0, .inr (3, [.ref t1, .int y2])), (t1, .inl (cI, 8, .inl g))]) [0, 1, 2, 3] rfl
    refine lp_X3_matches hx hb hml hts hown hG hPl esa hsa (sa + 1) 0 (Nat.zero_le _) (by omega) _ (lv_sub hl [0, 1, 2] rfl) (fun  ls  hl => ?_) (fun  ls  hl => ?_)
    · refine lv_iconst (v := 0) hx hb dX3_matches_40 (by decide) ?_
      exact W.zret (v := 0) hx hb hr rfl (fun t ht hW => ⟨0, rfl, (Or.inl rfl), ht⟩) (fun _ h => by cases h) dX3_matches_41
    refine lv_iconst (v := 1) hx hb dX3_matches_32 (by decide) ?_
    exact W.zret (v := 1) hx hb hr rfl (fun t ht hW => ⟨1, rfl, (Or.inr rfl), ht⟩) (fun _ h => by cases h) dX3_matches_33
  refine lv_iconst (v := 0) hx hb dX3_matches_11 (by decide) ?_
  exact W.zret (v := 0) hx hb hr rfl (fun t ht hW => ⟨0, rfl, (Or.inl rfl), ht⟩) (fun _ h => by cases h) dX3_matches_12
set_option maxHeartbeats 4000000 in
set_option maxRecDepth 100000 in
/-- near -/
theorem k_X1_isNear (l : Launch) (D : va_G) (cI cJ cZ cM : Nat) (s0 : Nat) (v1 : Nat → Int32) (r1 : Nat → Nat) (t0 : Nat) (v2 : Nat → Int32) (r2 : Nat → Nat) (x1 : Int32) : Met l yX1_isNear wsX1_isNear ({ frames := 1, cells := 0, slots := 0, locals := 23 } : Room) (RO D cI cJ cZ cM [.ref s0, .ref t0, .int x1] [(s0, .inr (1, [.int (v1 0), .int (v1 1), .int (v1 2), .ref (r1 1), .ref (r1 3), .ref (r1 4), .int (v1 3), .int (v1 4), .int (v1 5)])), (t0, .inr (1, [.int (v2 0), .int (v2 1), .int (v2 2), .ref (r2 1), .ref (r2 3), .ref (r2 4), .int (v2 3), .int (v2 4), .int (v2 5)]))]) (vp_Si (fun r => okI 1 0 (¬ x1 < nrC v1 v2) r)) 0 0 (fun _ => False) := by
  refine Met.ofW (cc := cX1_isNear) (maxL := 3) (ret := (some .boolean)) (by decide) rfl ?_
  intro p e s m args below meth c s₁ B hml hv
  obtain ⟨rfl, hG, hP⟩ := hv
  have hx := B.exec
  have hb := B.bytes
  have hr := B.returns
  have hts := atoms_spec (ws := wsX1_isNear) B.pre
  have hown : s.vm.findClass RX1 = some m.cls := findClass_of_methodNamed B.named
  have hlocks := B.notSynchronized
  have hK := hG.1
  have hN := hG.2
  have hl := lv_entry ([.ref s0, .ref t0, .int x1]) (n := 3) (Nat.le_of_ble_eq_true rfl)
  rw [lg_entry_eq]
  generalize (lg_sl ([.ref s0, .ref t0, .int x1]) ++ List.replicate (3 - (lg_sl ([.ref s0, .ref t0, .int x1])).length) Slot.unset).toArray = ls at hl ⊢
  have hl : lv_has ls 3 [(0, .ref s0), (1, .ref t0), (2, .int x1)] := hl
  refine lv_aload_n hx hb dX1_isNear_0 rfl (lv_at hl 0 rfl) ?_
  refine va_get (D := D) (ci := 1) (v := .int (v1 0)) (C := RX1) (T := TX1) (N := 9) hx hb hts (fun _ h9 => List.mem_cons_of_mem _ (List.mem_append_right _ h9)) hown hK hP 0 rfl rfl 0 (by decide) (hts (.fieldLink RX1 30 "BuoyTender$Mark" "x" "I") (by decide +kernel)) (fun _ h9 => h9) rfl dX1_isNear_1 ?_
  refine lv_aload_n hx hb dX1_isNear_4 rfl (lv_at hl 0 rfl) ?_
  refine va_get (D := D) (ci := 1) (v := .int (v1 1)) (C := RX1) (T := TX1) (N := 9) hx hb hts (fun _ h9 => List.mem_cons_of_mem _ (List.mem_append_right _ h9)) hown hK hP 0 rfl rfl 1 (by decide) (hts (.fieldLink RX1 34 "BuoyTender$Mark" "y" "I") (by decide +kernel)) (fun _ h9 => h9) rfl dX1_isNear_5 ?_
  refine lv_aload_n hx hb dX1_isNear_8 rfl (lv_at hl 1 rfl) ?_
  refine va_get (D := D) (ci := 1) (v := .int (v2 0)) (C := RX1) (T := TX1) (N := 9) hx hb hts (fun _ h9 => List.mem_cons_of_mem _ (List.mem_append_right _ h9)) hown hK hP 1 rfl rfl 0 (by decide) (hts (.fieldLink RX1 30 "BuoyTender$Mark" "x" "I") (by decide +kernel)) (fun _ h9 => h9) rfl dX1_isNear_9 ?_
  refine lv_aload_n hx hb dX1_isNear_12 rfl (lv_at hl 1 rfl) ?_
  refine va_get (D := D) (ci := 1) (v := .int (v2 1)) (C := RX1) (T := TX1) (N := 9) hx hb hts (fun _ h9 => List.mem_cons_of_mem _ (List.mem_append_right _ h9)) hown hK hP 1 rfl rfl 1 (by decide) (hts (.fieldLink RX1 34 "BuoyTender$Mark" "y" "I") (by decide +kernel)) (fun _ h9 => h9) rfl dX1_isNear_13 ?_
  refine vp_callSi (va_Run.run (va_runSN (As := [.int (v1 0), .int (v1 1), .int (v2 0), .int (v2 1)]) (rest := []) ⟨hx, hb, hml, hown, hts⟩ (k_X8_squareBetween l (v1 0) (v1 1) (v2 0) (v2 1)) ⟨(va_cnB 4 hts gX1_isNear_X8_squareBetween_n40 rfl rfl rfl (hN.2.1 (RX1, 40, yX8_squareBetween, "BuoyTender") (by decide +kernel)) (hts (.initialized RX8) (by decide +kernel)) (by decide +kernel) ⟨Nat.le_of_ble_eq_true rfl, Nat.le_of_ble_eq_true rfl⟩), hts (.static yX8_squareBetween) (by decide +kernel), trivial⟩ preEq rfl rfl hl.1 rfl (lv_room (Nat.le_of_ble_eq_true rfl)) dX1_isNear_16 ⟨Nat.le_of_ble_eq_true rfl, Nat.le_of_ble_eq_true rfl⟩)) (fun r_1 h_1 => ?_)
  obtain rfl : r_1 = ((v1 0) - (v2 0)) * ((v1 0) - (v2 0)) + ((v1 1) - (v2 1)) * ((v1 1) - (v2 1)) := h_1
  refine lv_iload_n hx hb dX1_isNear_19 rfl (lv_at hl 2 rfl) ?_
  refine lv_icmp_gt (tgt := 27) hx hb dX1_isNear_20 (by decide) (fun c_2 => ?_) (fun c_2 => ?_)
  · refine lv_iconst (v := 0) hx hb dX1_isNear_27 (by decide) ?_
    exact W.zret (v := 0) hx hb hr rfl (fun t ht hW => ⟨0, rfl, (Or.inr ⟨rfl, fun h9 => h9 c_2⟩), ht⟩) (fun _ h => by cases h) dX1_isNear_28
  refine lv_iconst (v := 1) hx hb dX1_isNear_23 (by decide) ?_
  refine lv_goto (tgt := 28) hx hb dX1_isNear_24 (by decide) ?_
  exact W.zret (v := 1) hx hb hr rfl (fun t ht hW => ⟨1, rfl, (Or.inl ⟨rfl, c_2⟩), ht⟩) (fun _ h => by cases h) dX1_isNear_28
set_option maxHeartbeats 4000000 in
set_option maxRecDepth 100000 in
/-- X8_clashesNearby: the loop at 2 -/
theorem lp_X8_cn {p : Program} {l : Launch} {e : Env} {s : State} {m : MethodId} {args : Array Value} {below : List Frame} {meth : Method} {c : Code} {Q : State → Prop} {D : va_G} {cI cJ cZ cM : Nat} {h0 : Nat} {a : Nat → Nat} {iv : Nat → Int32} {av : Nat → Nat → Int32} {ma : Nat → Nat → Nat} {mv : Nat → Nat → Int32} {mso : Nat → Nat → Int64} {mrs : Nat → Nat → Int32} {n0 : Nat} {fM : Nat → Option Nat} {m_ : Nat} {b9 : Nat} {H : Heap} (hx : p.tables.exec = Jvm.exec) (hb : c.code = cX8_clashesNearby) (hml : c.maxLocals = 5) (hts : ∀ w ∈ wsX8_clashesNearby, w.before args s = true) (hown : s.vm.findClass RX8 = some m.cls) (hG : GK D cI cJ cZ cM s) (hP : va_P D vwCl ([(h0, .inr (8, [.ref (a 1), .ref (a 2), .ref (a 3), .ref (a 4), .ref (a 5), .ref (a 6), .ref (a 7), .ref (a 8), .int (iv 0), .int (iv 1), .int (iv 2), .int (iv 3)])), (a 2, .inl (cM, 10, .inr (.inr (.inr (.inr fM))))), (a 8, .inr (3, [.ref (a 15), .int (iv 19)])), (a 15, .inl (cI, 8, .inl (av 15)))] ++ MG cI cJ ma mv mso mrs n0) H) (hn0 : n0 ≤ 10) (hfM : ∀ i, i < 10 → (i < n0 → fM i = some (ma i 0)) ∧ (n0 ≤ i → fM i = none)) (h_n : iv 0 = nI n0) (hm_ : m_ < n0) (e19 : iv 19 = nI b9) (hb9 : b9 ≤ 8) :
    ∀ (k9 : Nat) (k_ : Nat), (k_ ≤ n0) → n0 - k_ < k9 → ∀ (ls : Array Slot), lv_has ls 5 [(3, .int (nI k_)), (0, .ref h0), (1, .int (nI m_)), (2, .ref (ma m_ 0))] → (∀  (ls : Array Slot), lv_has ls 5 [(0, .ref h0), (1, .int (nI m_)), (2, .ref (ma m_ 0))] → W p l e (headSpec wsX8_clashesNearby ({ frames := 2, cells := 0, slots := 0, locals := 45 } : Room)).room s m args below meth c H [] 0 0 Q (F0 m 63 ls [])) → (∀  (ls : Array Slot), lv_has ls 5 [(0, .ref h0)] → W p l e (headSpec wsX8_clashesNearby ({ frames := 2, cells := 0, slots := 0, locals := 45 } : Room)).room s m args below meth c H [] 0 0 Q (F0 m 55 ls [])) → W p l e (headSpec wsX8_clashesNearby ({ frames := 2, cells := 0, slots := 0, locals := 45 } : Room)).room s m args below meth c H [] 0 0 Q (F0 m 2 ls []) := by
  have hK := hG.1
  have hN := hG.2
  intro k9
  induction k9 with
  | zero => intro k_ hk hfu; exact absurd hfu (Nat.not_lt_zero _)
  | succ k9 ih =>
    intro k_ hk hfu ls hl kk0 kk1
    rcases Nat.lt_or_ge k_ n0 with hlt | hge
    · refine lv_iload_n hx hb dX8_clashesNearby_2 rfl (lv_at hl 0 rfl) ?_
      refine lv_aload_n hx hb dX8_clashesNearby_3 rfl (lv_at hl 1 rfl) ?_
      refine va_get (D := D) (ci := 8) (v := .int (iv 0)) (C := RX8) (T := TX8) (N := 12) hx hb hts (fun _ h9 => List.mem_cons_of_mem _ (List.mem_append_left _ (List.mem_append_left _ (List.mem_append_right _ h9)))) hown hK hP 0 rfl rfl 8 (by decide) (hts (.fieldLink RX8 69 "BuoyTender" "markCount" "I") (by decide +kernel)) (fun _ h9 => h9) rfl dX8_clashesNearby_4 ?_
      refine lv_topi (fun z_1 ez_1 => ?_)
      obtain rfl : z_1 = nI n0 := ez_1.trans h_n
      refine lv_icmp_ge (tgt := 63) hx hb dX8_clashesNearby_7 (by decide) (fun c_2 => absurd c_2 (nI_ge hlt (by omega))) (fun c_2 => ?_)
      refine lv_aload_n hx hb dX8_clashesNearby_10 rfl (lv_at hl 1 rfl) ?_
      refine lv_iload_n hx hb dX8_clashesNearby_11 rfl (lv_at hl 0 rfl) ?_
      have hPc := hP.sub (ws' := [(h0, .inr (8, [.ref (a 1), .ref (a 2), .ref (a 3), .ref (a 4), .ref (a 5), .ref (a 6), .ref (a 7), .ref (a 8), .int (iv 0), .int (iv 1), .int (iv 2), .int (iv 3)])), (a 2, .inl (cM, 10, .inr (.inr (.inr (.inr fM)))))]) [0, 1] rfl
      refine va_csq (va_Run.run (va_runV (As := [.int (nI k_)]) (rest := []) ⟨hx, hb, hml, hown, hts⟩ (k_X8_known_y l D cI cJ cZ cM h0 a iv ma n0 fM hn0 hfM h_n k_ hlt) (cwV 1 hts gX8_clashesNearby_X8_known rfl rfl rfl (by decide +kernel) ⟨Nat.le_of_ble_eq_true rfl, Nat.le_of_ble_eq_true rfl⟩) (ro_V hG hPc (va_recv hK hPc (ci := 8) (q0 := 0) rfl rfl)) rfl rfl hl.1 rfl (lv_room (Nat.le_of_ble_eq_true rfl)) dX8_clashesNearby_12 ⟨Nat.le_of_ble_eq_true rfl, Nat.le_of_ble_eq_true rfl⟩)) (fun r_3 h_3 => ?_)
      obtain rfl : r_3 = some (ma k_ 0) := h_3
      refine W.eq (g2 := F0 m 15 ls [.ref (ma k_ 0)]) rfl ?_
      refine lv_astore (lv' := [(4, .ref (ma k_ 0)), (3, .int (nI k_)), (0, .ref h0), (1, .int (nI m_)), (2, .ref (ma m_ 0))]) hx hb dX8_clashesNearby_15 hl (by decide) rfl (fun ls hl => ?_)
      refine lv_iload_n hx hb dX8_clashesNearby_17 rfl (lv_at hl 1 rfl) ?_
      refine lv_iload_n hx hb dX8_clashesNearby_18 rfl (lv_at hl 3 rfl) ?_
      refine lv_icmp_eq (tgt := 57) hx hb dX8_clashesNearby_19 (by decide) (fun c_4 => ?_) (fun c_4 => ?_)
      · refine lv_iinc (v := nI (k_ + 1)) (lv' := [(3, .int (nI (k_ + 1))), (4, .ref (ma k_ 0)), (0, .ref h0), (1, .int (nI m_)), (2, .ref (ma m_ 0))]) hx hb dX8_clashesNearby_57 hl (k := 1) rfl (nI_add k_ 1) (by decide) rfl (fun ls hl => ?_)
        refine lv_goto (tgt := 2) hx hb dX8_clashesNearby_60 (by decide) ?_
        exact ih (k_ + 1) (by omega) (by omega) _ (lv_sub hl [0, 2, 3, 4] rfl) kk0 kk1
      refine lv_aload hx hb dX8_clashesNearby_22 (lv_at hl 0 rfl) ?_
      refine lv_ifnull hx hb dX8_clashesNearby_24 ?_
      refine lv_aload_n hx hb dX8_clashesNearby_27 rfl (lv_at hl 4 rfl) ?_
      refine lv_aload hx hb dX8_clashesNearby_28 (lv_at hl 0 rfl) ?_
      refine lv_aload_n hx hb dX8_clashesNearby_30 rfl (lv_at hl 2 rfl) ?_
      refine va_get (D := D) (ci := 8) (v := .int (iv 2)) (C := RX8) (T := TX8) (N := 12) hx hb hts (fun _ h9 => List.mem_cons_of_mem _ (List.mem_append_left _ (List.mem_append_left _ (List.mem_append_right _ h9)))) hown hK hP 0 rfl rfl 10 (by decide) (hts (.fieldLink RX8 178 "BuoyTender" "nearness" "I") (by decide +kernel)) (fun _ h9 => h9) rfl dX8_clashesNearby_31 ?_
      have hq0 : va_P D vwCl [(ma m_ 0, .inr (1, [.int (mv m_ 0), .int (mv m_ 1), .int (mv m_ 2), .ref (ma m_ 1), .ref (ma m_ 3), .ref (ma m_ 4), .int (mv m_ 3), .int (mv m_ 4), .int (mv m_ 5)]))] _ := vaP_1 (k := (4 + (6 * m_ + 0))) hP (mg_x0 rfl hm_)
      have hq1 : va_P D vwCl [(ma k_ 0, .inr (1, [.int (mv k_ 0), .int (mv k_ 1), .int (mv k_ 2), .ref (ma k_ 1), .ref (ma k_ 3), .ref (ma k_ 4), .int (mv k_ 3), .int (mv k_ 4), .int (mv k_ 5)]))] _ := vaP_1 (k := (4 + (6 * k_ + 0))) hP (mg_x0 rfl hlt)
      have hPc := (va_P.app hq0 hq1)
      have hPc : va_P D vwCl [(ma m_ 0, .inr (1, [.int (mv m_ 0), .int (mv m_ 1), .int (mv m_ 2), .ref (ma m_ 1), .ref (ma m_ 3), .ref (ma m_ 4), .int (mv m_ 3), .int (mv m_ 4), .int (mv m_ 5)])), (ma k_ 0, .inr (1, [.int (mv k_ 0), .int (mv k_ 1), .int (mv k_ 2), .ref (ma k_ 1), .ref (ma k_ 3), .ref (ma k_ 4), .int (mv k_ 3), .int (mv k_ 4), .int (mv k_ 5)]))] _ := hPc
      refine vp_callSi (va_Run.run (va_runVN (As := [.ref (ma k_ 0), .int (iv 2)]) (rest := []) ⟨hx, hb, hml, hown, hts⟩ (k_X1_isNear l D cI cJ cZ cM (ma m_ 0) (mv m_) (ma m_) (ma k_ 0) (mv k_) (ma k_) (iv 2)) ⟨(va_cnB 2 hts gX8_clashesNearby_X1_isNear_n295 rfl rfl rfl (hN.2.1 (RX8, 295, yX1_isNear, "BuoyTender") (by decide +kernel)) (hts (.initialized RX1) (by decide +kernel)) (by decide +kernel) ⟨Nat.le_of_ble_eq_true rfl, Nat.le_of_ble_eq_true rfl⟩), hts (.instanceMethod yX1_isNear) (by decide +kernel), hts (.selects RX1 yX1_isNear yX1_isNear) (by decide +kernel)⟩ (ro_V hG hPc (va_recv hK hPc (ci := 1) (q0 := 0) rfl rfl)) rfl rfl hl.1 rfl (lv_room (Nat.le_of_ble_eq_true rfl)) dX8_clashesNearby_34 ⟨Nat.le_of_ble_eq_true rfl, Nat.le_of_ble_eq_true rfl⟩)) (fun r_5 h_5 => ?_)
      rcases h_5 with ⟨rfl, h_5⟩ | ⟨rfl, h_5⟩
      · refine lv_if_eq (tgt := 57) hx hb dX8_clashesNearby_37 (by decide) (fun c_6 => False.elim (by revert c_6; decide)) (fun _ => ?_)
        refine lv_aload_n hx hb dX8_clashesNearby_40 rfl (lv_at hl 2 rfl) ?_
        refine va_get (D := D) (ci := 8) (v := .ref (a 8)) (C := RX8) (T := TX8) (N := 12) hx hb hts (fun _ h9 => List.mem_cons_of_mem _ (List.mem_append_left _ (List.mem_append_left _ (List.mem_append_right _ h9)))) hown hK hP 0 rfl rfl 7 (by decide) (hts (.fieldLink RX8 53 "BuoyTender" "proposed" "LBuoyTender$Rhythm;") (by decide +kernel)) (fun _ h9 => h9) rfl dX8_clashesNearby_41 ?_
        refine lv_aload hx hb dX8_clashesNearby_44 (lv_at hl 0 rfl) ?_
        refine va_getN (D := D) (ci := 1) (v := .ref (ma k_ 4)) (C := RX1) (T := TX1) (N := 9) hx hb hts (fun _ h9 => List.mem_cons_of_mem _ (List.mem_append_left _ (List.mem_append_right _ h9))) hown hK hP (4 + (6 * k_ + 0)) (mg_x0 rfl hlt) rfl 5 (by decide) (va_Nw.use rfl (hN.1 (RX8, 157, "BuoyTender$Mark", "rhythm", "LBuoyTender$Rhythm;", "BuoyTender") (by decide +kernel))) (fun _ h9 => h9) rfl dX8_clashesNearby_46 ?_
        have hq0 : va_P D vwCl [(a 8, .inr (3, [.ref (a 15), .int (iv 19)]))] _ := vaP_1 (k := 2) hP rfl
        have hq1 : va_P D vwCl [(a 15, .inl (cI, 8, .inl (av 15)))] _ := vaP_1 (k := 3) hP rfl
        have hq2 : va_P D vwCl [(ma k_ 4, .inr (3, [.ref (ma k_ 5), .int (mv k_ 14)]))] _ := vaP_1 (k := (4 + (6 * k_ + 4))) hP (mg_x4 rfl hlt)
        have hq3 : va_P D vwCl [(ma k_ 5, .inl (cI, 8, .inl (mrs k_)))] _ := vaP_1 (k := (4 + (6 * k_ + 5))) hP (mg_x5 rfl hlt)
        have hPc := (va_P.app (va_P.app (va_P.app hq0 hq1) hq2) hq3)
        have hPc : va_P D vwCl [(a 8, .inr (3, [.ref (a 15), .int (iv 19)])), (a 15, .inl (cI, 8, .inl (av 15))), (ma k_ 4, .inr (3, [.ref (ma k_ 5), .int (mv k_ 14)])), (ma k_ 5, .inl (cI, 8, .inl (mrs k_)))] _ := hPc
        refine vp_callSi (va_Run.run (va_runVN (As := [.ref (ma k_ 4)]) (rest := []) ⟨hx, hb, hml, hown, hts⟩ (k_X3_matches l D cI cJ cZ cM (a 8) (a 15) (iv 19) (av 15) (ma k_ 4) (ma k_ 5) (mv k_ 14) (mrs k_) b9 e19 hb9) ⟨(va_cnB 1 hts gX8_clashesNearby_X3_matches_n185 rfl rfl rfl (hN.2.1 (RX8, 185, yX3_matches, "BuoyTender") (by decide +kernel)) (hts (.initialized RX3) (by decide +kernel)) (by decide +kernel) ⟨Nat.le_of_ble_eq_true rfl, Nat.le_of_ble_eq_true rfl⟩), hts (.instanceMethod yX3_matches) (by decide +kernel), hts (.selects RX3 yX3_matches yX3_matches) (by decide +kernel)⟩ (ro_V hG hPc (va_recv hK hPc (ci := 3) (q0 := 0) rfl rfl)) rfl rfl hl.1 rfl (lv_room (Nat.le_of_ble_eq_true rfl)) dX8_clashesNearby_49 ⟨Nat.le_of_ble_eq_true rfl, Nat.le_of_ble_eq_true rfl⟩)) (fun r_7 h_7 => ?_)
        rcases h_7 with rfl | rfl
        · refine lv_if_eq (tgt := 57) hx hb dX8_clashesNearby_52 (by decide) (fun _ => ?_) (fun c_8 => False.elim (by revert c_8; decide))
          refine lv_iinc (v := nI (k_ + 1)) (lv' := [(3, .int (nI (k_ + 1))), (4, .ref (ma k_ 0)), (0, .ref h0), (1, .int (nI m_)), (2, .ref (ma m_ 0))]) hx hb dX8_clashesNearby_57 hl (k := 1) rfl (nI_add k_ 1) (by decide) rfl (fun ls hl => ?_)
          refine lv_goto (tgt := 2) hx hb dX8_clashesNearby_60 (by decide) ?_
          exact ih (k_ + 1) (by omega) (by omega) _ (lv_sub hl [0, 2, 3, 4] rfl) kk0 kk1
        refine lv_if_eq (tgt := 57) hx hb dX8_clashesNearby_52 (by decide) (fun c_9 => False.elim (by revert c_9; decide)) (fun _ => ?_)
        exact kk1  _  (lv_sub hl [2] rfl)
      refine lv_if_eq (tgt := 57) hx hb dX8_clashesNearby_37 (by decide) (fun _ => ?_) (fun c_10 => False.elim (by revert c_10; decide))
      refine lv_iinc (v := nI (k_ + 1)) (lv' := [(3, .int (nI (k_ + 1))), (4, .ref (ma k_ 0)), (0, .ref h0), (1, .int (nI m_)), (2, .ref (ma m_ 0))]) hx hb dX8_clashesNearby_57 hl (k := 1) rfl (nI_add k_ 1) (by decide) rfl (fun ls hl => ?_)
      refine lv_goto (tgt := 2) hx hb dX8_clashesNearby_60 (by decide) ?_
      exact ih (k_ + 1) (by omega) (by omega) _ (lv_sub hl [0, 2, 3, 4] rfl) kk0 kk1
    · refine lv_iload_n hx hb dX8_clashesNearby_2 rfl (lv_at hl 0 rfl) ?_
      refine lv_aload_n hx hb dX8_clashesNearby_3 rfl (lv_at hl 1 rfl) ?_
      refine va_get (D := D) (ci := 8) (v := .int (iv 0)) (C := RX8) (T := TX8) (N := 12) hx hb hts (fun _ h9 => List.mem_cons_of_mem _ (List.mem_append_left _ (List.mem_append_left _ (List.mem_append_right _ h9)))) hown hK hP 0 rfl rfl 8 (by decide) (hts (.fieldLink RX8 69 "BuoyTender" "markCount" "I") (by decide +kernel)) (fun _ h9 => h9) rfl dX8_clashesNearby_4 ?_
      refine lv_topi (fun z_11 ez_11 => ?_)
      obtain rfl : z_11 = nI n0 := ez_11.trans h_n
      refine lv_icmp_ge (tgt := 63) hx hb dX8_clashesNearby_7 (by decide) (fun c_12 => ?_) (fun c_12 => absurd (nI_le hge (by omega)) c_12)
      exact kk0  _  (lv_sub hl [1, 2, 3] rfl)
set_option maxHeartbeats 4000000 in
set_option maxRecDepth 100000 in
/-- X8_clashesNearby -/
theorem k_X8_clashesNearby (l : Launch) (D : va_G) (cI cJ cZ cM : Nat) (h0 : Nat) (a : Nat → Nat) (iv : Nat → Int32) (av : Nat → Nat → Int32) (ma : Nat → Nat → Nat) (mv : Nat → Nat → Int32) (mso : Nat → Nat → Int64) (mrs : Nat → Nat → Int32) (n0 : Nat) (fM : Nat → Option Nat) (hn0 : n0 ≤ 10) (hfM : ∀ i, i < 10 → (i < n0 → fM i = some (ma i 0)) ∧ (n0 ≤ i → fM i = none)) (h_n : iv 0 = nI n0) (m_ : Nat) (hm_ : m_ < n0) (b9 : Nat) (e19 : iv 19 = nI b9) (hb9 : b9 ≤ 8) : Met l yX8_clashesNearby wsX8_clashesNearby ({ frames := 2, cells := 0, slots := 0, locals := 45 } : Room) (RO D cI cJ cZ cM [.ref h0, .int (nI m_), .ref (ma m_ 0)] ([(h0, .inr (8, [.ref (a 1), .ref (a 2), .ref (a 3), .ref (a 4), .ref (a 5), .ref (a 6), .ref (a 7), .ref (a 8), .int (iv 0), .int (iv 1), .int (iv 2), .int (iv 3)])), (a 2, .inl (cM, 10, .inr (.inr (.inr (.inr fM))))), (a 8, .inr (3, [.ref (a 15), .int (iv 19)])), (a 15, .inl (cI, 8, .inl (av 15)))] ++ MG cI cJ ma mv mso mrs n0)) (vp_Si (fun r => r = 0 ∨ r = 1)) 0 0 (fun _ => False) := by
  refine Met.ofW (cc := cX8_clashesNearby) (maxL := 5) (ret := (some .boolean)) (by decide) rfl ?_
  intro p e s m args below meth c s₁ B hml hv
  obtain ⟨rfl, hG, hP⟩ := hv
  have hx := B.exec
  have hb := B.bytes
  have hr := B.returns
  have hts := atoms_spec (ws := wsX8_clashesNearby) B.pre
  have hown : s.vm.findClass RX8 = some m.cls := findClass_of_methodNamed B.named
  have hlocks := B.notSynchronized
  have hK := hG.1
  have hN := hG.2
  have hl := lv_entry ([.ref h0, .int (nI m_), .ref (ma m_ 0)]) (n := 5) (Nat.le_of_ble_eq_true rfl)
  rw [lg_entry_eq]
  generalize (lg_sl ([.ref h0, .int (nI m_), .ref (ma m_ 0)]) ++ List.replicate (5 - (lg_sl ([.ref h0, .int (nI m_), .ref (ma m_ 0)])).length) Slot.unset).toArray = ls at hl ⊢
  have hl : lv_has ls 5 [(0, .ref h0), (1, .int (nI m_)), (2, .ref (ma m_ 0))] := hl
  refine lv_iconst (v := 0) hx hb dX8_clashesNearby_0 (by decide) ?_
  refine lv_istore_n (lv' := [(3, .int 0), (0, .ref h0), (1, .int (nI m_)), (2, .ref (ma m_ 0))]) hx hb dX8_clashesNearby_1 rfl hl (by decide) rfl (fun ls hl => ?_)
  have hPl := hP.part (cx := [(h0, .inr (8, [.ref (a 1), .ref (a 2), .ref (a 3), .ref (a 4), .ref (a 5), .ref (a 6), .ref (a 7), .ref (a 8), .int (iv 0), .int (iv 1), .int (iv 2), .int (iv 3)])), (a 2, .inl (cM, 10, .inr (.inr (.inr (.inr fM))))), (a 8, .inr (3, [.ref (a 15), .int (iv 19)])), (a 15, .inl (cI, 8, .inl (av 15)))]) [0, 1, 2, 3] rfl
  refine lp_X8_cn hx hb hml hts hown hG hPl hn0 hfM h_n hm_ e19 hb9 (n0 + 1) 0 (Nat.zero_le _) (by omega) _ (lv_sub hl [0, 1, 2, 3] rfl) (fun  ls  hl => ?_) (fun  ls  hl => ?_)
  · refine lv_iconst (v := 0) hx hb dX8_clashesNearby_63 (by decide) ?_
    exact W.zret (v := 0) hx hb hr rfl (fun t ht hW => ⟨0, rfl, (Or.inl rfl), ht⟩) (fun _ h => by cases h) dX8_clashesNearby_64
  refine lv_iconst (v := 1) hx hb dX8_clashesNearby_55 (by decide) ?_
  exact W.zret (v := 1) hx hb hr rfl (fun t ht hW => ⟨1, rfl, (Or.inr rfl), ht⟩) (fun _ h => by cases h) dX8_clashesNearby_56
set_option maxHeartbeats 4000000 in
set_option maxRecDepth 100000 in
/-- X8_clashesWithin: the loop at 14 -/
theorem lp_X8_cwI {p : Program} {l : Launch} {e : Env} {s : State} {m : MethodId} {args : Array Value} {below : List Frame} {meth : Method} {c : Code} {Q : State → Prop} {D : va_G} {cI cJ cZ cM : Nat} {h0 : Nat} {a : Nat → Nat} {iv : Nat → Int32} {av : Nat → Nat → Int32} {ma : Nat → Nat → Nat} {mv : Nat → Nat → Int32} {mso : Nat → Nat → Int64} {mrs : Nat → Nat → Int32} {n0 : Nat} {fM : Nat → Option Nat} {x1 : Int32} {i_ : Nat} {sq_ : Nat} {H : Heap} (hx : p.tables.exec = Jvm.exec) (hb : c.code = cX8_clashesWithin) (hml : c.maxLocals = 6) (hts : ∀ w ∈ wsX8_clashesWithin, w.before args s = true) (hown : s.vm.findClass RX8 = some m.cls) (hG : GK D cI cJ cZ cM s) (hP : va_P D vwCl ([(h0, .inr (8, [.ref (a 1), .ref (a 2), .ref (a 3), .ref (a 4), .ref (a 5), .ref (a 6), .ref (a 7), .ref (a 8), .int (iv 0), .int (iv 1), .int (iv 2), .int (iv 3)])), (a 2, .inl (cM, 10, .inr (.inr (.inr (.inr fM)))))] ++ MG cI cJ ma mv mso mrs n0) H) (hn0 : n0 ≤ 10) (hfM : ∀ i, i < 10 → (i < n0 → fM i = some (ma i 0)) ∧ (n0 ≤ i → fM i = none)) (h_n : iv 0 = nI n0) (hi_ : i_ < n0) (esq : mv i_ 14 = nI sq_) (hsq : sq_ ≤ 8) :
    ∀ (k9 : Nat) (k_ : Nat), (k_ ≤ n0) → n0 - k_ < k9 → ∀ (ls : Array Slot), lv_has ls 6 [(3, .int (nI k_)), (2, .int (nI i_)), (0, .ref h0), (1, .int x1)] → (∀  (ls : Array Slot), lv_has ls 6 [(2, .int (nI i_)), (0, .ref h0), (1, .int x1)] → W p l e (headSpec wsX8_clashesWithin ({ frames := 2, cells := 0, slots := 0, locals := 45 } : Room)).room s m args below meth c H [] 0 0 Q (F0 m 81 ls [])) → (∀  (ls : Array Slot), lv_has ls 6 [(0, .ref h0)] → W p l e (headSpec wsX8_clashesWithin ({ frames := 2, cells := 0, slots := 0, locals := 45 } : Room)).room s m args below meth c H [] 0 0 Q (F0 m 73 ls [])) → W p l e (headSpec wsX8_clashesWithin ({ frames := 2, cells := 0, slots := 0, locals := 45 } : Room)).room s m args below meth c H [] 0 0 Q (F0 m 14 ls []) := by
  have hK := hG.1
  have hN := hG.2
  intro k9
  induction k9 with
  | zero => intro k_ hk hfu; exact absurd hfu (Nat.not_lt_zero _)
  | succ k9 ih =>
    intro k_ hk hfu ls hl kk0 kk1
    rcases Nat.lt_or_ge k_ n0 with hlt | hge
    · refine lv_iload_n hx hb dX8_clashesWithin_14 rfl (lv_at hl 0 rfl) ?_
      refine lv_aload_n hx hb dX8_clashesWithin_15 rfl (lv_at hl 2 rfl) ?_
      refine va_get (D := D) (ci := 8) (v := .int (iv 0)) (C := RX8) (T := TX8) (N := 12) hx hb hts (fun _ h9 => List.mem_cons_of_mem _ (List.mem_append_left _ (List.mem_append_left _ (List.mem_append_right _ h9)))) hown hK hP 0 rfl rfl 8 (by decide) (hts (.fieldLink RX8 69 "BuoyTender" "markCount" "I") (by decide +kernel)) (fun _ h9 => h9) rfl dX8_clashesWithin_16 ?_
      refine lv_topi (fun z_1 ez_1 => ?_)
      obtain rfl : z_1 = nI n0 := ez_1.trans h_n
      refine lv_icmp_ge (tgt := 81) hx hb dX8_clashesWithin_19 (by decide) (fun c_2 => absurd c_2 (nI_ge hlt (by omega))) (fun c_2 => ?_)
      refine lv_aload_n hx hb dX8_clashesWithin_22 rfl (lv_at hl 2 rfl) ?_
      refine lv_iload_n hx hb dX8_clashesWithin_23 rfl (lv_at hl 1 rfl) ?_
      have hPc := hP.sub (ws' := [(h0, .inr (8, [.ref (a 1), .ref (a 2), .ref (a 3), .ref (a 4), .ref (a 5), .ref (a 6), .ref (a 7), .ref (a 8), .int (iv 0), .int (iv 1), .int (iv 2), .int (iv 3)])), (a 2, .inl (cM, 10, .inr (.inr (.inr (.inr fM)))))]) [0, 1] rfl
      refine va_csq (va_Run.run (va_runV (As := [.int (nI i_)]) (rest := []) ⟨hx, hb, hml, hown, hts⟩ (k_X8_known_y l D cI cJ cZ cM h0 a iv ma n0 fM hn0 hfM h_n i_ hi_) (cwV 1 hts gX8_clashesWithin_X8_known rfl rfl rfl (by decide +kernel) ⟨Nat.le_of_ble_eq_true rfl, Nat.le_of_ble_eq_true rfl⟩) (ro_V hG hPc (va_recv hK hPc (ci := 8) (q0 := 0) rfl rfl)) rfl rfl hl.1 rfl (lv_room (Nat.le_of_ble_eq_true rfl)) dX8_clashesWithin_24 ⟨Nat.le_of_ble_eq_true rfl, Nat.le_of_ble_eq_true rfl⟩)) (fun r_3 h_3 => ?_)
      obtain rfl : r_3 = some (ma i_ 0) := h_3
      refine W.eq (g2 := F0 m 27 ls [.ref (ma i_ 0)]) rfl ?_
      refine lv_astore (lv' := [(4, .ref (ma i_ 0)), (3, .int (nI k_)), (2, .int (nI i_)), (0, .ref h0), (1, .int x1)]) hx hb dX8_clashesWithin_27 hl (by decide) rfl (fun ls hl => ?_)
      refine lv_aload_n hx hb dX8_clashesWithin_29 rfl (lv_at hl 3 rfl) ?_
      refine lv_iload_n hx hb dX8_clashesWithin_30 rfl (lv_at hl 1 rfl) ?_
      have hPc := hP.sub (ws' := [(h0, .inr (8, [.ref (a 1), .ref (a 2), .ref (a 3), .ref (a 4), .ref (a 5), .ref (a 6), .ref (a 7), .ref (a 8), .int (iv 0), .int (iv 1), .int (iv 2), .int (iv 3)])), (a 2, .inl (cM, 10, .inr (.inr (.inr (.inr fM)))))]) [0, 1] rfl
      refine va_csq (va_Run.run (va_runV (As := [.int (nI k_)]) (rest := []) ⟨hx, hb, hml, hown, hts⟩ (k_X8_known_y l D cI cJ cZ cM h0 a iv ma n0 fM hn0 hfM h_n k_ hlt) (cwV 1 hts gX8_clashesWithin_X8_known rfl rfl rfl (by decide +kernel) ⟨Nat.le_of_ble_eq_true rfl, Nat.le_of_ble_eq_true rfl⟩) (ro_V hG hPc (va_recv hK hPc (ci := 8) (q0 := 0) rfl rfl)) rfl rfl hl.1 rfl (lv_room (Nat.le_of_ble_eq_true rfl)) dX8_clashesWithin_31 ⟨Nat.le_of_ble_eq_true rfl, Nat.le_of_ble_eq_true rfl⟩)) (fun r_4 h_4 => ?_)
      obtain rfl : r_4 = some (ma k_ 0) := h_4
      refine W.eq (g2 := F0 m 34 ls [.ref (ma k_ 0)]) rfl ?_
      refine lv_astore (lv' := [(5, .ref (ma k_ 0)), (4, .ref (ma i_ 0)), (3, .int (nI k_)), (2, .int (nI i_)), (0, .ref h0), (1, .int x1)]) hx hb dX8_clashesWithin_34 hl (by decide) rfl (fun ls hl => ?_)
      refine lv_aload hx hb dX8_clashesWithin_36 (lv_at hl 1 rfl) ?_
      refine lv_ifnull hx hb dX8_clashesWithin_38 ?_
      refine lv_aload hx hb dX8_clashesWithin_41 (lv_at hl 0 rfl) ?_
      refine lv_ifnull hx hb dX8_clashesWithin_43 ?_
      refine lv_aload hx hb dX8_clashesWithin_46 (lv_at hl 1 rfl) ?_
      refine lv_aload hx hb dX8_clashesWithin_48 (lv_at hl 0 rfl) ?_
      refine lv_iload_n hx hb dX8_clashesWithin_50 rfl (lv_at hl 5 rfl) ?_
      have hq0 : va_P D vwCl [(ma i_ 0, .inr (1, [.int (mv i_ 0), .int (mv i_ 1), .int (mv i_ 2), .ref (ma i_ 1), .ref (ma i_ 3), .ref (ma i_ 4), .int (mv i_ 3), .int (mv i_ 4), .int (mv i_ 5)]))] _ := vaP_1 (k := (2 + (6 * i_ + 0))) hP (mg_x0 rfl hi_)
      have hq1 : va_P D vwCl [(ma k_ 0, .inr (1, [.int (mv k_ 0), .int (mv k_ 1), .int (mv k_ 2), .ref (ma k_ 1), .ref (ma k_ 3), .ref (ma k_ 4), .int (mv k_ 3), .int (mv k_ 4), .int (mv k_ 5)]))] _ := vaP_1 (k := (2 + (6 * k_ + 0))) hP (mg_x0 rfl hlt)
      have hPc := (va_P.app hq0 hq1)
      have hPc : va_P D vwCl [(ma i_ 0, .inr (1, [.int (mv i_ 0), .int (mv i_ 1), .int (mv i_ 2), .ref (ma i_ 1), .ref (ma i_ 3), .ref (ma i_ 4), .int (mv i_ 3), .int (mv i_ 4), .int (mv i_ 5)])), (ma k_ 0, .inr (1, [.int (mv k_ 0), .int (mv k_ 1), .int (mv k_ 2), .ref (ma k_ 1), .ref (ma k_ 3), .ref (ma k_ 4), .int (mv k_ 3), .int (mv k_ 4), .int (mv k_ 5)]))] _ := hPc
      refine vp_callSi (va_Run.run (va_runVN (As := [.ref (ma k_ 0), .int x1]) (rest := []) ⟨hx, hb, hml, hown, hts⟩ (k_X1_isNear l D cI cJ cZ cM (ma i_ 0) (mv i_) (ma i_) (ma k_ 0) (mv k_) (ma k_) x1) ⟨(va_cnB 2 hts gX8_clashesWithin_X1_isNear_n295 rfl rfl rfl (hN.2.1 (RX8, 295, yX1_isNear, "BuoyTender") (by decide +kernel)) (hts (.initialized RX1) (by decide +kernel)) (by decide +kernel) ⟨Nat.le_of_ble_eq_true rfl, Nat.le_of_ble_eq_true rfl⟩), hts (.instanceMethod yX1_isNear) (by decide +kernel), hts (.selects RX1 yX1_isNear yX1_isNear) (by decide +kernel)⟩ (ro_V hG hPc (va_recv hK hPc (ci := 1) (q0 := 0) rfl rfl)) rfl rfl hl.1 rfl (lv_room (Nat.le_of_ble_eq_true rfl)) dX8_clashesWithin_51 ⟨Nat.le_of_ble_eq_true rfl, Nat.le_of_ble_eq_true rfl⟩)) (fun r_5 h_5 => ?_)
      rcases h_5 with ⟨rfl, h_5⟩ | ⟨rfl, h_5⟩
      · refine lv_if_eq (tgt := 75) hx hb dX8_clashesWithin_54 (by decide) (fun c_6 => False.elim (by revert c_6; decide)) (fun _ => ?_)
        refine lv_aload hx hb dX8_clashesWithin_57 (lv_at hl 1 rfl) ?_
        refine va_getN (D := D) (ci := 1) (v := .ref (ma i_ 4)) (C := RX1) (T := TX1) (N := 9) hx hb hts (fun _ h9 => List.mem_cons_of_mem _ (List.mem_append_left _ (List.mem_append_right _ h9))) hown hK hP (2 + (6 * i_ + 0)) (mg_x0 rfl hi_) rfl 5 (by decide) (va_Nw.use rfl (hN.1 (RX8, 157, "BuoyTender$Mark", "rhythm", "LBuoyTender$Rhythm;", "BuoyTender") (by decide +kernel))) (fun _ h9 => h9) rfl dX8_clashesWithin_59 ?_
        refine lv_aload hx hb dX8_clashesWithin_62 (lv_at hl 0 rfl) ?_
        refine va_getN (D := D) (ci := 1) (v := .ref (ma k_ 4)) (C := RX1) (T := TX1) (N := 9) hx hb hts (fun _ h9 => List.mem_cons_of_mem _ (List.mem_append_left _ (List.mem_append_right _ h9))) hown hK hP (2 + (6 * k_ + 0)) (mg_x0 rfl hlt) rfl 5 (by decide) (va_Nw.use rfl (hN.1 (RX8, 157, "BuoyTender$Mark", "rhythm", "LBuoyTender$Rhythm;", "BuoyTender") (by decide +kernel))) (fun _ h9 => h9) rfl dX8_clashesWithin_64 ?_
        have hq0 : va_P D vwCl [(ma i_ 4, .inr (3, [.ref (ma i_ 5), .int (mv i_ 14)]))] _ := vaP_1 (k := (2 + (6 * i_ + 4))) hP (mg_x4 rfl hi_)
        have hq1 : va_P D vwCl [(ma i_ 5, .inl (cI, 8, .inl (mrs i_)))] _ := vaP_1 (k := (2 + (6 * i_ + 5))) hP (mg_x5 rfl hi_)
        have hq2 : va_P D vwCl [(ma k_ 4, .inr (3, [.ref (ma k_ 5), .int (mv k_ 14)]))] _ := vaP_1 (k := (2 + (6 * k_ + 4))) hP (mg_x4 rfl hlt)
        have hq3 : va_P D vwCl [(ma k_ 5, .inl (cI, 8, .inl (mrs k_)))] _ := vaP_1 (k := (2 + (6 * k_ + 5))) hP (mg_x5 rfl hlt)
        have hPc := (va_P.app (va_P.app (va_P.app hq0 hq1) hq2) hq3)
        have hPc : va_P D vwCl [(ma i_ 4, .inr (3, [.ref (ma i_ 5), .int (mv i_ 14)])), (ma i_ 5, .inl (cI, 8, .inl (mrs i_))), (ma k_ 4, .inr (3, [.ref (ma k_ 5), .int (mv k_ 14)])), (ma k_ 5, .inl (cI, 8, .inl (mrs k_)))] _ := hPc
        refine vp_callSi (va_Run.run (va_runVN (As := [.ref (ma k_ 4)]) (rest := []) ⟨hx, hb, hml, hown, hts⟩ (k_X3_matches l D cI cJ cZ cM (ma i_ 4) (ma i_ 5) (mv i_ 14) (mrs i_) (ma k_ 4) (ma k_ 5) (mv k_ 14) (mrs k_) sq_ (show mv i_ 14 = nI sq_ from esq) hsq) ⟨(va_cnB 1 hts gX8_clashesWithin_X3_matches_n185 rfl rfl rfl (hN.2.1 (RX8, 185, yX3_matches, "BuoyTender") (by decide +kernel)) (hts (.initialized RX3) (by decide +kernel)) (by decide +kernel) ⟨Nat.le_of_ble_eq_true rfl, Nat.le_of_ble_eq_true rfl⟩), hts (.instanceMethod yX3_matches) (by decide +kernel), hts (.selects RX3 yX3_matches yX3_matches) (by decide +kernel)⟩ (ro_V hG hPc (va_recv hK hPc (ci := 3) (q0 := 0) rfl rfl)) rfl rfl hl.1 rfl (lv_room (Nat.le_of_ble_eq_true rfl)) dX8_clashesWithin_67 ⟨Nat.le_of_ble_eq_true rfl, Nat.le_of_ble_eq_true rfl⟩)) (fun r_7 h_7 => ?_)
        rcases h_7 with rfl | rfl
        · refine lv_if_eq (tgt := 75) hx hb dX8_clashesWithin_70 (by decide) (fun _ => ?_) (fun c_8 => False.elim (by revert c_8; decide))
          refine lv_iinc (v := nI (k_ + 1)) (lv' := [(3, .int (nI (k_ + 1))), (5, .ref (ma k_ 0)), (4, .ref (ma i_ 0)), (2, .int (nI i_)), (0, .ref h0), (1, .int x1)]) hx hb dX8_clashesWithin_75 hl (k := 2) rfl (nI_add k_ 1) (by decide) rfl (fun ls hl => ?_)
          refine lv_goto (tgt := 14) hx hb dX8_clashesWithin_78 (by decide) ?_
          exact ih (k_ + 1) (by omega) (by omega) _ (lv_sub hl [0, 3, 4, 5] rfl) kk0 kk1
        refine lv_if_eq (tgt := 75) hx hb dX8_clashesWithin_70 (by decide) (fun c_9 => False.elim (by revert c_9; decide)) (fun _ => ?_)
        exact kk1  _  (lv_sub hl [4] rfl)
      refine lv_if_eq (tgt := 75) hx hb dX8_clashesWithin_54 (by decide) (fun _ => ?_) (fun c_10 => False.elim (by revert c_10; decide))
      refine lv_iinc (v := nI (k_ + 1)) (lv' := [(3, .int (nI (k_ + 1))), (5, .ref (ma k_ 0)), (4, .ref (ma i_ 0)), (2, .int (nI i_)), (0, .ref h0), (1, .int x1)]) hx hb dX8_clashesWithin_75 hl (k := 2) rfl (nI_add k_ 1) (by decide) rfl (fun ls hl => ?_)
      refine lv_goto (tgt := 14) hx hb dX8_clashesWithin_78 (by decide) ?_
      exact ih (k_ + 1) (by omega) (by omega) _ (lv_sub hl [0, 3, 4, 5] rfl) kk0 kk1
    · refine lv_iload_n hx hb dX8_clashesWithin_14 rfl (lv_at hl 0 rfl) ?_
      refine lv_aload_n hx hb dX8_clashesWithin_15 rfl (lv_at hl 2 rfl) ?_
      refine va_get (D := D) (ci := 8) (v := .int (iv 0)) (C := RX8) (T := TX8) (N := 12) hx hb hts (fun _ h9 => List.mem_cons_of_mem _ (List.mem_append_left _ (List.mem_append_left _ (List.mem_append_right _ h9)))) hown hK hP 0 rfl rfl 8 (by decide) (hts (.fieldLink RX8 69 "BuoyTender" "markCount" "I") (by decide +kernel)) (fun _ h9 => h9) rfl dX8_clashesWithin_16 ?_
      refine lv_topi (fun z_11 ez_11 => ?_)
      obtain rfl : z_11 = nI n0 := ez_11.trans h_n
      refine lv_icmp_ge (tgt := 81) hx hb dX8_clashesWithin_19 (by decide) (fun c_12 => ?_) (fun c_12 => absurd (nI_le hge (by omega)) c_12)
      exact kk0  _  (lv_sub hl [1, 2, 3] rfl)
set_option maxHeartbeats 4000000 in
set_option maxRecDepth 100000 in
/-- X8_clashesWithin: the loop at 2 -/
theorem lp_X8_cwO {p : Program} {l : Launch} {e : Env} {s : State} {m : MethodId} {args : Array Value} {below : List Frame} {meth : Method} {c : Code} {Q : State → Prop} {D : va_G} {cI cJ cZ cM : Nat} {h0 : Nat} {a : Nat → Nat} {iv : Nat → Int32} {av : Nat → Nat → Int32} {ma : Nat → Nat → Nat} {mv : Nat → Nat → Int32} {mso : Nat → Nat → Int64} {mrs : Nat → Nat → Int32} {n0 : Nat} {fM : Nat → Option Nat} {x1 : Int32} {H : Heap} (hx : p.tables.exec = Jvm.exec) (hb : c.code = cX8_clashesWithin) (hml : c.maxLocals = 6) (hts : ∀ w ∈ wsX8_clashesWithin, w.before args s = true) (hown : s.vm.findClass RX8 = some m.cls) (hG : GK D cI cJ cZ cM s) (hP : va_P D vwCl ([(h0, .inr (8, [.ref (a 1), .ref (a 2), .ref (a 3), .ref (a 4), .ref (a 5), .ref (a 6), .ref (a 7), .ref (a 8), .int (iv 0), .int (iv 1), .int (iv 2), .int (iv 3)])), (a 2, .inl (cM, 10, .inr (.inr (.inr (.inr fM)))))] ++ MG cI cJ ma mv mso mrs n0) H) (hn0 : n0 ≤ 10) (hfM : ∀ i, i < 10 → (i < n0 → fM i = some (ma i 0)) ∧ (n0 ≤ i → fM i = none)) (h_n : iv 0 = nI n0) (hrm : ∀ i, i < n0 → ∃ q, q ≤ 8 ∧ mv i 14 = nI q) :
    ∀ (k9 : Nat) (i_ : Nat), (i_ ≤ n0) → n0 - i_ < k9 → ∀ (ls : Array Slot), lv_has ls 6 [(2, .int (nI i_)), (0, .ref h0), (1, .int x1)] → (∀  (ls : Array Slot), lv_has ls 6 [(0, .ref h0), (1, .int x1)] → W p l e (headSpec wsX8_clashesWithin ({ frames := 2, cells := 0, slots := 0, locals := 45 } : Room)).room s m args below meth c H [] 0 0 Q (F0 m 87 ls [])) → (∀  (ls : Array Slot), lv_has ls 6 [(0, .ref h0)] → W p l e (headSpec wsX8_clashesWithin ({ frames := 2, cells := 0, slots := 0, locals := 45 } : Room)).room s m args below meth c H [] 0 0 Q (F0 m 73 ls [])) → W p l e (headSpec wsX8_clashesWithin ({ frames := 2, cells := 0, slots := 0, locals := 45 } : Room)).room s m args below meth c H [] 0 0 Q (F0 m 2 ls []) := by
  have hK := hG.1
  have hN := hG.2
  intro k9
  induction k9 with
  | zero => intro i_ hi hfu; exact absurd hfu (Nat.not_lt_zero _)
  | succ k9 ih =>
    intro i_ hi hfu ls hl kk0 kk1
    rcases Nat.lt_or_ge i_ n0 with hlt | hge
    · refine lv_iload_n hx hb dX8_clashesWithin_2 rfl (lv_at hl 0 rfl) ?_
      refine lv_aload_n hx hb dX8_clashesWithin_3 rfl (lv_at hl 1 rfl) ?_
      refine va_get (D := D) (ci := 8) (v := .int (iv 0)) (C := RX8) (T := TX8) (N := 12) hx hb hts (fun _ h9 => List.mem_cons_of_mem _ (List.mem_append_left _ (List.mem_append_left _ (List.mem_append_right _ h9)))) hown hK hP 0 rfl rfl 8 (by decide) (hts (.fieldLink RX8 69 "BuoyTender" "markCount" "I") (by decide +kernel)) (fun _ h9 => h9) rfl dX8_clashesWithin_4 ?_
      refine lv_topi (fun z_1 ez_1 => ?_)
      obtain rfl : z_1 = nI n0 := ez_1.trans h_n
      refine lv_icmp_ge (tgt := 87) hx hb dX8_clashesWithin_7 (by decide) (fun c_2 => absurd c_2 (nI_ge hlt (by omega))) (fun c_2 => ?_)
      refine lv_iload_n hx hb dX8_clashesWithin_10 rfl (lv_at hl 0 rfl) ?_
      refine lv_iconst (v := 1) hx hb dX8_clashesWithin_11 (by decide) ?_
      refine lv_iadd hx hb dX8_clashesWithin_12 ?_
      refine lv_topi (fun z_3 ez_3 => ?_)
      obtain rfl : z_3 = nI (i_ + 1) := ez_3.trans (nI_add i_ 1)
      refine lv_istore_n (lv' := [(3, .int (nI (i_ + 1))), (2, .int (nI i_)), (0, .ref h0), (1, .int x1)]) hx hb dX8_clashesWithin_13 rfl hl (by decide) rfl (fun ls hl => ?_)
      obtain ⟨sq_, hsq, esq⟩ := hrm i_ hlt
      have hPl := hP.part (cx := [(h0, .inr (8, [.ref (a 1), .ref (a 2), .ref (a 3), .ref (a 4), .ref (a 5), .ref (a 6), .ref (a 7), .ref (a 8), .int (iv 0), .int (iv 1), .int (iv 2), .int (iv 3)])), (a 2, .inl (cM, 10, .inr (.inr (.inr (.inr fM)))))]) [0, 1] rfl
      refine lp_X8_cwI (av := av) hx hb hml hts hown hG hPl hn0 hfM h_n hlt esq hsq (n0 + 1) (i_ + 1) (by omega) (by omega) _ (lv_sub hl [0, 1, 2, 3] rfl) (fun  ls  hl => ?_) (fun  ls  hl => ?_)
      · refine lv_iinc (v := nI (i_ + 1)) (lv' := [(2, .int (nI (i_ + 1))), (0, .ref h0), (1, .int x1)]) hx hb dX8_clashesWithin_81 hl (k := 0) rfl (nI_add i_ 1) (by decide) rfl (fun ls hl => ?_)
        refine lv_goto (tgt := 2) hx hb dX8_clashesWithin_84 (by decide) ?_
        exact ih (i_ + 1) (by omega) (by omega) _ (lv_sub hl [0, 1, 2] rfl) kk0 kk1
      exact kk1  _  (lv_sub hl [0] rfl)
    · refine lv_iload_n hx hb dX8_clashesWithin_2 rfl (lv_at hl 0 rfl) ?_
      refine lv_aload_n hx hb dX8_clashesWithin_3 rfl (lv_at hl 1 rfl) ?_
      refine va_get (D := D) (ci := 8) (v := .int (iv 0)) (C := RX8) (T := TX8) (N := 12) hx hb hts (fun _ h9 => List.mem_cons_of_mem _ (List.mem_append_left _ (List.mem_append_left _ (List.mem_append_right _ h9)))) hown hK hP 0 rfl rfl 8 (by decide) (hts (.fieldLink RX8 69 "BuoyTender" "markCount" "I") (by decide +kernel)) (fun _ h9 => h9) rfl dX8_clashesWithin_4 ?_
      refine lv_topi (fun z_6 ez_6 => ?_)
      obtain rfl : z_6 = nI n0 := ez_6.trans h_n
      refine lv_icmp_ge (tgt := 87) hx hb dX8_clashesWithin_7 (by decide) (fun c_7 => ?_) (fun c_7 => absurd (nI_le hge (by omega)) c_7)
      exact kk0  _  (lv_sub hl [1, 2] rfl)
set_option maxHeartbeats 4000000 in
set_option maxRecDepth 100000 in
/-- X8_clashesWithin -/
theorem k_X8_clashesWithin (l : Launch) (D : va_G) (cI cJ cZ cM : Nat) (h0 : Nat) (a : Nat → Nat) (iv : Nat → Int32) (av : Nat → Nat → Int32) (ma : Nat → Nat → Nat) (mv : Nat → Nat → Int32) (mso : Nat → Nat → Int64) (mrs : Nat → Nat → Int32) (n0 : Nat) (fM : Nat → Option Nat) (hn0 : n0 ≤ 10) (hfM : ∀ i, i < 10 → (i < n0 → fM i = some (ma i 0)) ∧ (n0 ≤ i → fM i = none)) (h_n : iv 0 = nI n0) (hrm : ∀ i, i < n0 → ∃ q, q ≤ 8 ∧ mv i 14 = nI q) (x1 : Int32) : Met l yX8_clashesWithin wsX8_clashesWithin ({ frames := 2, cells := 0, slots := 0, locals := 45 } : Room) (RO D cI cJ cZ cM [.ref h0, .int x1] ([(h0, .inr (8, [.ref (a 1), .ref (a 2), .ref (a 3), .ref (a 4), .ref (a 5), .ref (a 6), .ref (a 7), .ref (a 8), .int (iv 0), .int (iv 1), .int (iv 2), .int (iv 3)])), (a 2, .inl (cM, 10, .inr (.inr (.inr (.inr fM)))))] ++ MG cI cJ ma mv mso mrs n0)) (vp_Si (fun r => r = 0 ∨ r = 1)) 0 0 (fun _ => False) := by
  refine Met.ofW (cc := cX8_clashesWithin) (maxL := 6) (ret := (some .boolean)) (by decide) rfl ?_
  intro p e s m args below meth c s₁ B hml hv
  obtain ⟨rfl, hG, hP⟩ := hv
  have hx := B.exec
  have hb := B.bytes
  have hr := B.returns
  have hts := atoms_spec (ws := wsX8_clashesWithin) B.pre
  have hown : s.vm.findClass RX8 = some m.cls := findClass_of_methodNamed B.named
  have hlocks := B.notSynchronized
  have hK := hG.1
  have hN := hG.2
  have hl := lv_entry ([.ref h0, .int x1]) (n := 6) (Nat.le_of_ble_eq_true rfl)
  rw [lg_entry_eq]
  generalize (lg_sl ([.ref h0, .int x1]) ++ List.replicate (6 - (lg_sl ([.ref h0, .int x1])).length) Slot.unset).toArray = ls at hl ⊢
  have hl : lv_has ls 6 [(0, .ref h0), (1, .int x1)] := hl
  refine lv_iconst (v := 0) hx hb dX8_clashesWithin_0 (by decide) ?_
  refine lv_istore_n (lv' := [(2, .int 0), (0, .ref h0), (1, .int x1)]) hx hb dX8_clashesWithin_1 rfl hl (by decide) rfl (fun ls hl => ?_)
  have hPl := hP.part (cx := [(h0, .inr (8, [.ref (a 1), .ref (a 2), .ref (a 3), .ref (a 4), .ref (a 5), .ref (a 6), .ref (a 7), .ref (a 8), .int (iv 0), .int (iv 1), .int (iv 2), .int (iv 3)])), (a 2, .inl (cM, 10, .inr (.inr (.inr (.inr fM)))))]) [0, 1] rfl
  refine lp_X8_cwO (av := av) hx hb hml hts hown hG hPl hn0 hfM h_n hrm (n0 + 1) 0 (Nat.zero_le _) (by omega) _ (lv_sub hl [0, 1, 2] rfl) (fun  ls  hl => ?_) (fun  ls  hl => ?_)
  · refine lv_iconst (v := 0) hx hb dX8_clashesWithin_87 (by decide) ?_
    exact W.zret (v := 0) hx hb hr rfl (fun t ht hW => ⟨0, rfl, (Or.inl rfl), ht⟩) (fun _ h => by cases h) dX8_clashesWithin_88
  refine lv_iconst (v := 1) hx hb dX8_clashesWithin_73 (by decide) ?_
  exact W.zret (v := 1) hx hb hr rfl (fun t ht hW => ⟨1, rfl, (Or.inr rfl), ht⟩) (fun _ h => by cases h) dX8_clashesWithin_74
