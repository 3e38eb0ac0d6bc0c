theorem nlF_in : ∀ w ∈ nlF.map (fun q => Cond.fieldLinkNest q.1 q.2.1 q.2.2.1 q.2.2.2.1 q.2.2.2.2.1 q.2.2.2.2.2), w ∈ lw_tbl := by decide +kernel
theorem nlM_in : ∀ w ∈ nlM.map (fun q => Cond.methodLinkNest q.1 q.2.1 q.2.2.1 q.2.2.2), w ∈ lw_tbl := by decide +kernel
theorem arM_in : Cond.arrayOver (.object "BuoyTender$Mark") ∈ lw_tbl := by decide +kernel
/-- what the tables say at the start: classes, array kinds, links -/
theorem gk_start {s : State} {args : Array Value} (hts0 : ∀ w ∈ lw_tbl, w.before args s = true) : ∃ (D : va_G) (cI cJ cZ cM : Nat), GK D cI cJ cZ cM s := by
  have hts := fun w h => hts0 w (wsL_law_in w h)
  obtain ⟨c0, iS0, hKn0⟩ := u_known (C := RX0) (T := TX0) (N := 5) (n := 5) hts inlX0 (hts (.instantiable RX0 5) (by decide +kernel))
  obtain ⟨c1, iS1, hKn1⟩ := u_known (C := RX1) (T := TX1) (N := 9) (n := 9) hts inlX1 (hts (.instantiable RX1 9) (by decide +kernel))
  obtain ⟨c2, iS2, hKn2⟩ := u_known (C := RX2) (T := TX2) (N := 16) (n := 16) hts inlX2 (hts (.instantiable RX2 16) (by decide +kernel))
  obtain ⟨c3, iS3, hKn3⟩ := u_known (C := RX3) (T := TX3) (N := 2) (n := 2) hts inlX3 (hts (.instantiable RX3 2) (by decide +kernel))
  obtain ⟨c4, iS4, hKn4⟩ := u_known (C := RX4) (T := TX4) (N := 10) (n := 10) hts inlX4 (hts (.instantiable RX4 10) (by decide +kernel))
  obtain ⟨c5, iS5, hKn5⟩ := u_known (C := RX5) (T := TX5) (N := 4) (n := 4) hts inlX5 (hts (.instantiable RX5 4) (by decide +kernel))
  obtain ⟨c6, iS6, hKn6⟩ := u_known (C := RX6) (T := TX6) (N := 6) (n := 6) hts inlX6 (hts (.instantiable RX6 6) (by decide +kernel))
  obtain ⟨c7, iS7, hKn7⟩ := u_known (C := RX7) (T := TX7) (N := 5) (n := 5) hts inlX7 (hts (.instantiable RX7 5) (by decide +kernel))
  obtain ⟨c8, iS8, hKn8⟩ := u_known (C := RX8) (T := TX8) (N := 12) (n := 12) hts inlX8 (hts (.instantiable RX8 12) (by decide +kernel))
  obtain ⟨c9, iS9, hKn9⟩ := u_known (C := RX9) (T := TX9) (N := 46) (n := 46) hts inlX9 (hts (.instantiable RX9 46) (by decide +kernel))
  obtain ⟨cI, kI, mI, i1, i2, i3⟩ := Cond.arrayClass_spec (hts (.arrayClass .int) (by decide +kernel))
  obtain ⟨cJ, kJ, mJ, j1, j2, j3⟩ := Cond.arrayClass_spec (hts (.arrayClass .long) (by decide +kernel))
  obtain ⟨cZ, kZ, mZ, z1, z2, z3⟩ := Cond.arrayClass_spec (hts (.arrayClass .boolean) (by decide +kernel))
  obtain ⟨mM, cM, kM, m0, m1, m2, m3, m4⟩ := Cond.arrayOver_spec (hts0 _ arM_in)
  refine ⟨(fun k => if k = 0 then c0 else if k = 1 then c1 else if k = 2 then c2 else if k = 3 then c3 else if k = 4 then c4 else if k = 5 then c5 else if k = 6 then c6 else if k = 7 then c7 else if k = 8 then c8 else c9, fun k => if k = 0 then iS0 else if k = 1 then iS1 else if k = 2 then iS2 else if k = 3 then iS3 else if k = 4 then iS4 else if k = 5 then iS5 else if k = 6 then iS6 else if k = 7 then iS7 else if k = 8 then iS8 else iS9), cI, cJ, cZ, cM, ⟨?_, ?_⟩, ?_, ?_, ?_⟩
  · intro k q hq
    match k, hq with
    | 0, hq => cases hq; exact hKn0
    | 1, hq => cases hq; exact hKn1
    | 2, hq => cases hq; exact hKn2
    | 3, hq => cases hq; exact hKn3
    | 4, hq => cases hq; exact hKn4
    | 5, hq => cases hq; exact hKn5
    | 6, hq => cases hq; exact hKn6
    | 7, hq => cases hq; exact hKn7
    | 8, hq => cases hq; exact hKn8
    | 9, hq => cases hq; exact hKn9
    | k + 10, hq => simp [vwCl] at hq
  · intro k q hq
    match k, hq with
    | 0, hq => cases hq; exact ⟨fun n z => ⟨fun k h => (by cases h), kI, i2, mI, i3⟩, i1⟩
    | 1, hq => cases hq; exact ⟨fun n z => ⟨fun k h => (by cases h), kJ, j2, mJ, j3⟩, j1⟩
    | 2, hq => cases hq; exact ⟨fun n z => ⟨fun k h => (by cases h), kZ, z2, mZ, z3⟩, z1⟩
    | 3, hq => cases hq; exact ⟨fun n z => ⟨fun k h => (by cases h), kM, m2, mM, m3⟩, kM, mM, m2, m3, m0, m4⟩
    | k + 4, hq => simp [TY] at hq
  · exact fun q hq => va_Nw.of rfl (hts0 _ (nlF_in _ (List.mem_map.mpr ⟨q, hq, rfl⟩)))
  · exact fun q hq => va_Nw.of rfl (hts0 _ (nlM_in _ (List.mem_map.mpr ⟨q, hq, rfl⟩)))
  · exact va_AO.of (hts0 _ arM_in)
set_option maxHeartbeats 4000000 in
set_option maxRecDepth 100000 in
/-- THE LAW, from its entry -/
theorem whole_start {p : Program} {e : Env} {s : State} {m : MethodId} {below : List Frame} {meth : Method} {c : Code} (l : Launch) {b L : Nat} {xs : Nat → Int32} (hL : L ≤ 7) (C0 : lw_At p s m meth c b L xs) : W p l e room_1 s m #[Value.ref b] below meth c s.heap [] 0 0 (lw_Z below #[Value.ref b] s) (entryFrame m ([Value.ref b] : List Value).toArray 4) := by
  obtain ⟨hx, hb, hr, hml, hown, hts0, hX, hbl, hlocks, hgv⟩ := id C0
  have hts := fun w h => hts0 w (wsL_law_in w h)
  obtain ⟨D, cI, cJ, cZ, cM, hG⟩ := gk_start hts0
  have hK := hG.1
  have hN := hG.2
  obtain ⟨A, hA, hA2⟩ : ∃ A : Nat → Prop, (∀ q : Nat, s.heap.size ≤ q → A q) ∧ (∀ q : Nat, A q → s.heap.size ≤ q) := ⟨fun q => s.heap.size ≤ q, fun _ h => h, fun _ h => h⟩
  have hbA : ¬ A b := fun h => Nat.not_le.mpr hbl (hA2 _ h)
  have hS : va_S A s.heap s.heap [] := va_S.rf
  have hP : va_P D vwCl [] s.heap := fun k q h => by simp at h
  have hD : va_D A [] := ⟨fun i j p q h => by simp at h, fun k q h => by simp at h⟩
  have hl := lv_entry ([.ref b]) (n := 4) (Nat.le_of_ble_eq_true rfl)
  rw [lg_entry_eq]
  generalize (lg_sl ([.ref b]) ++ List.replicate (4 - (lg_sl ([.ref b])).length) Slot.unset).toArray = ls at hl ⊢
  have hl : lv_has ls 4 [(0, .ref b)] := hl
  refine va_new (ci := 8) (fs := [.null, .null, .null, .null, .null, .null, .null, .null, .int 0, .int 0, .int 0, .int 0]) (C := RX8) (T := TX8) (N := 12) hx hb hts inlX8 tyX8 tyX8_ok hown (hts (.classLink RL 7 RX8) (by decide +kernel)) (hts (.instantiable RX8 12) (by decide +kernel)) (hts (.initialized RX8) (by decide +kernel)) hK hP hD hS hA rfl (fun j hj => by rcases (show j = 0 ∨ j = 1 ∨ j = 2 ∨ j = 3 ∨ j = 4 ∨ j = 5 ∨ j = 6 ∨ j = 7 ∨ j = 8 ∨ j = 9 ∨ j = 10 ∨ j = 11 by omega) with rfl | rfl | rfl | rfl | rfl | rfl | rfl | rfl | rfl | rfl | rfl | rfl <;> rfl) (Nat.le_of_ble_eq_true rfl) (Nat.le_of_ble_eq_true rfl) dL_law_0 (fun q1 H hP hD hS => ?_)
  have hP : va_P D vwCl [(q1, .inr (8, [.null, .null, .null, .null, .null, .null, .null, .null, .int 0, .int 0, .int 0, .int 0]))] H := hP
  have hD : va_D A [(q1, .inr (8, [.null, .null, .null, .null, .null, .null, .null, .null, .int 0, .int 0, .int 0, .int 0]))] := hD
  refine W.widen (k := 1) (n := 12) (by decide) (by decide) ?_
  refine lv_dup hx hb dL_law_3 rfl ?_
  have hPc := hP.sub (ws' := [(q1, .inr (8, [.null, .null, .null, .null, .null, .null, .null, .null, .int 0, .int 0, .int 0, .int 0]))]) [0] rfl
  have hDc := hD.sub (ws' := [(q1, .inr (8, [.null, .null, .null, .null, .null, .null, .null, .null, .int 0, .int 0, .int 0, .int 0]))]) [0] (by decide) rfl
  have hFc := va_free (wc := [(q1, .inr (8, [.null, .null, .null, .null, .null, .null, .null, .null, .int 0, .int 0, .int 0, .int 0]))]) hD hS hA [0] rfl
  refine va_callv (va_runI (As := []) (rest := [.ref q1]) ⟨hx, hb, hml, hown, hts⟩ (k_X8_init l D cI cJ cZ cM q1 _) (cwI 0 hts gL_law_X8_init rfl rfl rfl (hts (.initialized RX8) (by decide +kernel)) (hts (.methodLink RL 9 yX8_init) (by decide +kernel)) (hts (.instanceMethod yX8_init) (by decide +kernel)) rfl (by decide +kernel) ⟨Nat.le_of_ble_eq_true rfl, Nat.le_of_ble_eq_true rfl⟩) (rw_S hG hPc hDc) rfl rfl hl.1 rfl (lv_room (Nat.le_of_ble_eq_true rfl)) dL_law_4 ⟨Nat.le_of_ble_eq_true rfl, Nat.le_of_ble_eq_true rfl⟩) hS (fun q _ h => hFc q h) hFc (fun u_2 t_2 H1 locs ht hvm hw hB hz1 hk1 hS => ?_)
  obtain ⟨a_2, rfl⟩ : ∃ z, z = u_2 := ⟨_, rfl⟩
  obtain ⟨hP1, hD1⟩ := hB
  rw [ht] at hP1
  obtain ⟨hP, hD⟩ := va_join (wr := []) (w1 := [(q1, .inr (8, [.ref (a_2 1), .ref (a_2 2), .ref (a_2 3), .ref (a_2 4), .ref (a_2 5), .ref (a_2 6), .ref (a_2 7), .null, .int 0, .int 0, .int 0, .int 0])), (a_2 1, .inl (cI, 1600, .inl (fun _ => 0))), (a_2 2, .inl (cM, 10, .inr (.inr (.inr (.inr (fun _ => none)))))), (a_2 3, .inl (cI, 48, .inl (fun _ => 0))), (a_2 4, .inr (7, [.ref (a_2 8), .ref (a_2 9), .ref (a_2 10), .ref (a_2 11), .int 0])), (a_2 8, .inl (cI, 100, .inl (fun _ => 0))), (a_2 9, .inl (cI, 100, .inl (fun _ => 0))), (a_2 10, .inl (cI, 100, .inl (fun _ => 0))), (a_2 11, .inl (cI, 100, .inl (fun _ => 0))), (a_2 5, .inr (4, [.ref (a_2 12), .ref (a_2 13), .int 0, .int 0, .int 0, .int 1440, .int 1, .int 0, .int 12, .int 0])), (a_2 12, .inl (cI, 24, .inl (fun _ => 0))), (a_2 13, .inl (cI, 24, .inl (fun _ => 0))), (a_2 6, .inr (6, [.int 0, .int 0, .int 0, .int 0, .int 0, .int 0])), (a_2 7, .inr (3, [.ref (a_2 14), .int 0])), (a_2 14, .inl (cI, 8, .inl (fun _ => 0)))]) hP hD [0] [] rfl rfl (by decide) (by decide) hk1 hFc hP1 hD1
  generalize H1 = H at hP hS ⊢
  have hP : va_P D vwCl [(q1, .inr (8, [.ref (a_2 1), .ref (a_2 2), .ref (a_2 3), .ref (a_2 4), .ref (a_2 5), .ref (a_2 6), .ref (a_2 7), .null, .int 0, .int 0, .int 0, .int 0])), (a_2 1, .inl (cI, 1600, .inl (fun _ => 0))), (a_2 2, .inl (cM, 10, .inr (.inr (.inr (.inr (fun _ => none)))))), (a_2 3, .inl (cI, 48, .inl (fun _ => 0))), (a_2 4, .inr (7, [.ref (a_2 8), .ref (a_2 9), .ref (a_2 10), .ref (a_2 11), .int 0])), (a_2 8, .inl (cI, 100, .inl (fun _ => 0))), (a_2 9, .inl (cI, 100, .inl (fun _ => 0))), (a_2 10, .inl (cI, 100, .inl (fun _ => 0))), (a_2 11, .inl (cI, 100, .inl (fun _ => 0))), (a_2 5, .inr (4, [.ref (a_2 12), .ref (a_2 13), .int 0, .int 0, .int 0, .int 1440, .int 1, .int 0, .int 12, .int 0])), (a_2 12, .inl (cI, 24, .inl (fun _ => 0))), (a_2 13, .inl (cI, 24, .inl (fun _ => 0))), (a_2 6, .inr (6, [.int 0, .int 0, .int 0, .int 0, .int 0, .int 0])), (a_2 7, .inr (3, [.ref (a_2 14), .int 0])), (a_2 14, .inl (cI, 8, .inl (fun _ => 0)))] H := hP
  have hD : va_D A [(q1, .inr (8, [.ref (a_2 1), .ref (a_2 2), .ref (a_2 3), .ref (a_2 4), .ref (a_2 5), .ref (a_2 6), .ref (a_2 7), .null, .int 0, .int 0, .int 0, .int 0])), (a_2 1, .inl (cI, 1600, .inl (fun _ => 0))), (a_2 2, .inl (cM, 10, .inr (.inr (.inr (.inr (fun _ => none)))))), (a_2 3, .inl (cI, 48, .inl (fun _ => 0))), (a_2 4, .inr (7, [.ref (a_2 8), .ref (a_2 9), .ref (a_2 10), .ref (a_2 11), .int 0])), (a_2 8, .inl (cI, 100, .inl (fun _ => 0))), (a_2 9, .inl (cI, 100, .inl (fun _ => 0))), (a_2 10, .inl (cI, 100, .inl (fun _ => 0))), (a_2 11, .inl (cI, 100, .inl (fun _ => 0))), (a_2 5, .inr (4, [.ref (a_2 12), .ref (a_2 13), .int 0, .int 0, .int 0, .int 1440, .int 1, .int 0, .int 12, .int 0])), (a_2 12, .inl (cI, 24, .inl (fun _ => 0))), (a_2 13, .inl (cI, 24, .inl (fun _ => 0))), (a_2 6, .inr (6, [.int 0, .int 0, .int 0, .int 0, .int 0, .int 0])), (a_2 7, .inr (3, [.ref (a_2 14), .int 0])), (a_2 14, .inl (cI, 8, .inl (fun _ => 0)))] := hD
  refine W.widen (k := 15) (n := 2149) (by decide) (by decide) ?_
  refine lv_astore_n (lv' := [(1, .ref q1), (0, .ref b)]) hx hb dL_law_7 rfl hl (by decide) rfl (fun ls hl => ?_)
  refine va_new (ci := 9) (fs := [.null, .int 0, .null, .null, .null, .null, .null, .int 0, .null, .null, .null, .null, .null, .null, .null, .int 0, .int 0, .null, .null, .null, .null, .null, .null, .null, .null, .null, .int 0, .int 0, .int 0, .int 0, .int 0, .int 0, .int 0, .int 0, .null, .null, .int 0, .int 0, .int 0, .null, .null, .null, .null, .int 0, .int 0, .int 0]) (C := RX9) (T := TX9) (N := 46) hx hb hts inlX9 tyX9 tyX9_ok hown (hts (.classLink RL 10 RX9) (by decide +kernel)) (hts (.instantiable RX9 46) (by decide +kernel)) (hts (.initialized RX9) (by decide +kernel)) hK hP hD hS hA rfl (fun j hj => by rcases (show j = 0 ∨ j = 1 ∨ j = 2 ∨ j = 3 ∨ j = 4 ∨ j = 5 ∨ j = 6 ∨ j = 7 ∨ j = 8 ∨ j = 9 ∨ j = 10 ∨ j = 11 ∨ j = 12 ∨ j = 13 ∨ j = 14 ∨ j = 15 ∨ j = 16 ∨ j = 17 ∨ j = 18 ∨ j = 19 ∨ j = 20 ∨ j = 21 ∨ j = 22 ∨ j = 23 ∨ j = 24 ∨ j = 25 ∨ j = 26 ∨ j = 27 ∨ j = 28 ∨ j = 29 ∨ j = 30 ∨ j = 31 ∨ j = 32 ∨ j = 33 ∨ j = 34 ∨ j = 35 ∨ j = 36 ∨ j = 37 ∨ j = 38 ∨ j = 39 ∨ j = 40 ∨ j = 41 ∨ j = 42 ∨ j = 43 ∨ j = 44 ∨ j = 45 by omega) with rfl | rfl | rfl | rfl | rfl | rfl | rfl | rfl | rfl | rfl | rfl | rfl | rfl | rfl | rfl | rfl | rfl | rfl | rfl | rfl | rfl | rfl | rfl | rfl | rfl | rfl | rfl | rfl | rfl | rfl | rfl | rfl | rfl | rfl | rfl | rfl | rfl | rfl | rfl | rfl | rfl | rfl | rfl | rfl | rfl | rfl <;> rfl) (Nat.le_of_ble_eq_true rfl) (Nat.le_of_ble_eq_true rfl) dL_law_8 (fun q3 H hP hD hS => ?_)
  have hP : va_P D vwCl [(q1, .inr (8, [.ref (a_2 1), .ref (a_2 2), .ref (a_2 3), .ref (a_2 4), .ref (a_2 5), .ref (a_2 6), .ref (a_2 7), .null, .int 0, .int 0, .int 0, .int 0])), (a_2 1, .inl (cI, 1600, .inl (fun _ => 0))), (a_2 2, .inl (cM, 10, .inr (.inr (.inr (.inr (fun _ => none)))))), (a_2 3, .inl (cI, 48, .inl (fun _ => 0))), (a_2 4, .inr (7, [.ref (a_2 8), .ref (a_2 9), .ref (a_2 10), .ref (a_2 11), .int 0])), (a_2 8, .inl (cI, 100, .inl (fun _ => 0))), (a_2 9, .inl (cI, 100, .inl (fun _ => 0))), (a_2 10, .inl (cI, 100, .inl (fun _ => 0))), (a_2 11, .inl (cI, 100, .inl (fun _ => 0))), (a_2 5, .inr (4, [.ref (a_2 12), .ref (a_2 13), .int 0, .int 0, .int 0, .int 1440, .int 1, .int 0, .int 12, .int 0])), (a_2 12, .inl (cI, 24, .inl (fun _ => 0))), (a_2 13, .inl (cI, 24, .inl (fun _ => 0))), (a_2 6, .inr (6, [.int 0, .int 0, .int 0, .int 0, .int 0, .int 0])), (a_2 7, .inr (3, [.ref (a_2 14), .int 0])), (a_2 14, .inl (cI, 8, .inl (fun _ => 0))), (q3, .inr (9, [.null, .int 0, .null, .null, .null, .null, .null, .int 0, .null, .null, .null, .null, .null, .null, .null, .int 0, .int 0, .null, .null, .null, .null, .null, .null, .null, .null, .null, .int 0, .int 0, .int 0, .int 0, .int 0, .int 0, .int 0, .int 0, .null, .null, .int 0, .int 0, .int 0, .null, .null, .null, .null, .int 0, .int 0, .int 0]))] H := hP
  have hD : va_D A [(q1, .inr (8, [.ref (a_2 1), .ref (a_2 2), .ref (a_2 3), .ref (a_2 4), .ref (a_2 5), .ref (a_2 6), .ref (a_2 7), .null, .int 0, .int 0, .int 0, .int 0])), (a_2 1, .inl (cI, 1600, .inl (fun _ => 0))), (a_2 2, .inl (cM, 10, .inr (.inr (.inr (.inr (fun _ => none)))))), (a_2 3, .inl (cI, 48, .inl (fun _ => 0))), (a_2 4, .inr (7, [.ref (a_2 8), .ref (a_2 9), .ref (a_2 10), .ref (a_2 11), .int 0])), (a_2 8, .inl (cI, 100, .inl (fun _ => 0))), (a_2 9, .inl (cI, 100, .inl (fun _ => 0))), (a_2 10, .inl (cI, 100, .inl (fun _ => 0))), (a_2 11, .inl (cI, 100, .inl (fun _ => 0))), (a_2 5, .inr (4, [.ref (a_2 12), .ref (a_2 13), .int 0, .int 0, .int 0, .int 1440, .int 1, .int 0, .int 12, .int 0])), (a_2 12, .inl (cI, 24, .inl (fun _ => 0))), (a_2 13, .inl (cI, 24, .inl (fun _ => 0))), (a_2 6, .inr (6, [.int 0, .int 0, .int 0, .int 0, .int 0, .int 0])), (a_2 7, .inr (3, [.ref (a_2 14), .int 0])), (a_2 14, .inl (cI, 8, .inl (fun _ => 0))), (q3, .inr (9, [.null, .int 0, .null, .null, .null, .null, .null, .int 0, .null, .null, .null, .null, .null, .null, .null, .int 0, .int 0, .null, .null, .null, .null, .null, .null, .null, .null, .null, .int 0, .int 0, .int 0, .int 0, .int 0, .int 0, .int 0, .int 0, .null, .null, .int 0, .int 0, .int 0, .null, .null, .null, .null, .int 0, .int 0, .int 0]))] := hD
  refine W.widen (k := 16) (n := 2195) (by decide) (by decide) ?_
  refine lv_dup hx hb dL_law_11 rfl ?_
  have hPc := hP.sub (ws' := [(q3, .inr (9, [.null, .int 0, .null, .null, .null, .null, .null, .int 0, .null, .null, .null, .null, .null, .null, .null, .int 0, .int 0, .null, .null, .null, .null, .null, .null, .null, .null, .null, .int 0, .int 0, .int 0, .int 0, .int 0, .int 0, .int 0, .int 0, .null, .null, .int 0, .int 0, .int 0, .null, .null, .null, .null, .int 0, .int 0, .int 0]))]) [15] rfl
  have hDc := hD.sub (ws' := [(q3, .inr (9, [.null, .int 0, .null, .null, .null, .null, .null, .int 0, .null, .null, .null, .null, .null, .null, .null, .int 0, .int 0, .null, .null, .null, .null, .null, .null, .null, .null, .null, .int 0, .int 0, .int 0, .int 0, .int 0, .int 0, .int 0, .int 0, .null, .null, .int 0, .int 0, .int 0, .null, .null, .null, .null, .int 0, .int 0, .int 0]))]) [15] (by decide) rfl
  have hFc := va_free (wc := [(q3, .inr (9, [.null, .int 0, .null, .null, .null, .null, .null, .int 0, .null, .null, .null, .null, .null, .null, .null, .int 0, .int 0, .null, .null, .null, .null, .null, .null, .null, .null, .null, .int 0, .int 0, .int 0, .int 0, .int 0, .int 0, .int 0, .int 0, .null, .null, .int 0, .int 0, .int 0, .null, .null, .null, .null, .int 0, .int 0, .int 0]))]) hD hS hA [15] rfl
  refine va_callv (va_runI (As := []) (rest := [.ref q3]) ⟨hx, hb, hml, hown, hts⟩ (k_X9_init l D cI cJ cZ cM q3 _) (cwI 0 hts gL_law_X9_init rfl rfl rfl (hts (.initialized RX9) (by decide +kernel)) (hts (.methodLink RL 12 yX9_init) (by decide +kernel)) (hts (.instanceMethod yX9_init) (by decide +kernel)) rfl (by decide +kernel) ⟨Nat.le_of_ble_eq_true rfl, Nat.le_of_ble_eq_true rfl⟩) (rw_S hG hPc hDc) rfl rfl hl.1 rfl (lv_room (Nat.le_of_ble_eq_true rfl)) dL_law_12 ⟨Nat.le_of_ble_eq_true rfl, Nat.le_of_ble_eq_true rfl⟩) hS (fun q _ h => hFc q h) hFc (fun u_4 t_4 H1 locs ht hvm hw hB hz1 hk1 hS => ?_)
  obtain ⟨n_4, fc_4⟩ := u_4
  obtain ⟨hP1, hD1⟩ := hB
  rw [ht] at hP1
  obtain ⟨hP, hD⟩ := va_join (wr := [(q1, .inr (8, [.ref (a_2 1), .ref (a_2 2), .ref (a_2 3), .ref (a_2 4), .ref (a_2 5), .ref (a_2 6), .ref (a_2 7), .null, .int 0, .int 0, .int 0, .int 0])), (a_2 1, .inl (cI, 1600, .inl (fun _ => 0))), (a_2 2, .inl (cM, 10, .inr (.inr (.inr (.inr (fun _ => none)))))), (a_2 3, .inl (cI, 48, .inl (fun _ => 0))), (a_2 4, .inr (7, [.ref (a_2 8), .ref (a_2 9), .ref (a_2 10), .ref (a_2 11), .int 0])), (a_2 8, .inl (cI, 100, .inl (fun _ => 0))), (a_2 9, .inl (cI, 100, .inl (fun _ => 0))), (a_2 10, .inl (cI, 100, .inl (fun _ => 0))), (a_2 11, .inl (cI, 100, .inl (fun _ => 0))), (a_2 5, .inr (4, [.ref (a_2 12), .ref (a_2 13), .int 0, .int 0, .int 0, .int 1440, .int 1, .int 0, .int 12, .int 0])), (a_2 12, .inl (cI, 24, .inl (fun _ => 0))), (a_2 13, .inl (cI, 24, .inl (fun _ => 0))), (a_2 6, .inr (6, [.int 0, .int 0, .int 0, .int 0, .int 0, .int 0])), (a_2 7, .inr (3, [.ref (a_2 14), .int 0])), (a_2 14, .inl (cI, 8, .inl (fun _ => 0)))]) (w1 := [(q3, .inr (9, [.ref (n_4 0), .int 0, .ref (n_4 2), .ref (n_4 3), .ref (n_4 4), .ref (n_4 5), .ref (n_4 6), .int 0, .ref (n_4 8), .ref (n_4 9), .ref (n_4 10), .ref (n_4 11), .ref (n_4 12), .ref (n_4 13), .ref (n_4 14), .int 0, .int 0, .ref (n_4 17), .ref (n_4 18), .ref (n_4 19), .ref (n_4 20), .ref (n_4 21), .ref (n_4 22), .ref (n_4 23), .ref (n_4 24), .ref (n_4 25), .int 1, .int 0, .int 12, .int 0, .int 0, .int 0, .int 0, .int 1440, .ref (n_4 34), .ref (n_4 35), .int 0, .int 0, .int 0, .ref (n_4 39), .ref (n_4 40), .ref (n_4 41), .ref (n_4 42), .int 0, .int 0, .int 0])), (n_4 0, .inl (cI, 1600, .inl (fun _ => 0))), (n_4 2, .inl (cI, 10, .inl (fun _ => 0))), (n_4 3, .inl (cI, 10, .inl (fun _ => 0))), (n_4 4, .inl (cI, 10, .inl (fun _ => 0))), (n_4 5, .inl (cZ, 16000, .inl (fun _ => 0))), (n_4 6, .inl (cZ, 10, .inl (fun _ => 0))), (n_4 8, .inl (cI, 10, .inl fc_4)), (n_4 9, .inl (cI, 10, .inl (fun _ => 0))), (n_4 10, .inl (cI, 10, .inl (fun _ => 0))), (n_4 11, .inl (cI, 10, .inl (fun _ => 0))), (n_4 12, .inl (cI, 48, .inl (fun _ => 0))), (n_4 13, .inl (cI, 10, .inl (fun _ => 0))), (n_4 14, .inl (cI, 80, .inl (fun _ => 0))), (n_4 17, .inl (cI, 100, .inl (fun _ => 0))), (n_4 18, .inl (cI, 100, .inl (fun _ => 0))), (n_4 19, .inl (cI, 100, .inl (fun _ => 0))), (n_4 20, .inl (cI, 100, .inl (fun _ => 0))), (n_4 21, .inl (cI, 10, .inl (fun _ => 0))), (n_4 22, .inl (cI, 10, .inl (fun _ => 0))), (n_4 23, .inl (cI, 10, .inl (fun _ => 0))), (n_4 24, .inl (cI, 24, .inl (fun _ => 0))), (n_4 25, .inl (cI, 24, .inl (fun _ => 0))), (n_4 34, .inl (cI, 8, .inl (fun _ => 0))), (n_4 35, .inl (cI, 10240, .inl (fun _ => 0))), (n_4 39, .inl (cI, 10, .inl (fun _ => 0))), (n_4 40, .inl (cI, 10, .inl (fun _ => 0))), (n_4 41, .inl (cI, 1024, .inl (fun _ => 0))), (n_4 42, .inl (cI, 1024, .inl (fun _ => 0)))]) hP hD [15] [0, 1, 2, 3, 4, 5, 6, 7, 8, 9, 10, 11, 12, 13, 14] rfl rfl (by decide) (by decide) hk1 hFc hP1 hD1
  generalize H1 = H at hP hS ⊢
  have hP : va_P D vwCl [(q1, .inr (8, [.ref (a_2 1), .ref (a_2 2), .ref (a_2 3), .ref (a_2 4), .ref (a_2 5), .ref (a_2 6), .ref (a_2 7), .null, .int 0, .int 0, .int 0, .int 0])), (a_2 1, .inl (cI, 1600, .inl (fun _ => 0))), (a_2 2, .inl (cM, 10, .inr (.inr (.inr (.inr (fun _ => none)))))), (a_2 3, .inl (cI, 48, .inl (fun _ => 0))), (a_2 4, .inr (7, [.ref (a_2 8), .ref (a_2 9), .ref (a_2 10), .ref (a_2 11), .int 0])), (a_2 8, .inl (cI, 100, .inl (fun _ => 0))), (a_2 9, .inl (cI, 100, .inl (fun _ => 0))), (a_2 10, .inl (cI, 100, .inl (fun _ => 0))), (a_2 11, .inl (cI, 100, .inl (fun _ => 0))), (a_2 5, .inr (4, [.ref (a_2 12), .ref (a_2 13), .int 0, .int 0, .int 0, .int 1440, .int 1, .int 0, .int 12, .int 0])), (a_2 12, .inl (cI, 24, .inl (fun _ => 0))), (a_2 13, .inl (cI, 24, .inl (fun _ => 0))), (a_2 6, .inr (6, [.int 0, .int 0, .int 0, .int 0, .int 0, .int 0])), (a_2 7, .inr (3, [.ref (a_2 14), .int 0])), (a_2 14, .inl (cI, 8, .inl (fun _ => 0))), (q3, .inr (9, [.ref (n_4 0), .int 0, .ref (n_4 2), .ref (n_4 3), .ref (n_4 4), .ref (n_4 5), .ref (n_4 6), .int 0, .ref (n_4 8), .ref (n_4 9), .ref (n_4 10), .ref (n_4 11), .ref (n_4 12), .ref (n_4 13), .ref (n_4 14), .int 0, .int 0, .ref (n_4 17), .ref (n_4 18), .ref (n_4 19), .ref (n_4 20), .ref (n_4 21), .ref (n_4 22), .ref (n_4 23), .ref (n_4 24), .ref (n_4 25), .int 1, .int 0, .int 12, .int 0, .int 0, .int 0, .int 0, .int 1440, .ref (n_4 34), .ref (n_4 35), .int 0, .int 0, .int 0, .ref (n_4 39), .ref (n_4 40), .ref (n_4 41), .ref (n_4 42), .int 0, .int 0, .int 0])), (n_4 0, .inl (cI, 1600, .inl (fun _ => 0))), (n_4 2, .inl (cI, 10, .inl (fun _ => 0))), (n_4 3, .inl (cI, 10, .inl (fun _ => 0))), (n_4 4, .inl (cI, 10, .inl (fun _ => 0))), (n_4 5, .inl (cZ, 16000, .inl (fun _ => 0))), (n_4 6, .inl (cZ, 10, .inl (fun _ => 0))), (n_4 8, .inl (cI, 10, .inl fc_4)), (n_4 9, .inl (cI, 10, .inl (fun _ => 0))), (n_4 10, .inl (cI, 10, .inl (fun _ => 0))), (n_4 11, .inl (cI, 10, .inl (fun _ => 0))), (n_4 12, .inl (cI, 48, .inl (fun _ => 0))), (n_4 13, .inl (cI, 10, .inl (fun _ => 0))), (n_4 14, .inl (cI, 80, .inl (fun _ => 0))), (n_4 17, .inl (cI, 100, .inl (fun _ => 0))), (n_4 18, .inl (cI, 100, .inl (fun _ => 0))), (n_4 19, .inl (cI, 100, .inl (fun _ => 0))), (n_4 20, .inl (cI, 100, .inl (fun _ => 0))), (n_4 21, .inl (cI, 10, .inl (fun _ => 0))), (n_4 22, .inl (cI, 10, .inl (fun _ => 0))), (n_4 23, .inl (cI, 10, .inl (fun _ => 0))), (n_4 24, .inl (cI, 24, .inl (fun _ => 0))), (n_4 25, .inl (cI, 24, .inl (fun _ => 0))), (n_4 34, .inl (cI, 8, .inl (fun _ => 0))), (n_4 35, .inl (cI, 10240, .inl (fun _ => 0))), (n_4 39, .inl (cI, 10, .inl (fun _ => 0))), (n_4 40, .inl (cI, 10, .inl (fun _ => 0))), (n_4 41, .inl (cI, 1024, .inl (fun _ => 0))), (n_4 42, .inl (cI, 1024, .inl (fun _ => 0)))] H := hP
  have hD : va_D A [(q1, .inr (8, [.ref (a_2 1), .ref (a_2 2), .ref (a_2 3), .ref (a_2 4), .ref (a_2 5), .ref (a_2 6), .ref (a_2 7), .null, .int 0, .int 0, .int 0, .int 0])), (a_2 1, .inl (cI, 1600, .inl (fun _ => 0))), (a_2 2, .inl (cM, 10, .inr (.inr (.inr (.inr (fun _ => none)))))), (a_2 3, .inl (cI, 48, .inl (fun _ => 0))), (a_2 4, .inr (7, [.ref (a_2 8), .ref (a_2 9), .ref (a_2 10), .ref (a_2 11), .int 0])), (a_2 8, .inl (cI, 100, .inl (fun _ => 0))), (a_2 9, .inl (cI, 100, .inl (fun _ => 0))), (a_2 10, .inl (cI, 100, .inl (fun _ => 0))), (a_2 11, .inl (cI, 100, .inl (fun _ => 0))), (a_2 5, .inr (4, [.ref (a_2 12), .ref (a_2 13), .int 0, .int 0, .int 0, .int 1440, .int 1, .int 0, .int 12, .int 0])), (a_2 12, .inl (cI, 24, .inl (fun _ => 0))), (a_2 13, .inl (cI, 24, .inl (fun _ => 0))), (a_2 6, .inr (6, [.int 0, .int 0, .int 0, .int 0, .int 0, .int 0])), (a_2 7, .inr (3, [.ref (a_2 14), .int 0])), (a_2 14, .inl (cI, 8, .inl (fun _ => 0))), (q3, .inr (9, [.ref (n_4 0), .int 0, .ref (n_4 2), .ref (n_4 3), .ref (n_4 4), .ref (n_4 5), .ref (n_4 6), .int 0, .ref (n_4 8), .ref (n_4 9), .ref (n_4 10), .ref (n_4 11), .ref (n_4 12), .ref (n_4 13), .ref (n_4 14), .int 0, .int 0, .ref (n_4 17), .ref (n_4 18), .ref (n_4 19), .ref (n_4 20), .ref (n_4 21), .ref (n_4 22), .ref (n_4 23), .ref (n_4 24), .ref (n_4 25), .int 1, .int 0, .int 12, .int 0, .int 0, .int 0, .int 0, .int 1440, .ref (n_4 34), .ref (n_4 35), .int 0, .int 0, .int 0, .ref (n_4 39), .ref (n_4 40), .ref (n_4 41), .ref (n_4 42), .int 0, .int 0, .int 0])), (n_4 0, .inl (cI, 1600, .inl (fun _ => 0))), (n_4 2, .inl (cI, 10, .inl (fun _ => 0))), (n_4 3, .inl (cI, 10, .inl (fun _ => 0))), (n_4 4, .inl (cI, 10, .inl (fun _ => 0))), (n_4 5, .inl (cZ, 16000, .inl (fun _ => 0))), (n_4 6, .inl (cZ, 10, .inl (fun _ => 0))), (n_4 8, .inl (cI, 10, .inl fc_4)), (n_4 9, .inl (cI, 10, .inl (fun _ => 0))), (n_4 10, .inl (cI, 10, .inl (fun _ => 0))), (n_4 11, .inl (cI, 10, .inl (fun _ => 0))), (n_4 12, .inl (cI, 48, .inl (fun _ => 0))), (n_4 13, .inl (cI, 10, .inl (fun _ => 0))), (n_4 14, .inl (cI, 80, .inl (fun _ => 0))), (n_4 17, .inl (cI, 100, .inl (fun _ => 0))), (n_4 18, .inl (cI, 100, .inl (fun _ => 0))), (n_4 19, .inl (cI, 100, .inl (fun _ => 0))), (n_4 20, .inl (cI, 100, .inl (fun _ => 0))), (n_4 21, .inl (cI, 10, .inl (fun _ => 0))), (n_4 22, .inl (cI, 10, .inl (fun _ => 0))), (n_4 23, .inl (cI, 10, .inl (fun _ => 0))), (n_4 24, .inl (cI, 24, .inl (fun _ => 0))), (n_4 25, .inl (cI, 24, .inl (fun _ => 0))), (n_4 34, .inl (cI, 8, .inl (fun _ => 0))), (n_4 35, .inl (cI, 10240, .inl (fun _ => 0))), (n_4 39, .inl (cI, 10, .inl (fun _ => 0))), (n_4 40, .inl (cI, 10, .inl (fun _ => 0))), (n_4 41, .inl (cI, 1024, .inl (fun _ => 0))), (n_4 42, .inl (cI, 1024, .inl (fun _ => 0)))] := hD
  refine W.widen (k := 44) (n := 32807) (by decide) (by decide) ?_
  refine lv_astore_n (lv' := [(2, .ref q3), (1, .ref q1), (0, .ref b)]) hx hb dL_law_15 rfl hl (by decide) rfl (fun ls hl => ?_)
  refine lv_iconst (v := 0) hx hb dL_law_16 (by decide) ?_
  refine lv_istore_n (lv' := [(3, .int 0), (2, .ref q3), (1, .ref q1), (0, .ref b)]) hx hb dL_law_17 rfl hl (by decide) rfl (fun ls hl => ?_)
  refine lv_iload_n hx hb dL_law_18 rfl (lv_at hl 0 rfl) ?_
  refine lv_aload_n hx hb dL_law_19 rfl (lv_at hl 3 rfl) ?_
  refine va_slen hx hb hX hbl hbA hS dL_law_20 ?_
  refine lv_bipush (v := 7) hx hb dL_law_21 (by decide) ?_
  refine lv_isub hx hb dL_law_23 ?_
  refine lv_icmp_gt (tgt := 1074) hx hb dL_law_24 (by decide) (fun c_5 => ?_) (fun c_5 => ?_)
  · refine lv_iconst (v := 1) hx hb dL_law_1074 (by decide) ?_
    refine va_forget (fun q hq => hA2 _ (hS.2.2 q hq)) ?_
    refine W.widen (k := 600000) (n := 7302250) (by decide) (by decide) ?_
    exact lw_ret hx hb hr hlocks dL_law_1075
  obtain rfl : L = 7 := by
    rcases Nat.lt_or_ge L 7 with q | q
    · exfalso; revert c_5; rcases (show L = 0 ∨ L = 1 ∨ L = 2 ∨ L = 3 ∨ L = 4 ∨ L = 5 ∨ L = 6 by omega) with rfl | rfl | rfl | rfl | rfl | rfl | rfl <;> decide
    · omega
  refine lv_aload_n hx hb dL_law_27 rfl (lv_at hl 3 rfl) ?_
  refine lv_iload_n hx hb dL_law_28 rfl (lv_at hl 0 rfl) ?_
  refine va_sld hx hb hX hbl hbA hS (vp_in_nI (n := 0) (N := 7) (by decide) (by decide)) dL_law_29 ?_
  refine lv_bipush (v := 31) hx hb dL_law_30 (by decide) ?_
  refine lv_iand hx hb dL_law_32 ?_
  by_cases s_6 : (xs (0 : Int32).toNatClampNeg) &&& 31 = 0
  · refine lv_tableIn (off := 111) (tgt := 144) hx hb dL_law_33 (by rw [s_6]; decide) (by rw [s_6]; decide) (by rw [s_6]; decide) (by decide) ?_
    exact law_0 C0 hG hA hA2 (hP.sub [0, 1, 2, 3, 4, 5, 6, 7, 8, 9, 10, 11, 12, 13, 14, 15, 16, 17, 18, 19, 20, 21, 22, 23, 24, 25, 26, 27, 28, 29, 30, 31, 32, 33, 34, 35, 36, 37, 38, 39, 40, 41, 42, 43] rfl) (hD.sub [0, 1, 2, 3, 4, 5, 6, 7, 8, 9, 10, 11, 12, 13, 14, 15, 16, 17, 18, 19, 20, 21, 22, 23, 24, 25, 26, 27, 28, 29, 30, 31, 32, 33, 34, 35, 36, 37, 38, 39, 40, 41, 42, 43] (by decide) rfl) hS (lv_sub hl [0, 1, 2, 3] rfl)
  by_cases s_7 : (xs (0 : Int32).toNatClampNeg) &&& 31 = 1
  · refine lv_tableIn (off := 174) (tgt := 207) hx hb dL_law_33 (by rw [s_7]; decide) (by rw [s_7]; decide) (by rw [s_7]; decide) (by decide) ?_
    exact law_1 C0 hG hA hA2 (hP.sub [0, 1, 2, 3, 4, 5, 6, 7, 8, 9, 10, 11, 12, 13, 14, 15, 16, 17, 18, 19, 20, 21, 22, 23, 24, 25, 26, 27, 28, 29, 30, 31, 32, 33, 34, 35, 36, 37, 38, 39, 40, 41, 42, 43] rfl) (hD.sub [0, 1, 2, 3, 4, 5, 6, 7, 8, 9, 10, 11, 12, 13, 14, 15, 16, 17, 18, 19, 20, 21, 22, 23, 24, 25, 26, 27, 28, 29, 30, 31, 32, 33, 34, 35, 36, 37, 38, 39, 40, 41, 42, 43] (by decide) rfl) hS (lv_sub hl [0, 1, 2, 3] rfl)
  by_cases s_8 : (xs (0 : Int32).toNatClampNeg) &&& 31 = 2
  · refine lv_tableIn (off := 217) (tgt := 250) hx hb dL_law_33 (by rw [s_8]; decide) (by rw [s_8]; decide) (by rw [s_8]; decide) (by decide) ?_
    exact law_2 C0 hG hA hA2 (hP.sub [0, 1, 2, 3, 4, 5, 6, 7, 8, 9, 10, 11, 12, 13, 14, 15, 16, 17, 18, 19, 20, 21, 22, 23, 24, 25, 26, 27, 28, 29, 30, 31, 32, 33, 34, 35, 36, 37, 38, 39, 40, 41, 42, 43] rfl) (hD.sub [0, 1, 2, 3, 4, 5, 6, 7, 8, 9, 10, 11, 12, 13, 14, 15, 16, 17, 18, 19, 20, 21, 22, 23, 24, 25, 26, 27, 28, 29, 30, 31, 32, 33, 34, 35, 36, 37, 38, 39, 40, 41, 42, 43] (by decide) rfl) hS (lv_sub hl [0, 1, 2, 3] rfl)
  by_cases s_9 : (xs (0 : Int32).toNatClampNeg) &&& 31 = 3
  · refine lv_tableIn (off := 240) (tgt := 273) hx hb dL_law_33 (by rw [s_9]; decide) (by rw [s_9]; decide) (by rw [s_9]; decide) (by decide) ?_
    exact law_3 C0 hG hA hA2 (hP.sub [0, 1, 2, 3, 4, 5, 6, 7, 8, 9, 10, 11, 12, 13, 14, 15, 16, 17, 18, 19, 20, 21, 22, 23, 24, 25, 26, 27, 28, 29, 30, 31, 32, 33, 34, 35, 36, 37, 38, 39, 40, 41, 42, 43] rfl) (hD.sub [0, 1, 2, 3, 4, 5, 6, 7, 8, 9, 10, 11, 12, 13, 14, 15, 16, 17, 18, 19, 20, 21, 22, 23, 24, 25, 26, 27, 28, 29, 30, 31, 32, 33, 34, 35, 36, 37, 38, 39, 40, 41, 42, 43] (by decide) rfl) hS (lv_sub hl [0, 1, 2, 3] rfl)
  by_cases s_10 : (xs (0 : Int32).toNatClampNeg) &&& 31 = 4
  · refine lv_tableIn (off := 315) (tgt := 348) hx hb dL_law_33 (by rw [s_10]; decide) (by rw [s_10]; decide) (by rw [s_10]; decide) (by decide) ?_
    exact law_4 C0 hG hA hA2 (hP.sub [0, 1, 2, 3, 4, 5, 6, 7, 8, 9, 10, 11, 12, 13, 14, 15, 16, 17, 18, 19, 20, 21, 22, 23, 24, 25, 26, 27, 28, 29, 30, 31, 32, 33, 34, 35, 36, 37, 38, 39, 40, 41, 42, 43] rfl) (hD.sub [0, 1, 2, 3, 4, 5, 6, 7, 8, 9, 10, 11, 12, 13, 14, 15, 16, 17, 18, 19, 20, 21, 22, 23, 24, 25, 26, 27, 28, 29, 30, 31, 32, 33, 34, 35, 36, 37, 38, 39, 40, 41, 42, 43] (by decide) rfl) hS (lv_sub hl [0, 1, 2, 3] rfl)
  by_cases s_11 : (xs (0 : Int32).toNatClampNeg) &&& 31 = 5
  · refine lv_tableIn (off := 358) (tgt := 391) hx hb dL_law_33 (by rw [s_11]; decide) (by rw [s_11]; decide) (by rw [s_11]; decide) (by decide) ?_
    exact law_5 C0 hG hA hA2 (hP.sub [0, 1, 2, 3, 4, 5, 6, 7, 8, 9, 10, 11, 12, 13, 14, 15, 16, 17, 18, 19, 20, 21, 22, 23, 24, 25, 26, 27, 28, 29, 30, 31, 32, 33, 34, 35, 36, 37, 38, 39, 40, 41, 42, 43] rfl) (hD.sub [0, 1, 2, 3, 4, 5, 6, 7, 8, 9, 10, 11, 12, 13, 14, 15, 16, 17, 18, 19, 20, 21, 22, 23, 24, 25, 26, 27, 28, 29, 30, 31, 32, 33, 34, 35, 36, 37, 38, 39, 40, 41, 42, 43] (by decide) rfl) hS (lv_sub hl [0, 1, 2, 3] rfl)
  by_cases s_12 : (xs (0 : Int32).toNatClampNeg) &&& 31 = 6
  · refine lv_tableIn (off := 391) (tgt := 424) hx hb dL_law_33 (by rw [s_12]; decide) (by rw [s_12]; decide) (by rw [s_12]; decide) (by decide) ?_
    exact law_6 C0 hG hA hA2 (hP.sub [0, 1, 2, 3, 4, 5, 6, 7, 8, 9, 10, 11, 12, 13, 14, 15, 16, 17, 18, 19, 20, 21, 22, 23, 24, 25, 26, 27, 28, 29, 30, 31, 32, 33, 34, 35, 36, 37, 38, 39, 40, 41, 42, 43] rfl) (hD.sub [0, 1, 2, 3, 4, 5, 6, 7, 8, 9, 10, 11, 12, 13, 14, 15, 16, 17, 18, 19, 20, 21, 22, 23, 24, 25, 26, 27, 28, 29, 30, 31, 32, 33, 34, 35, 36, 37, 38, 39, 40, 41, 42, 43] (by decide) rfl) hS (lv_sub hl [0, 1, 2, 3] rfl)
  by_cases s_13 : (xs (0 : Int32).toNatClampNeg) &&& 31 = 7
  · refine lv_tableIn (off := 414) (tgt := 447) hx hb dL_law_33 (by rw [s_13]; decide) (by rw [s_13]; decide) (by rw [s_13]; decide) (by decide) ?_
    exact law_7 C0 hG hA hA2 (hP.sub [0, 1, 2, 3, 4, 5, 6, 7, 8, 9, 10, 11, 12, 13, 14, 15, 16, 17, 18, 19, 20, 21, 22, 23, 24, 25, 26, 27, 28, 29, 30, 31, 32, 33, 34, 35, 36, 37, 38, 39, 40, 41, 42, 43] rfl) (hD.sub [0, 1, 2, 3, 4, 5, 6, 7, 8, 9, 10, 11, 12, 13, 14, 15, 16, 17, 18, 19, 20, 21, 22, 23, 24, 25, 26, 27, 28, 29, 30, 31, 32, 33, 34, 35, 36, 37, 38, 39, 40, 41, 42, 43] (by decide) rfl) hS (lv_sub hl [0, 1, 2, 3] rfl)
  by_cases s_14 : (xs (0 : Int32).toNatClampNeg) &&& 31 = 8
  · refine lv_tableIn (off := 467) (tgt := 500) hx hb dL_law_33 (by rw [s_14]; decide) (by rw [s_14]; decide) (by rw [s_14]; decide) (by decide) ?_
    exact law_8 C0 hG hA hA2 (hP.sub [0, 1, 2, 3, 4, 5, 6, 7, 8, 9, 10, 11, 12, 13, 14, 15, 16, 17, 18, 19, 20, 21, 22, 23, 24, 25, 26, 27, 28, 29, 30, 31, 32, 33, 34, 35, 36, 37, 38, 39, 40, 41, 42, 43] rfl) (hD.sub [0, 1, 2, 3, 4, 5, 6, 7, 8, 9, 10, 11, 12, 13, 14, 15, 16, 17, 18, 19, 20, 21, 22, 23, 24, 25, 26, 27, 28, 29, 30, 31, 32, 33, 34, 35, 36, 37, 38, 39, 40, 41, 42, 43] (by decide) rfl) hS (lv_sub hl [0, 1, 2, 3] rfl)
  by_cases s_15 : (xs (0 : Int32).toNatClampNeg) &&& 31 = 9
  · refine lv_tableIn (off := 510) (tgt := 543) hx hb dL_law_33 (by rw [s_15]; decide) (by rw [s_15]; decide) (by rw [s_15]; decide) (by decide) ?_
    exact law_9 C0 hG hA hA2 (hP.sub [0, 1, 2, 3, 4, 5, 6, 7, 8, 9, 10, 11, 12, 13, 14, 15, 16, 17, 18, 19, 20, 21, 22, 23, 24, 25, 26, 27, 28, 29, 30, 31, 32, 33, 34, 35, 36, 37, 38, 39, 40, 41, 42, 43] rfl) (hD.sub [0, 1, 2, 3, 4, 5, 6, 7, 8, 9, 10, 11, 12, 13, 14, 15, 16, 17, 18, 19, 20, 21, 22, 23, 24, 25, 26, 27, 28, 29, 30, 31, 32, 33, 34, 35, 36, 37, 38, 39, 40, 41, 42, 43] (by decide) rfl) hS (lv_sub hl [0, 1, 2, 3] rfl)
  by_cases s_16 : (xs (0 : Int32).toNatClampNeg) &&& 31 = 10
  · refine lv_tableIn (off := 543) (tgt := 576) hx hb dL_law_33 (by rw [s_16]; decide) (by rw [s_16]; decide) (by rw [s_16]; decide) (by decide) ?_
    exact law_10 C0 hG hA hA2 (hP.sub [0, 1, 2, 3, 4, 5, 6, 7, 8, 9, 10, 11, 12, 13, 14, 15, 16, 17, 18, 19, 20, 21, 22, 23, 24, 25, 26, 27, 28, 29, 30, 31, 32, 33, 34, 35, 36, 37, 38, 39, 40, 41, 42, 43] rfl) (hD.sub [0, 1, 2, 3, 4, 5, 6, 7, 8, 9, 10, 11, 12, 13, 14, 15, 16, 17, 18, 19, 20, 21, 22, 23, 24, 25, 26, 27, 28, 29, 30, 31, 32, 33, 34, 35, 36, 37, 38, 39, 40, 41, 42, 43] (by decide) rfl) hS (lv_sub hl [0, 1, 2, 3] rfl)
  by_cases s_17 : (xs (0 : Int32).toNatClampNeg) &&& 31 = 11
  · refine lv_tableIn (off := 586) (tgt := 619) hx hb dL_law_33 (by rw [s_17]; decide) (by rw [s_17]; decide) (by rw [s_17]; decide) (by decide) ?_
    exact law_11 C0 hG hA hA2 (hP.sub [0, 1, 2, 3, 4, 5, 6, 7, 8, 9, 10, 11, 12, 13, 14, 15, 16, 17, 18, 19, 20, 21, 22, 23, 24, 25, 26, 27, 28, 29, 30, 31, 32, 33, 34, 35, 36, 37, 38, 39, 40, 41, 42, 43] rfl) (hD.sub [0, 1, 2, 3, 4, 5, 6, 7, 8, 9, 10, 11, 12, 13, 14, 15, 16, 17, 18, 19, 20, 21, 22, 23, 24, 25, 26, 27, 28, 29, 30, 31, 32, 33, 34, 35, 36, 37, 38, 39, 40, 41, 42, 43] (by decide) rfl) hS (lv_sub hl [0, 1, 2, 3] rfl)
  by_cases s_18 : (xs (0 : Int32).toNatClampNeg) &&& 31 = 12
  · refine lv_tableIn (off := 609) (tgt := 642) hx hb dL_law_33 (by rw [s_18]; decide) (by rw [s_18]; decide) (by rw [s_18]; decide) (by decide) ?_
    exact law_12 C0 hG hA hA2 (hP.sub [0, 1, 2, 3, 4, 5, 6, 7, 8, 9, 10, 11, 12, 13, 14, 15, 16, 17, 18, 19, 20, 21, 22, 23, 24, 25, 26, 27, 28, 29, 30, 31, 32, 33, 34, 35, 36, 37, 38, 39, 40, 41, 42, 43] rfl) (hD.sub [0, 1, 2, 3, 4, 5, 6, 7, 8, 9, 10, 11, 12, 13, 14, 15, 16, 17, 18, 19, 20, 21, 22, 23, 24, 25, 26, 27, 28, 29, 30, 31, 32, 33, 34, 35, 36, 37, 38, 39, 40, 41, 42, 43] (by decide) rfl) hS (lv_sub hl [0, 1, 2, 3] rfl)
  by_cases s_19 : (xs (0 : Int32).toNatClampNeg) &&& 31 = 13
  · refine lv_tableIn (off := 642) (tgt := 675) hx hb dL_law_33 (by rw [s_19]; decide) (by rw [s_19]; decide) (by rw [s_19]; decide) (by decide) ?_
    exact law_13 C0 hG hA hA2 (hP.sub [0, 1, 2, 3, 4, 5, 6, 7, 8, 9, 10, 11, 12, 13, 14, 15, 16, 17, 18, 19, 20, 21, 22, 23, 24, 25, 26, 27, 28, 29, 30, 31, 32, 33, 34, 35, 36, 37, 38, 39, 40, 41, 42, 43] rfl) (hD.sub [0, 1, 2, 3, 4, 5, 6, 7, 8, 9, 10, 11, 12, 13, 14, 15, 16, 17, 18, 19, 20, 21, 22, 23, 24, 25, 26, 27, 28, 29, 30, 31, 32, 33, 34, 35, 36, 37, 38, 39, 40, 41, 42, 43] (by decide) rfl) hS (lv_sub hl [0, 1, 2, 3] rfl)
  by_cases s_20 : (xs (0 : Int32).toNatClampNeg) &&& 31 = 14
  · refine lv_tableIn (off := 675) (tgt := 708) hx hb dL_law_33 (by rw [s_20]; decide) (by rw [s_20]; decide) (by rw [s_20]; decide) (by decide) ?_
    exact law_14 C0 hG hA hA2 (hP.sub [0, 1, 2, 3, 4, 5, 6, 7, 8, 9, 10, 11, 12, 13, 14, 15, 16, 17, 18, 19, 20, 21, 22, 23, 24, 25, 26, 27, 28, 29, 30, 31, 32, 33, 34, 35, 36, 37, 38, 39, 40, 41, 42, 43] rfl) (hD.sub [0, 1, 2, 3, 4, 5, 6, 7, 8, 9, 10, 11, 12, 13, 14, 15, 16, 17, 18, 19, 20, 21, 22, 23, 24, 25, 26, 27, 28, 29, 30, 31, 32, 33, 34, 35, 36, 37, 38, 39, 40, 41, 42, 43] (by decide) rfl) hS (lv_sub hl [0, 1, 2, 3] rfl)
  by_cases s_21 : (xs (0 : Int32).toNatClampNeg) &&& 31 = 15
  · refine lv_tableIn (off := 698) (tgt := 731) hx hb dL_law_33 (by rw [s_21]; decide) (by rw [s_21]; decide) (by rw [s_21]; decide) (by decide) ?_
    exact law_15 C0 hG hA hA2 (hP.sub [0, 1, 2, 3, 4, 5, 6, 7, 8, 9, 10, 11, 12, 13, 14, 15, 16, 17, 18, 19, 20, 21, 22, 23, 24, 25, 26, 27, 28, 29, 30, 31, 32, 33, 34, 35, 36, 37, 38, 39, 40, 41, 42, 43] rfl) (hD.sub [0, 1, 2, 3, 4, 5, 6, 7, 8, 9, 10, 11, 12, 13, 14, 15, 16, 17, 18, 19, 20, 21, 22, 23, 24, 25, 26, 27, 28, 29, 30, 31, 32, 33, 34, 35, 36, 37, 38, 39, 40, 41, 42, 43] (by decide) rfl) hS (lv_sub hl [0, 1, 2, 3] rfl)
  by_cases s_22 : (xs (0 : Int32).toNatClampNeg) &&& 31 = 16
  · refine lv_tableIn (off := 721) (tgt := 754) hx hb dL_law_33 (by rw [s_22]; decide) (by rw [s_22]; decide) (by rw [s_22]; decide) (by decide) ?_
    exact law_16 C0 hG hA hA2 (hP.sub [0, 1, 2, 3, 4, 5, 6, 7, 8, 9, 10, 11, 12, 13, 14, 15, 16, 17, 18, 19, 20, 21, 22, 23, 24, 25, 26, 27, 28, 29, 30, 31, 32, 33, 34, 35, 36, 37, 38, 39, 40, 41, 42, 43] rfl) (hD.sub [0, 1, 2, 3, 4, 5, 6, 7, 8, 9, 10, 11, 12, 13, 14, 15, 16, 17, 18, 19, 20, 21, 22, 23, 24, 25, 26, 27, 28, 29, 30, 31, 32, 33, 34, 35, 36, 37, 38, 39, 40, 41, 42, 43] (by decide) rfl) hS (lv_sub hl [0, 1, 2, 3] rfl)
  by_cases s_23 : (xs (0 : Int32).toNatClampNeg) &&& 31 = 17
  · refine lv_tableIn (off := 754) (tgt := 787) hx hb dL_law_33 (by rw [s_23]; decide) (by rw [s_23]; decide) (by rw [s_23]; decide) (by decide) ?_
    exact law_17 C0 hG hA hA2 (hP.sub [0, 1, 2, 3, 4, 5, 6, 7, 8, 9, 10, 11, 12, 13, 14, 15, 16, 17, 18, 19, 20, 21, 22, 23, 24, 25, 26, 27, 28, 29, 30, 31, 32, 33, 34, 35, 36, 37, 38, 39, 40, 41, 42, 43] rfl) (hD.sub [0, 1, 2, 3, 4, 5, 6, 7, 8, 9, 10, 11, 12, 13, 14, 15, 16, 17, 18, 19, 20, 21, 22, 23, 24, 25, 26, 27, 28, 29, 30, 31, 32, 33, 34, 35, 36, 37, 38, 39, 40, 41, 42, 43] (by decide) rfl) hS (lv_sub hl [0, 1, 2, 3] rfl)
  by_cases s_24 : (xs (0 : Int32).toNatClampNeg) &&& 31 = 18
  · refine lv_tableIn (off := 787) (tgt := 820) hx hb dL_law_33 (by rw [s_24]; decide) (by rw [s_24]; decide) (by rw [s_24]; decide) (by decide) ?_
    exact law_18 C0 hG hA hA2 (hP.sub [0, 1, 2, 3, 4, 5, 6, 7, 8, 9, 10, 11, 12, 13, 14, 15, 16, 17, 18, 19, 20, 21, 22, 23, 24, 25, 26, 27, 28, 29, 30, 31, 32, 33, 34, 35, 36, 37, 38, 39, 40, 41, 42, 43] rfl) (hD.sub [0, 1, 2, 3, 4, 5, 6, 7, 8, 9, 10, 11, 12, 13, 14, 15, 16, 17, 18, 19, 20, 21, 22, 23, 24, 25, 26, 27, 28, 29, 30, 31, 32, 33, 34, 35, 36, 37, 38, 39, 40, 41, 42, 43] (by decide) rfl) hS (lv_sub hl [0, 1, 2, 3] rfl)
  by_cases s_25 : (xs (0 : Int32).toNatClampNeg) &&& 31 = 19
  · refine lv_tableIn (off := 840) (tgt := 873) hx hb dL_law_33 (by rw [s_25]; decide) (by rw [s_25]; decide) (by rw [s_25]; decide) (by decide) ?_
    exact law_19 C0 hG hA hA2 (hP.sub [0, 1, 2, 3, 4, 5, 6, 7, 8, 9, 10, 11, 12, 13, 14, 15, 16, 17, 18, 19, 20, 21, 22, 23, 24, 25, 26, 27, 28, 29, 30, 31, 32, 33, 34, 35, 36, 37, 38, 39, 40, 41, 42, 43] rfl) (hD.sub [0, 1, 2, 3, 4, 5, 6, 7, 8, 9, 10, 11, 12, 13, 14, 15, 16, 17, 18, 19, 20, 21, 22, 23, 24, 25, 26, 27, 28, 29, 30, 31, 32, 33, 34, 35, 36, 37, 38, 39, 40, 41, 42, 43] (by decide) rfl) hS (lv_sub hl [0, 1, 2, 3] rfl)
  by_cases s_26 : (xs (0 : Int32).toNatClampNeg) &&& 31 = 20
  · refine lv_tableIn (off := 883) (tgt := 916) hx hb dL_law_33 (by rw [s_26]; decide) (by rw [s_26]; decide) (by rw [s_26]; decide) (by decide) ?_
    exact law_20 C0 hG hA hA2 (hP.sub [0, 1, 2, 3, 4, 5, 6, 7, 8, 9, 10, 11, 12, 13, 14, 15, 16, 17, 18, 19, 20, 21, 22, 23, 24, 25, 26, 27, 28, 29, 30, 31, 32, 33, 34, 35, 36, 37, 38, 39, 40, 41, 42, 43] rfl) (hD.sub [0, 1, 2, 3, 4, 5, 6, 7, 8, 9, 10, 11, 12, 13, 14, 15, 16, 17, 18, 19, 20, 21, 22, 23, 24, 25, 26, 27, 28, 29, 30, 31, 32, 33, 34, 35, 36, 37, 38, 39, 40, 41, 42, 43] (by decide) rfl) hS (lv_sub hl [0, 1, 2, 3] rfl)
  by_cases s_27 : (xs (0 : Int32).toNatClampNeg) &&& 31 = 21
  · refine lv_tableIn (off := 936) (tgt := 969) hx hb dL_law_33 (by rw [s_27]; decide) (by rw [s_27]; decide) (by rw [s_27]; decide) (by decide) ?_
    exact law_21 C0 hG hA hA2 (hP.sub [0, 1, 2, 3, 4, 5, 6, 7, 8, 9, 10, 11, 12, 13, 14, 15, 16, 17, 18, 19, 20, 21, 22, 23, 24, 25, 26, 27, 28, 29, 30, 31, 32, 33, 34, 35, 36, 37, 38, 39, 40, 41, 42, 43] rfl) (hD.sub [0, 1, 2, 3, 4, 5, 6, 7, 8, 9, 10, 11, 12, 13, 14, 15, 16, 17, 18, 19, 20, 21, 22, 23, 24, 25, 26, 27, 28, 29, 30, 31, 32, 33, 34, 35, 36, 37, 38, 39, 40, 41, 42, 43] (by decide) rfl) hS (lv_sub hl [0, 1, 2, 3] rfl)
  by_cases s_28 : (xs (0 : Int32).toNatClampNeg) &&& 31 = 22
  · refine lv_tableIn (off := 989) (tgt := 1022) hx hb dL_law_33 (by rw [s_28]; decide) (by rw [s_28]; decide) (by rw [s_28]; decide) (by decide) ?_
    exact law_22 C0 hG hA hA2 (hP.sub [0, 1, 2, 3, 4, 5, 6, 7, 8, 9, 10, 11, 12, 13, 14, 15, 16, 17, 18, 19, 20, 21, 22, 23, 24, 25, 26, 27, 28, 29, 30, 31, 32, 33, 34, 35, 36, 37, 38, 39, 40, 41, 42, 43] rfl) (hD.sub [0, 1, 2, 3, 4, 5, 6, 7, 8, 9, 10, 11, 12, 13, 14, 15, 16, 17, 18, 19, 20, 21, 22, 23, 24, 25, 26, 27, 28, 29, 30, 31, 32, 33, 34, 35, 36, 37, 38, 39, 40, 41, 42, 43] (by decide) rfl) hS (lv_sub hl [0, 1, 2, 3] rfl)
  by_cases s_29 : (xs (0 : Int32).toNatClampNeg) &&& 31 = 23
  · refine lv_tableIn (off := 1012) (tgt := 1045) hx hb dL_law_33 (by rw [s_29]; decide) (by rw [s_29]; decide) (by rw [s_29]; decide) (by decide) ?_
    exact law_23 C0 hG hA hA2 (hP.sub [0, 1, 2, 3, 4, 5, 6, 7, 8, 9, 10, 11, 12, 13, 14, 15, 16, 17, 18, 19, 20, 21, 22, 23, 24, 25, 26, 27, 28, 29, 30, 31, 32, 33, 34, 35, 36, 37, 38, 39, 40, 41, 42, 43] rfl) (hD.sub [0, 1, 2, 3, 4, 5, 6, 7, 8, 9, 10, 11, 12, 13, 14, 15, 16, 17, 18, 19, 20, 21, 22, 23, 24, 25, 26, 27, 28, 29, 30, 31, 32, 33, 34, 35, 36, 37, 38, 39, 40, 41, 42, 43] (by decide) rfl) hS (lv_sub hl [0, 1, 2, 3] rfl)
  refine lv_tableOut (tgt := 1068) hx hb dL_law_33 (my_out (hi := 23) (fun z hz => by rcases (show z = 0 ∨ z = 1 ∨ z = 2 ∨ z = 3 ∨ z = 4 ∨ z = 5 ∨ z = 6 ∨ z = 7 ∨ z = 8 ∨ z = 9 ∨ z = 10 ∨ z = 11 ∨ z = 12 ∨ z = 13 ∨ z = 14 ∨ z = 15 ∨ z = 16 ∨ z = 17 ∨ z = 18 ∨ z = 19 ∨ z = 20 ∨ z = 21 ∨ z = 22 ∨ z = 23 by omega) with rfl | rfl | rfl | rfl | rfl | rfl | rfl | rfl | rfl | rfl | rfl | rfl | rfl | rfl | rfl | rfl | rfl | rfl | rfl | rfl | rfl | rfl | rfl | rfl <;> assumption) (by decide)) (by decide) ?_
  exact law_end C0 hG hA hA2 hS (by decide) (by decide) (lv_sub hl [3, 0] rfl)
-- ===== YOUR PART ENDS =====
set_option maxHeartbeats 4000000 in
theorem lw_walk (l : Launch) (b : Addr) (xs : List Int32) : MetFree l x (headSpec (Jvm.Cond.code x code maxLocals ret :: tables_1) room_1) (lw_P b xs) (fun _ _ _ _ _ => True) lw_Q := by
  refine MetFree.of_bodyS (code := code) (maxLocals := maxLocals) (ret := ret) (by decide) ?_ ?_
  · intro args s m h hn
    obtain ⟨meth, c, h1, h2, h3, h4, h5, h6, -, -⟩ := Cond.code_spec hn (atoms_spec (ws := Jvm.Cond.code x code maxLocals ret :: tables_1) h _ List.mem_cons_self)
    exact ⟨meth, c, h1, h2, h3, h4, h5, h6⟩
  · intro p e s m args below meth c s₁ B hml0 hP _
    obtain ⟨rfl, hx, hbd, hgv⟩ := hP
    obtain ⟨scr, harrAt, hlist, hof, hsmall⟩ := hx
    obtain ⟨hcb, hkn, -, -⟩ := State.arrayAt?_spec harrAt
    have hown : s.vm.findClass R_law = some m.cls := findClass_of_methodNamed B.named
    have hts0 : ∀ c ∈ (Jvm.Cond.code x code maxLocals ret :: tables_1), c.before #[Value.ref b] s = true := atoms_spec (ws := Jvm.Cond.code x code maxLocals ret :: tables_1) B.pre
    have hts : ∀ w ∈ lw_tbl, w.before #[Value.ref b] s = true := k2_hts_sels lw_privs (fun w hw => hts0 w (List.mem_cons_of_mem _ hw)) lw_privs_ok
    have hml : c.maxLocals = 4 := B.maxLocals_eq (hts0 _ List.mem_cons_self)
    have X₀ : Stand p l e room_1 s m #[Value.ref b] below meth c s₁ [] 0 0 := Stand.of_body B
    have hh0 : s₁.heap = s.heap := by rw [B.state]; rfl
    have hsz : scr.slots.size = xs.length := by rw [← Array.length_toList, hlist, List.length_map]
    have hval : ∀ j : Nat, j < xs.length → scr.slots[j]? = some (.int (xs.getD j 0)) := fun j hj => by
      rw [← Array.getElem?_toList, hlist]
      simp [hj]
    have hbl : b < s.heap.size := (Array.getElem?_eq_some_iff.mp hcb).1
    have hX : va_X b xs.length (fun j => xs.getD j 0) s s.heap := ⟨scr, hcb, hof, hkn, hsz, hval⟩
    have K : W p l e room_1 s m #[Value.ref b] below meth c s₁.heap [] 0 0 (lw_Z below #[Value.ref b] s) (entryFrame m ([Value.ref b] : List Value).toArray 4) := by
      rw [hh0]
      exact whole_start l hbd ⟨B.exec, B.bytes, B.returns, hml, hown, hts, hX, hbl, B.notSynchronized, hgv⟩
    obtain ⟨t, a1, o, b1, b2, b3⟩ := K s₁ rfl X₀
    exact ⟨t, o, a1, b1, b2, b3⟩
theorem lw_pre_spec {args : Array Value} {s : State} (h : (Jvm.Cond.and given_1 narrow_1).before args s = true) (hr : rest_1_c.before args s = true) : ∃ (b : Addr) (xs : List Int32), lw_P b xs args s := by
  have hs := flat_of_before _ h
  have hq := flat_of_before _ hr
  have hc : (Cond.count 1).before args s = true := hs _ (by decide +kernel)
  have harr : (Cond.arrayOf (.arg 0) .int).before args s = true := hs _ (by decide +kernel)
  have hle : (Cond.le (.length (.arg 0)) (.int 7)).before args s = true := hs _ (by decide +kernel)
  have hlen : (Cond.isInt (.length (.arg 0))).before args s = true := hq _ (by decide +kernel)
  have hall : (Cond.all (.arg 0) (.isInt (.elem (.arg 0) (.index 0)))).before args s = true := hq _ (by decide +kernel)
  obtain ⟨b, xs, hb, hx⟩ := State.ints_of_pre rfl harr hlen hall
  have hsm : xs.length < 2 ^ 31 := hx.choose_spec.2.2.2
  have hev : (Term.length (.arg 0)).eval args s none [] s = some (.int xs.length.toInt32) := hx.length_eval hb
  have hv := Cond.le_ints hev (show (Term.int 7).eval args s none [] s = some (.int 7) from rfl)
  have hd : xs.length.toInt32 ≤ 7 := by
    simpa [Cond.before, Cond.holds, hv] using hle
  have hN : xs.length ≤ 7 := (Int32.ofNat_le_ofNat hsm (by decide)).mp (show Int32.ofNat xs.length ≤ Int32.ofNat 7 from hd)
  exact ⟨b, xs, Cond.one_arg hc (show args[0]? = some (.ref b) from hb), hx, hN, h⟩
theorem lw_comes (l : Launch) : Comes l x (Jvm.Cond.code x code maxLocals ret :: tables_1) room_1 (fun tb e args s => Calls_1 tb e args s ∧ rest_1 tb e args s ∧ Pre_1 tb e args s)
    (fun _ _ args s o t => lw_Q args s o t) := by
  intro p e ha hc hk s m args below hf hfit hheap happ hpre
  obtain ⟨b, xs, hP⟩ := lw_pre_spec hpre.2.2 hpre.2.1
  obtain ⟨k, o, h1, h2, h3, hQ⟩ := lw_walk l b xs p e ha hc hk s m args below hf ((Spec.applies_iff_loose hf).mp happ).1 hP trivial
  exact ⟨k, o, h1, h2, h3, hQ⟩
theorem lw_frame {s t : State} {o : Outcome} {args : Array Value} (h : Framed s o t [] 600000 7302250) :
    Framed s o t (fieldLocs frame_1_writes args s ++ arrayLocs frame_1_arrays args s ++ staticLocs frame_1_statics s) 600000 7302250 := h
theorem lw_limb (L : Cond) (hL : ∀ (args : Array Value) (s t : State), L.after args s (.returned (some (.int 1))) t = true) :
    ArmFor flags0 classFile x code maxLocals ret World_1 tables_1 room_1 Calls_1 rest_1 Pre_1
      (fun tb e a s o t => postC L tb e a s o t ∧ Framed s o t (fieldLocs frame_1_writes a s ++ arrayLocs frame_1_arrays a s ++ staticLocs frame_1_statics s) 600000 7302250) := by
  intro l _ _ _ p e ha hc hk s m args below hf hfit hheap happ hpre
  obtain ⟨k, o, h1, h2, h3, rfl, hF⟩ := lw_comes l p e ha hc hk s m args below hf hfit hheap happ hpre
  exact ⟨k, _, h1, h2, h3, hL args s _, lw_frame hF⟩
theorem i_vc : Claimed_1_1 ∧ Claimed_1_2 := ⟨lw_limb limb_1_1 (fun args s t => by simp [limb_1_1, Cond.after, Cond.holds, Cond.value]), lw_limb limb_1_2 (fun args s t => Cond.after_iff.mpr (by
  first | (rw [show limb_1_2 = Cond.eq .result (.int 1) from rfl, Cond.eq_ints (x := 1) (y := 1) rfl rfl]; simp; done) | (simp [limb_1_2, Cond.value, Term.eval]; done)))⟩
