def encP : Nat → Int32
  | 0 => -1
  | k + 1 => nI k
theorem encP_dec (k : Nat) : nI k + (-1) = encP k := by
  cases k with
  | zero => rfl
  | succ k =>
    show nI (k + 1) + (-1) = nI k
    rw [← nI_add k 1, Int32.add_assoc, show nI 1 + (-1) = (0 : Int32) from rfl, Int32.add_zero]
theorem ix_lt {x : Int32} {N : Nat} (h1 : ¬ x < 0) (h2 : ¬ nI N ≤ x) (hN : N < 2 ^ 31) : vp_in x N := by
  obtain ⟨j, hj, rfl⟩ := nI_of h1
  exact vp_in_nI (Nat.lt_of_not_le (fun q => h2 (nI_le q hj))) hN
/-- the cells of mark i: the mark, its sighting and that's row, its chain, its rhythm and that's row -/
def MKc (cI cJ : Nat) (ma : Nat → Nat → Nat) (mv : Nat → Nat → Int32) (mso : Nat → Nat → Int64) (mrs : Nat → Nat → Int32) (i : Nat) : va_W := [(ma i 0, .inr (1, [.int (mv i 0), .int (mv i 1), .int (mv i 2), .ref (ma i 1), .ref (ma i 3), .ref (ma i 4), .int (mv i 3), .int (mv i 4), .int (mv i 5)])), (ma i 1, .inr (5, [.ref (ma i 2), .int (mv i 6), .int (mv i 7), .int (mv i 8)])), (ma i 2, .inl (cJ, 40, .inr (.inl (mso i)))), (ma i 3, .inr (0, [.int (mv i 9), .int (mv i 10), .int (mv i 11), .int (mv i 12), .int (mv i 13)])), (ma i 4, .inr (3, [.ref (ma i 5), .int (mv i 14)])), (ma i 5, .inl (cI, 8, .inl (mrs i)))]
/-- the cells of the first n marks -/
def MG (cI cJ : Nat) (ma : Nat → Nat → Nat) (mv : Nat → Nat → Int32) (mso : Nat → Nat → Int64) (mrs : Nat → Nat → Int32) : Nat → va_W
  | 0 => []
  | n + 1 => MG cI cJ ma mv mso mrs n ++ MKc cI cJ ma mv mso mrs n
section MGA
variable {cI cJ : Nat} {ma : Nat → Nat → Nat} {mv : Nat → Nat → Int32} {mso : Nat → Nat → Int64} {mrs : Nat → Nat → Int32}
theorem mg_len : ∀ n, (MG cI cJ ma mv mso mrs n).length = 6 * n := by
  intro n
  induction n with
  | zero => rfl
  | succ n ih =>
    show (MG cI cJ ma mv mso mrs n ++ MKc cI cJ ma mv mso mrs n).length = _
    rw [List.length_append, ih]
    show 6 * n + 6 = _
    omega
theorem mg_at : ∀ n i k, i < n → k < 6 → (MG cI cJ ma mv mso mrs n)[6 * i + k]? = (MKc cI cJ ma mv mso mrs i)[k]? := by
  intro n
  induction n with
  | zero => intro i k hi; exact absurd hi (Nat.not_lt_zero _)
  | succ n ih =>
    intro i k hi hk
    show (MG cI cJ ma mv mso mrs n ++ MKc cI cJ ma mv mso mrs n)[6 * i + k]? = _
    have hlen := mg_len (cI := cI) (cJ := cJ) (ma := ma) (mv := mv) (mso := mso) (mrs := mrs) n
    by_cases h : i < n
    · rw [List.getElem?_append_left (by omega)]
      exact ih i k h hk
    · have e : i = n := by omega
      subst e
      rw [List.getElem?_append_right (by omega), hlen, show 6 * i + k - 6 * i = k by omega]
theorem mg_x {X : va_W} {N n i k : Nat} (hN : X.length = N) (hi : i < n) (hk : k < 6) : (X ++ MG cI cJ ma mv mso mrs n)[N + (6 * i + k)]? = (MKc cI cJ ma mv mso mrs i)[k]? := by
  rw [List.getElem?_append_right (by omega), show N + (6 * i + k) - X.length = 6 * i + k by omega]
  exact mg_at n i k hi hk
theorem mg_x0 {X : va_W} {N n i : Nat} (hN : X.length = N) (hi : i < n) : (X ++ MG cI cJ ma mv mso mrs n)[N + (6 * i + 0)]? = some (ma i 0, .inr (1, [.int (mv i 0), .int (mv i 1), .int (mv i 2), .ref (ma i 1), .ref (ma i 3), .ref (ma i 4), .int (mv i 3), .int (mv i 4), .int (mv i 5)])) := mg_x hN hi (by decide)
theorem mg_x4 {X : va_W} {N n i : Nat} (hN : X.length = N) (hi : i < n) : (X ++ MG cI cJ ma mv mso mrs n)[N + (6 * i + 4)]? = some (ma i 4, .inr (3, [.ref (ma i 5), .int (mv i 14)])) := mg_x hN hi (by decide)
theorem mg_x5 {X : va_W} {N n i : Nat} (hN : X.length = N) (hi : i < n) : (X ++ MG cI cJ ma mv mso mrs n)[N + (6 * i + 5)]? = some (ma i 5, .inl (cI, 8, .inl (mrs i))) := mg_x hN hi (by decide)
end MGA
set_option maxHeartbeats 4000000 in
set_option maxRecDepth 100000 in
/-- X2_openHours: the loop at 6 -/
theorem lp_X2_openHours1 {p : Program} {l : Launch} {e : Env} {s : State} {m : MethodId} {args : Array Value} {below : List Frame} {meth : Method} {c : Code} {Q : State → Prop} {D : va_G} {cI cJ cZ cM : Nat} {a : Nat → Nat} {iv : Nat → Int32} {av : Nat → Nat → Int32} {j : Nat} {x1 : Int32} {A : Nat → Prop} (hx : p.tables.exec = Jvm.exec) (hb : c.code = cX2_openHours) (hml : c.maxLocals = 7) (hts : ∀ w ∈ wsX2_openHours, w.before args s = true) (hown : s.vm.findClass RX2 = some m.cls) (hG : GK D cI cJ cZ cM s) (hA : ∀ q : Nat, s.heap.size ≤ q → A q) (hj : j < 10) :
    ∀ (k9 : Nat) (k_ : Nat) (z : Int32) (f22 : Nat → Int32), (k_ ≤ 24) → 24 - k_ < k9 → ∀ (H : Heap) (locs : List Loc) (ls : Array Slot), va_P D vwCl [(a 6, .inr (2, [.ref (a 16), .ref (a 17), .ref (a 18), .ref (a 19), .ref (a 20), .ref (a 21), .ref (a 22), .ref (a 23), .ref (a 24), .ref (a 25), .ref (a 26), .ref (a 27), .int (iv 20), .int (iv 21), .int (iv 22), .int (iv 23)])), (a 21, .inl (cI, 240, .inl (av 21))), (a 22, .inl (cI, 240, .inl f22)), (a 5, .inr (4, [.ref (a 13), .ref (a 14), .int (iv 5), .int (iv 6), .int (iv 7), .int (iv 8), .int (iv 9), .int (iv 10), .int (iv 11), .int (iv 12)])), (a 13, .inl (cI, 24, .inl (av 13))), (a 14, .inl (cI, 24, .inl (av 14)))] H → va_D A [(a 6, .inr (2, [.ref (a 16), .ref (a 17), .ref (a 18), .ref (a 19), .ref (a 20), .ref (a 21), .ref (a 22), .ref (a 23), .ref (a 24), .ref (a 25), .ref (a 26), .ref (a 27), .int (iv 20), .int (iv 21), .int (iv 22), .int (iv 23)])), (a 21, .inl (cI, 240, .inl (av 21))), (a 22, .inl (cI, 240, .inl f22)), (a 5, .inr (4, [.ref (a 13), .ref (a 14), .int (iv 5), .int (iv 6), .int (iv 7), .int (iv 8), .int (iv 9), .int (iv 10), .int (iv 11), .int (iv 12)])), (a 13, .inl (cI, 24, .inl (av 13))), (a 14, .inl (cI, 24, .inl (av 14)))] → va_S A s.heap H locs → lv_has ls 7 [(5, .int (nI k_)), (4, .int z), (0, .ref (a 6)), (1, .int (nI j)), (2, .int x1), (3, .ref (a 5))] → (∀ (f22 : Nat → Int32) (H : Heap) (locs : List Loc) (ls : Array Slot), va_P D vwCl [(a 6, .inr (2, [.ref (a 16), .ref (a 17), .ref (a 18), .ref (a 19), .ref (a 20), .ref (a 21), .ref (a 22), .ref (a 23), .ref (a 24), .ref (a 25), .ref (a 26), .ref (a 27), .int (iv 20), .int (iv 21), .int (iv 22), .int (iv 23)])), (a 21, .inl (cI, 240, .inl (av 21))), (a 22, .inl (cI, 240, .inl f22)), (a 5, .inr (4, [.ref (a 13), .ref (a 14), .int (iv 5), .int (iv 6), .int (iv 7), .int (iv 8), .int (iv 9), .int (iv 10), .int (iv 11), .int (iv 12)])), (a 13, .inl (cI, 24, .inl (av 13))), (a 14, .inl (cI, 24, .inl (av 14)))] H → va_D A [(a 6, .inr (2, [.ref (a 16), .ref (a 17), .ref (a 18), .ref (a 19), .ref (a 20), .ref (a 21), .ref (a 22), .ref (a 23), .ref (a 24), .ref (a 25), .ref (a 26), .ref (a 27), .int (iv 20), .int (iv 21), .int (iv 22), .int (iv 23)])), (a 21, .inl (cI, 240, .inl (av 21))), (a 22, .inl (cI, 240, .inl f22)), (a 5, .inr (4, [.ref (a 13), .ref (a 14), .int (iv 5), .int (iv 6), .int (iv 7), .int (iv 8), .int (iv 9), .int (iv 10), .int (iv 11), .int (iv 12)])), (a 13, .inl (cI, 24, .inl (av 13))), (a 14, .inl (cI, 24, .inl (av 14)))] → va_S A s.heap H locs → lv_has ls 7 [(0, .ref (a 6)), (1, .int (nI j)), (2, .int x1), (3, .ref (a 5))] → W p l e (headSpec wsX2_openHours ({ frames := 1, cells := 0, slots := 0, locals := 22 } : Room)).room s m args below meth c H locs 0 0 Q (F0 m 52 ls [])) → W p l e (headSpec wsX2_openHours ({ frames := 1, cells := 0, slots := 0, locals := 22 } : Room)).room s m args below meth c H locs 0 0 Q (F0 m 6 ls []) := by
  have hK := hG.1
  have hN := hG.2
  intro k9
  induction k9 with
  | zero => intro k_ z f22 hk hfu; exact absurd hfu (Nat.not_lt_zero _)
  | succ k9 ih =>
    intro k_ z f22 hk hfu H locs ls hP hD hS hl kk0
    rcases Nat.lt_or_ge k_ 24 with hlt | hge
    · refine lv_iload hx hb dX2_openHours_6 (lv_at hl 0 rfl) ?_
      refine lv_bipush (v := 24) hx hb dX2_openHours_8 (by decide) ?_
      refine lv_icmp_ge (tgt := 52) hx hb dX2_openHours_10 (by decide) (fun c_1 => absurd c_1 (nI_ge hlt (by decide))) (fun c_1 => ?_)
      refine lv_aload_n hx hb dX2_openHours_13 rfl (lv_at hl 5 rfl) ?_
      refine lv_iload_n hx hb dX2_openHours_14 rfl (lv_at hl 4 rfl) ?_
      refine lv_iload hx hb dX2_openHours_15 (lv_at hl 0 rfl) ?_
      have hPc := hP.sub (ws' := [(a 5, .inr (4, [.ref (a 13), .ref (a 14), .int (iv 5), .int (iv 6), .int (iv 7), .int (iv 8), .int (iv 9), .int (iv 10), .int (iv 11), .int (iv 12)])), (a 13, .inl (cI, 24, .inl (av 13))), (a 14, .inl (cI, 24, .inl (av 14)))]) [3, 4, 5] rfl
      refine vp_callSi (va_Run.run (va_runVN (As := [.int x1, .int (nI k_)]) (rest := []) ⟨hx, hb, hml, hown, hts⟩ (k_X4_mayBegin l D cI cJ cZ cM a iv av x1 k_ (by omega)) ⟨(va_cnB 2 hts gX2_openHours_X4_mayBegin_n99 rfl rfl rfl (hN.2.1 (RX2, 99, yX4_mayBegin, "BuoyTender") (by decide +kernel)) (hts (.initialized RX4) (by decide +kernel)) (by decide +kernel) ⟨Nat.le_of_ble_eq_true rfl, Nat.le_of_ble_eq_true rfl⟩), hts (.instanceMethod yX4_mayBegin) (by decide +kernel), hts (.selects RX4 yX4_mayBegin yX4_mayBegin) (by decide +kernel)⟩ (ro_V hG hPc (va_recv hK hPc (ci := 4) (q0 := 0) rfl rfl)) rfl rfl hl.1 rfl (lv_room (Nat.le_of_ble_eq_true rfl)) dX2_openHours_17 ⟨Nat.le_of_ble_eq_true rfl, Nat.le_of_ble_eq_true rfl⟩)) (fun r_2 h_2 => ?_)
      refine lv_if_eq (tgt := 28) hx hb dX2_openHours_20 (by decide) (fun c_3 => ?_) (fun c_3 => ?_)
      · refine lv_iload hx hb dX2_openHours_28 (lv_at hl 1 rfl) ?_
        refine lv_istore (lv' := [(4, .int z), (5, .int (nI k_)), (0, .ref (a 6)), (1, .int (nI j)), (2, .int x1), (3, .ref (a 5))]) hx hb dX2_openHours_30 hl (by decide) rfl (fun ls hl => ?_)
        refine lv_aload_n hx hb dX2_openHours_32 rfl (lv_at hl 2 rfl) ?_
        refine va_get (D := D) (ci := 2) (v := .ref (a 22)) (C := RX2) (T := TX2) (N := 16) hx hb hts (fun _ h9 => List.mem_cons_of_mem _ (List.mem_append_left _ (List.mem_append_right _ h9))) hown hK hP 0 rfl rfl 6 (by decide) (hts (.fieldLink RX2 30 "BuoyTender$Planner" "openedIn" "[I") (by decide +kernel)) (fun _ h9 => h9) rfl dX2_openHours_33 ?_
        refine lv_iload_n hx hb dX2_openHours_36 rfl (lv_at hl 3 rfl) ?_
        refine lv_bipush (v := 24) hx hb dX2_openHours_37 (by decide) ?_
        refine lv_imul hx hb dX2_openHours_39 ?_
        refine lv_topi (fun z_4 ez_4 => ?_)
        obtain rfl : z_4 = nI (j * 24) := ez_4.trans (pk_mul j 24)
        refine lv_iload hx hb dX2_openHours_40 (lv_at hl 1 rfl) ?_
        refine lv_iadd hx hb dX2_openHours_42 ?_
        refine lv_topi (fun z_5 ez_5 => ?_)
        obtain rfl : z_5 = nI ((j * 24) + k_) := ez_5.trans (nI_add (j * 24) k_)
        refine lv_iload hx hb dX2_openHours_43 (lv_at hl 0 rfl) ?_
        refine va_iast hx hb hK hP hD hS 2 0 rfl rfl (vp_in_nI (by omega) (by decide)) dX2_openHours_45 (fun H locs hP hD hS => ?_)
        rw [nI_clamp (by omega)] at hP hD
        have hP : va_P D vwCl [(a 6, .inr (2, [.ref (a 16), .ref (a 17), .ref (a 18), .ref (a 19), .ref (a 20), .ref (a 21), .ref (a 22), .ref (a 23), .ref (a 24), .ref (a 25), .ref (a 26), .ref (a 27), .int (iv 20), .int (iv 21), .int (iv 22), .int (iv 23)])), (a 21, .inl (cI, 240, .inl (av 21))), (a 22, .inl (cI, 240, .inl (upd f22 ((j * 24) + k_) z))), (a 5, .inr (4, [.ref (a 13), .ref (a 14), .int (iv 5), .int (iv 6), .int (iv 7), .int (iv 8), .int (iv 9), .int (iv 10), .int (iv 11), .int (iv 12)])), (a 13, .inl (cI, 24, .inl (av 13))), (a 14, .inl (cI, 24, .inl (av 14)))] H := hP
        have hD : va_D A [(a 6, .inr (2, [.ref (a 16), .ref (a 17), .ref (a 18), .ref (a 19), .ref (a 20), .ref (a 21), .ref (a 22), .ref (a 23), .ref (a 24), .ref (a 25), .ref (a 26), .ref (a 27), .int (iv 20), .int (iv 21), .int (iv 22), .int (iv 23)])), (a 21, .inl (cI, 240, .inl (av 21))), (a 22, .inl (cI, 240, .inl (upd f22 ((j * 24) + k_) z))), (a 5, .inr (4, [.ref (a 13), .ref (a 14), .int (iv 5), .int (iv 6), .int (iv 7), .int (iv 8), .int (iv 9), .int (iv 10), .int (iv 11), .int (iv 12)])), (a 13, .inl (cI, 24, .inl (av 13))), (a 14, .inl (cI, 24, .inl (av 14)))] := hD
        refine lv_iinc (v := nI (k_ + 1)) (lv' := [(5, .int (nI (k_ + 1))), (4, .int z), (0, .ref (a 6)), (1, .int (nI j)), (2, .int x1), (3, .ref (a 5))]) hx hb dX2_openHours_46 hl (k := 1) rfl (nI_add k_ 1) (by decide) rfl (fun ls hl => ?_)
        refine lv_goto (tgt := 6) hx hb dX2_openHours_49 (by decide) ?_
        exact ih (k_ + 1) z (upd f22 ((j * 24) + k_) z) (by omega) (by omega) _ _ _ hP hD hS (lv_sub hl [0, 1, 2, 3, 4, 5] rfl) kk0
      refine lv_iload hx hb dX2_openHours_23 (lv_at hl 0 rfl) ?_
      refine lv_goto (tgt := 30) hx hb dX2_openHours_25 (by decide) ?_
      refine lv_istore (lv' := [(4, .int (nI k_)), (5, .int (nI k_)), (0, .ref (a 6)), (1, .int (nI j)), (2, .int x1), (3, .ref (a 5))]) hx hb dX2_openHours_30 hl (by decide) rfl (fun ls hl => ?_)
      refine lv_aload_n hx hb dX2_openHours_32 rfl (lv_at hl 2 rfl) ?_
      refine va_get (D := D) (ci := 2) (v := .ref (a 22)) (C := RX2) (T := TX2) (N := 16) hx hb hts (fun _ h9 => List.mem_cons_of_mem _ (List.mem_append_left _ (List.mem_append_right _ h9))) hown hK hP 0 rfl rfl 6 (by decide) (hts (.fieldLink RX2 30 "BuoyTender$Planner" "openedIn" "[I") (by decide +kernel)) (fun _ h9 => h9) rfl dX2_openHours_33 ?_
      refine lv_iload_n hx hb dX2_openHours_36 rfl (lv_at hl 3 rfl) ?_
      refine lv_bipush (v := 24) hx hb dX2_openHours_37 (by decide) ?_
      refine lv_imul hx hb dX2_openHours_39 ?_
      refine lv_topi (fun z_6 ez_6 => ?_)
      obtain rfl : z_6 = nI (j * 24) := ez_6.trans (pk_mul j 24)
      refine lv_iload hx hb dX2_openHours_40 (lv_at hl 1 rfl) ?_
      refine lv_iadd hx hb dX2_openHours_42 ?_
      refine lv_topi (fun z_7 ez_7 => ?_)
      obtain rfl : z_7 = nI ((j * 24) + k_) := ez_7.trans (nI_add (j * 24) k_)
      refine lv_iload hx hb dX2_openHours_43 (lv_at hl 0 rfl) ?_
      refine va_iast hx hb hK hP hD hS 2 0 rfl rfl (vp_in_nI (by omega) (by decide)) dX2_openHours_45 (fun H locs hP hD hS => ?_)
      rw [nI_clamp (by omega)] at hP hD
      have hP : va_P D vwCl [(a 6, .inr (2, [.ref (a 16), .ref (a 17), .ref (a 18), .ref (a 19), .ref (a 20), .ref (a 21), .ref (a 22), .ref (a 23), .ref (a 24), .ref (a 25), .ref (a 26), .ref (a 27), .int (iv 20), .int (iv 21), .int (iv 22), .int (iv 23)])), (a 21, .inl (cI, 240, .inl (av 21))), (a 22, .inl (cI, 240, .inl (upd f22 ((j * 24) + k_) (nI k_)))), (a 5, .inr (4, [.ref (a 13), .ref (a 14), .int (iv 5), .int (iv 6), .int (iv 7), .int (iv 8), .int (iv 9), .int (iv 10), .int (iv 11), .int (iv 12)])), (a 13, .inl (cI, 24, .inl (av 13))), (a 14, .inl (cI, 24, .inl (av 14)))] H := hP
      have hD : va_D A [(a 6, .inr (2, [.ref (a 16), .ref (a 17), .ref (a 18), .ref (a 19), .ref (a 20), .ref (a 21), .ref (a 22), .ref (a 23), .ref (a 24), .ref (a 25), .ref (a 26), .ref (a 27), .int (iv 20), .int (iv 21), .int (iv 22), .int (iv 23)])), (a 21, .inl (cI, 240, .inl (av 21))), (a 22, .inl (cI, 240, .inl (upd f22 ((j * 24) + k_) (nI k_)))), (a 5, .inr (4, [.ref (a 13), .ref (a 14), .int (iv 5), .int (iv 6), .int (iv 7), .int (iv 8), .int (iv 9), .int (iv 10), .int (iv 11), .int (iv 12)])), (a 13, .inl (cI, 24, .inl (av 13))), (a 14, .inl (cI, 24, .inl (av 14)))] := hD
      refine lv_iinc (v := nI (k_ + 1)) (lv' := [(5, .int (nI (k_ + 1))), (4, .int (nI k_)), (0, .ref (a 6)), (1, .int (nI j)), (2, .int x1), (3, .ref (a 5))]) hx hb dX2_openHours_46 hl (k := 1) rfl (nI_add k_ 1) (by decide) rfl (fun ls hl => ?_)
      refine lv_goto (tgt := 6) hx hb dX2_openHours_49 (by decide) ?_
      exact ih (k_ + 1) (nI k_) (upd f22 ((j * 24) + k_) (nI k_)) (by omega) (by omega) _ _ _ hP hD hS (lv_sub hl [0, 1, 2, 3, 4, 5] rfl) kk0
    · refine lv_iload hx hb dX2_openHours_6 (lv_at hl 0 rfl) ?_
      refine lv_bipush (v := 24) hx hb dX2_openHours_8 (by decide) ?_
      refine lv_icmp_ge (tgt := 52) hx hb dX2_openHours_10 (by decide) (fun c_8 => ?_) (fun c_8 => absurd (nI_le hge (by omega)) c_8)
      exact kk0 f22 _ _ _  hP hD hS (lv_sub hl [2, 3, 4, 5] rfl)
set_option maxHeartbeats 4000000 in
set_option maxRecDepth 100000 in
/-- X2_openHours: the loop at 59 -/
theorem lp_X2_openHours2 {p : Program} {l : Launch} {e : Env} {s : State} {m : MethodId} {args : Array Value} {below : List Frame} {meth : Method} {c : Code} {Q : State → Prop} {D : va_G} {cI cJ cZ cM : Nat} {a : Nat → Nat} {iv : Nat → Int32} {av : Nat → Nat → Int32} {j : Nat} {x1 : Int32} {A : Nat → Prop} (hx : p.tables.exec = Jvm.exec) (hb : c.code = cX2_openHours) (hml : c.maxLocals = 7) (hts : ∀ w ∈ wsX2_openHours, w.before args s = true) (hown : s.vm.findClass RX2 = some m.cls) (hG : GK D cI cJ cZ cM s) (hA : ∀ q : Nat, s.heap.size ≤ q → A q) (hj : j < 10) :
    ∀ (k9 : Nat) (k_ : Nat) (z : Int32) (f21 : Nat → Int32), (k_ ≤ 24) → k_ < k9 → ∀ (H : Heap) (locs : List Loc) (ls : Array Slot), va_P D vwCl [(a 6, .inr (2, [.ref (a 16), .ref (a 17), .ref (a 18), .ref (a 19), .ref (a 20), .ref (a 21), .ref (a 22), .ref (a 23), .ref (a 24), .ref (a 25), .ref (a 26), .ref (a 27), .int (iv 20), .int (iv 21), .int (iv 22), .int (iv 23)])), (a 21, .inl (cI, 240, .inl f21)), (a 22, .inl (cI, 240, .inl (av 22))), (a 5, .inr (4, [.ref (a 13), .ref (a 14), .int (iv 5), .int (iv 6), .int (iv 7), .int (iv 8), .int (iv 9), .int (iv 10), .int (iv 11), .int (iv 12)])), (a 13, .inl (cI, 24, .inl (av 13))), (a 14, .inl (cI, 24, .inl (av 14)))] H → va_D A [(a 6, .inr (2, [.ref (a 16), .ref (a 17), .ref (a 18), .ref (a 19), .ref (a 20), .ref (a 21), .ref (a 22), .ref (a 23), .ref (a 24), .ref (a 25), .ref (a 26), .ref (a 27), .int (iv 20), .int (iv 21), .int (iv 22), .int (iv 23)])), (a 21, .inl (cI, 240, .inl f21)), (a 22, .inl (cI, 240, .inl (av 22))), (a 5, .inr (4, [.ref (a 13), .ref (a 14), .int (iv 5), .int (iv 6), .int (iv 7), .int (iv 8), .int (iv 9), .int (iv 10), .int (iv 11), .int (iv 12)])), (a 13, .inl (cI, 24, .inl (av 13))), (a 14, .inl (cI, 24, .inl (av 14)))] → va_S A s.heap H locs → lv_has ls 7 [(6, .int (encP k_)), (5, .int z), (0, .ref (a 6)), (1, .int (nI j)), (2, .int x1), (3, .ref (a 5))] → (∀ (f21 : Nat → Int32) (H : Heap) (locs : List Loc) (ls : Array Slot), va_P D vwCl [(a 6, .inr (2, [.ref (a 16), .ref (a 17), .ref (a 18), .ref (a 19), .ref (a 20), .ref (a 21), .ref (a 22), .ref (a 23), .ref (a 24), .ref (a 25), .ref (a 26), .ref (a 27), .int (iv 20), .int (iv 21), .int (iv 22), .int (iv 23)])), (a 21, .inl (cI, 240, .inl f21)), (a 22, .inl (cI, 240, .inl (av 22))), (a 5, .inr (4, [.ref (a 13), .ref (a 14), .int (iv 5), .int (iv 6), .int (iv 7), .int (iv 8), .int (iv 9), .int (iv 10), .int (iv 11), .int (iv 12)])), (a 13, .inl (cI, 24, .inl (av 13))), (a 14, .inl (cI, 24, .inl (av 14)))] H → va_D A [(a 6, .inr (2, [.ref (a 16), .ref (a 17), .ref (a 18), .ref (a 19), .ref (a 20), .ref (a 21), .ref (a 22), .ref (a 23), .ref (a 24), .ref (a 25), .ref (a 26), .ref (a 27), .int (iv 20), .int (iv 21), .int (iv 22), .int (iv 23)])), (a 21, .inl (cI, 240, .inl f21)), (a 22, .inl (cI, 240, .inl (av 22))), (a 5, .inr (4, [.ref (a 13), .ref (a 14), .int (iv 5), .int (iv 6), .int (iv 7), .int (iv 8), .int (iv 9), .int (iv 10), .int (iv 11), .int (iv 12)])), (a 13, .inl (cI, 24, .inl (av 13))), (a 14, .inl (cI, 24, .inl (av 14)))] → va_S A s.heap H locs → lv_has ls 7 [(0, .ref (a 6)), (1, .int (nI j)), (2, .int x1), (3, .ref (a 5))] → W p l e (headSpec wsX2_openHours ({ frames := 1, cells := 0, slots := 0, locals := 22 } : Room)).room s m args below meth c H locs 0 0 Q (F0 m 103 ls [])) → W p l e (headSpec wsX2_openHours ({ frames := 1, cells := 0, slots := 0, locals := 22 } : Room)).room s m args below meth c H locs 0 0 Q (F0 m 59 ls []) := by
  have hK := hG.1
  have hN := hG.2
  intro k9
  induction k9 with
  | zero => intro k_ z f21 hk hfu; exact absurd hfu (Nat.not_lt_zero _)
  | succ k9 ih =>
    intro k_ z f21 hk hfu H locs ls hP hD hS hl kk0
    cases k_ with
    | zero =>
        have hl : lv_has ls 7 [(6, .int (-1)), (5, .int z), (0, .ref (a 6)), (1, .int (nI j)), (2, .int x1), (3, .ref (a 5))] := hl
        refine lv_iload hx hb dX2_openHours_59 (lv_at hl 0 rfl) ?_
        refine lv_if_lt (tgt := 103) hx hb dX2_openHours_61 (by decide) (fun _ => ?_) (fun c_1 => False.elim (by revert c_1; decide))
        exact kk0 f21 _ _ _  hP hD hS (lv_sub hl [2, 3, 4, 5] rfl)
    | succ k_ =>
        have hl : lv_has ls 7 [(6, .int (nI k_)), (5, .int z), (0, .ref (a 6)), (1, .int (nI j)), (2, .int x1), (3, .ref (a 5))] := hl
        refine lv_iload hx hb dX2_openHours_59 (lv_at hl 0 rfl) ?_
        refine lv_if_lt (tgt := 103) hx hb dX2_openHours_61 (by decide) (fun c_2 => absurd c_2 (nI_pos (by omega))) (fun c_2 => ?_)
        refine lv_aload_n hx hb dX2_openHours_64 rfl (lv_at hl 5 rfl) ?_
        refine lv_iload_n hx hb dX2_openHours_65 rfl (lv_at hl 4 rfl) ?_
        refine lv_iload hx hb dX2_openHours_66 (lv_at hl 0 rfl) ?_
        have hPc := hP.sub (ws' := [(a 5, .inr (4, [.ref (a 13), .ref (a 14), .int (iv 5), .int (iv 6), .int (iv 7), .int (iv 8), .int (iv 9), .int (iv 10), .int (iv 11), .int (iv 12)])), (a 13, .inl (cI, 24, .inl (av 13))), (a 14, .inl (cI, 24, .inl (av 14)))]) [3, 4, 5] rfl
        refine vp_callSi (va_Run.run (va_runVN (As := [.int x1, .int (nI k_)]) (rest := []) ⟨hx, hb, hml, hown, hts⟩ (k_X4_mayBegin l D cI cJ cZ cM a iv av x1 k_ (by omega)) ⟨(va_cnB 2 hts gX2_openHours_X4_mayBegin_n99 rfl rfl rfl (hN.2.1 (RX2, 99, yX4_mayBegin, "BuoyTender") (by decide +kernel)) (hts (.initialized RX4) (by decide +kernel)) (by decide +kernel) ⟨Nat.le_of_ble_eq_true rfl, Nat.le_of_ble_eq_true rfl⟩), hts (.instanceMethod yX4_mayBegin) (by decide +kernel), hts (.selects RX4 yX4_mayBegin yX4_mayBegin) (by decide +kernel)⟩ (ro_V hG hPc (va_recv hK hPc (ci := 4) (q0 := 0) rfl rfl)) rfl rfl hl.1 rfl (lv_room (Nat.le_of_ble_eq_true rfl)) dX2_openHours_68 ⟨Nat.le_of_ble_eq_true rfl, Nat.le_of_ble_eq_true rfl⟩)) (fun r_3 h_3 => ?_)
        refine lv_if_eq (tgt := 79) hx hb dX2_openHours_71 (by decide) (fun c_4 => ?_) (fun c_4 => ?_)
        · refine lv_iload hx hb dX2_openHours_79 (lv_at hl 1 rfl) ?_
          refine lv_istore (lv' := [(5, .int z), (6, .int (nI k_)), (0, .ref (a 6)), (1, .int (nI j)), (2, .int x1), (3, .ref (a 5))]) hx hb dX2_openHours_81 hl (by decide) rfl (fun ls hl => ?_)
          refine lv_aload_n hx hb dX2_openHours_83 rfl (lv_at hl 2 rfl) ?_
          refine va_get (D := D) (ci := 2) (v := .ref (a 21)) (C := RX2) (T := TX2) (N := 16) hx hb hts (fun _ h9 => List.mem_cons_of_mem _ (List.mem_append_left _ (List.mem_append_right _ h9))) hown hK hP 0 rfl rfl 5 (by decide) (hts (.fieldLink RX2 27 "BuoyTender$Planner" "opensIn" "[I") (by decide +kernel)) (fun _ h9 => h9) rfl dX2_openHours_84 ?_
          refine lv_iload_n hx hb dX2_openHours_87 rfl (lv_at hl 3 rfl) ?_
          refine lv_bipush (v := 24) hx hb dX2_openHours_88 (by decide) ?_
          refine lv_imul hx hb dX2_openHours_90 ?_
          refine lv_topi (fun z_5 ez_5 => ?_)
          obtain rfl : z_5 = nI (j * 24) := ez_5.trans (pk_mul j 24)
          refine lv_iload hx hb dX2_openHours_91 (lv_at hl 1 rfl) ?_
          refine lv_iadd hx hb dX2_openHours_93 ?_
          refine lv_topi (fun z_6 ez_6 => ?_)
          obtain rfl : z_6 = nI ((j * 24) + k_) := ez_6.trans (nI_add (j * 24) k_)
          refine lv_iload hx hb dX2_openHours_94 (lv_at hl 0 rfl) ?_
          refine va_iast hx hb hK hP hD hS 1 0 rfl rfl (vp_in_nI (by omega) (by decide)) dX2_openHours_96 (fun H locs hP hD hS => ?_)
          rw [nI_clamp (by omega)] at hP hD
          have hP : va_P D vwCl [(a 6, .inr (2, [.ref (a 16), .ref (a 17), .ref (a 18), .ref (a 19), .ref (a 20), .ref (a 21), .ref (a 22), .ref (a 23), .ref (a 24), .ref (a 25), .ref (a 26), .ref (a 27), .int (iv 20), .int (iv 21), .int (iv 22), .int (iv 23)])), (a 21, .inl (cI, 240, .inl (upd f21 ((j * 24) + k_) z))), (a 22, .inl (cI, 240, .inl (av 22))), (a 5, .inr (4, [.ref (a 13), .ref (a 14), .int (iv 5), .int (iv 6), .int (iv 7), .int (iv 8), .int (iv 9), .int (iv 10), .int (iv 11), .int (iv 12)])), (a 13, .inl (cI, 24, .inl (av 13))), (a 14, .inl (cI, 24, .inl (av 14)))] H := hP
          have hD : va_D A [(a 6, .inr (2, [.ref (a 16), .ref (a 17), .ref (a 18), .ref (a 19), .ref (a 20), .ref (a 21), .ref (a 22), .ref (a 23), .ref (a 24), .ref (a 25), .ref (a 26), .ref (a 27), .int (iv 20), .int (iv 21), .int (iv 22), .int (iv 23)])), (a 21, .inl (cI, 240, .inl (upd f21 ((j * 24) + k_) z))), (a 22, .inl (cI, 240, .inl (av 22))), (a 5, .inr (4, [.ref (a 13), .ref (a 14), .int (iv 5), .int (iv 6), .int (iv 7), .int (iv 8), .int (iv 9), .int (iv 10), .int (iv 11), .int (iv 12)])), (a 13, .inl (cI, 24, .inl (av 13))), (a 14, .inl (cI, 24, .inl (av 14)))] := hD
          refine lv_iinc (v := (encP k_)) (lv' := [(6, .int (encP k_)), (5, .int z), (0, .ref (a 6)), (1, .int (nI j)), (2, .int x1), (3, .ref (a 5))]) hx hb dX2_openHours_97 hl (k := 1) rfl (encP_dec k_) (by decide) rfl (fun ls hl => ?_)
          refine lv_goto (tgt := 59) hx hb dX2_openHours_100 (by decide) ?_
          exact ih k_ z (upd f21 ((j * 24) + k_) z) (by omega) (by omega) _ _ _ hP hD hS (lv_sub hl [0, 1, 2, 3, 4, 5] rfl) kk0
        refine lv_iload hx hb dX2_openHours_74 (lv_at hl 0 rfl) ?_
        refine lv_goto (tgt := 81) hx hb dX2_openHours_76 (by decide) ?_
        refine lv_istore (lv' := [(5, .int (nI k_)), (6, .int (nI k_)), (0, .ref (a 6)), (1, .int (nI j)), (2, .int x1), (3, .ref (a 5))]) hx hb dX2_openHours_81 hl (by decide) rfl (fun ls hl => ?_)
        refine lv_aload_n hx hb dX2_openHours_83 rfl (lv_at hl 2 rfl) ?_
        refine va_get (D := D) (ci := 2) (v := .ref (a 21)) (C := RX2) (T := TX2) (N := 16) hx hb hts (fun _ h9 => List.mem_cons_of_mem _ (List.mem_append_left _ (List.mem_append_right _ h9))) hown hK hP 0 rfl rfl 5 (by decide) (hts (.fieldLink RX2 27 "BuoyTender$Planner" "opensIn" "[I") (by decide +kernel)) (fun _ h9 => h9) rfl dX2_openHours_84 ?_
        refine lv_iload_n hx hb dX2_openHours_87 rfl (lv_at hl 3 rfl) ?_
        refine lv_bipush (v := 24) hx hb dX2_openHours_88 (by decide) ?_
        refine lv_imul hx hb dX2_openHours_90 ?_
        refine lv_topi (fun z_8 ez_8 => ?_)
        obtain rfl : z_8 = nI (j * 24) := ez_8.trans (pk_mul j 24)
        refine lv_iload hx hb dX2_openHours_91 (lv_at hl 1 rfl) ?_
        refine lv_iadd hx hb dX2_openHours_93 ?_
        refine lv_topi (fun z_9 ez_9 => ?_)
        obtain rfl : z_9 = nI ((j * 24) + k_) := ez_9.trans (nI_add (j * 24) k_)
        refine lv_iload hx hb dX2_openHours_94 (lv_at hl 0 rfl) ?_
        refine va_iast hx hb hK hP hD hS 1 0 rfl rfl (vp_in_nI (by omega) (by decide)) dX2_openHours_96 (fun H locs hP hD hS => ?_)
        rw [nI_clamp (by omega)] at hP hD
        have hP : va_P D vwCl [(a 6, .inr (2, [.ref (a 16), .ref (a 17), .ref (a 18), .ref (a 19), .ref (a 20), .ref (a 21), .ref (a 22), .ref (a 23), .ref (a 24), .ref (a 25), .ref (a 26), .ref (a 27), .int (iv 20), .int (iv 21), .int (iv 22), .int (iv 23)])), (a 21, .inl (cI, 240, .inl (upd f21 ((j * 24) + k_) (nI k_)))), (a 22, .inl (cI, 240, .inl (av 22))), (a 5, .inr (4, [.ref (a 13), .ref (a 14), .int (iv 5), .int (iv 6), .int (iv 7), .int (iv 8), .int (iv 9), .int (iv 10), .int (iv 11), .int (iv 12)])), (a 13, .inl (cI, 24, .inl (av 13))), (a 14, .inl (cI, 24, .inl (av 14)))] H := hP
        have hD : va_D A [(a 6, .inr (2, [.ref (a 16), .ref (a 17), .ref (a 18), .ref (a 19), .ref (a 20), .ref (a 21), .ref (a 22), .ref (a 23), .ref (a 24), .ref (a 25), .ref (a 26), .ref (a 27), .int (iv 20), .int (iv 21), .int (iv 22), .int (iv 23)])), (a 21, .inl (cI, 240, .inl (upd f21 ((j * 24) + k_) (nI k_)))), (a 22, .inl (cI, 240, .inl (av 22))), (a 5, .inr (4, [.ref (a 13), .ref (a 14), .int (iv 5), .int (iv 6), .int (iv 7), .int (iv 8), .int (iv 9), .int (iv 10), .int (iv 11), .int (iv 12)])), (a 13, .inl (cI, 24, .inl (av 13))), (a 14, .inl (cI, 24, .inl (av 14)))] := hD
        refine lv_iinc (v := (encP k_)) (lv' := [(6, .int (encP k_)), (5, .int (nI k_)), (0, .ref (a 6)), (1, .int (nI j)), (2, .int x1), (3, .ref (a 5))]) hx hb dX2_openHours_97 hl (k := 1) rfl (encP_dec k_) (by decide) rfl (fun ls hl => ?_)
        refine lv_goto (tgt := 59) hx hb dX2_openHours_100 (by decide) ?_
        exact ih k_ (nI k_) (upd f21 ((j * 24) + k_) (nI k_)) (by omega) (by omega) _ _ _ hP hD hS (lv_sub hl [0, 1, 2, 3, 4, 5] rfl) kk0
set_option maxHeartbeats 4000000 in
set_option maxRecDepth 100000 in
/-- X2_openHours -/
theorem k_X2_openHours (l : Launch) (D : va_G) (cI cJ cZ cM : Nat) (a : Nat → Nat) (iv : Nat → Int32) (av : Nat → Nat → Int32) (j : Nat) (hj : j < 10) (x1 : Int32) (sz : Nat) : Met l yX2_openHours wsX2_openHours ({ frames := 1, cells := 0, slots := 0, locals := 22 } : Room) (RW D cI cJ cZ cM [.ref (a 6), .int (nI j), .int x1, .ref (a 5)] [(a 6, .inr (2, [.ref (a 16), .ref (a 17), .ref (a 18), .ref (a 19), .ref (a 20), .ref (a 21), .ref (a 22), .ref (a 23), .ref (a 24), .ref (a 25), .ref (a 26), .ref (a 27), .int (iv 20), .int (iv 21), .int (iv 22), .int (iv 23)])), (a 21, .inl (cI, 240, .inl (av 21))), (a 22, .inl (cI, 240, .inl (av 22))), (a 5, .inr (4, [.ref (a 13), .ref (a 14), .int (iv 5), .int (iv 6), .int (iv 7), .int (iv 8), .int (iv 9), .int (iv 10), .int (iv 11), .int (iv 12)])), (a 13, .inl (cI, 24, .inl (av 13))), (a 14, .inl (cI, 24, .inl (av 14)))] sz) (va_Qv (S := (Nat → Int32) × (Nat → Int32)) (fun u => True) (BB D (fun u => [(a 6, .inr (2, [.ref (a 16), .ref (a 17), .ref (a 18), .ref (a 19), .ref (a 20), .ref (a 21), .ref (a 22), .ref (a 23), .ref (a 24), .ref (a 25), .ref (a 26), .ref (a 27), .int (iv 20), .int (iv 21), .int (iv 22), .int (iv 23)])), (a 21, .inl (cI, 240, .inl u.1)), (a 22, .inl (cI, 240, .inl u.2)), (a 5, .inr (4, [.ref (a 13), .ref (a 14), .int (iv 5), .int (iv 6), .int (iv 7), .int (iv 8), .int (iv 9), .int (iv 10), .int (iv 11), .int (iv 12)])), (a 13, .inl (cI, 24, .inl (av 13))), (a 14, .inl (cI, 24, .inl (av 14)))]) (va_A [(a 6, .inr (2, [.ref (a 16), .ref (a 17), .ref (a 18), .ref (a 19), .ref (a 20), .ref (a 21), .ref (a 22), .ref (a 23), .ref (a 24), .ref (a 25), .ref (a 26), .ref (a 27), .int (iv 20), .int (iv 21), .int (iv 22), .int (iv 23)])), (a 21, .inl (cI, 240, .inl (av 21))), (a 22, .inl (cI, 240, .inl (av 22))), (a 5, .inr (4, [.ref (a 13), .ref (a 14), .int (iv 5), .int (iv 6), .int (iv 7), .int (iv 8), .int (iv 9), .int (iv 10), .int (iv 11), .int (iv 12)])), (a 13, .inl (cI, 24, .inl (av 13))), (a 14, .inl (cI, 24, .inl (av 14)))] sz)) (va_A [(a 6, .inr (2, [.ref (a 16), .ref (a 17), .ref (a 18), .ref (a 19), .ref (a 20), .ref (a 21), .ref (a 22), .ref (a 23), .ref (a 24), .ref (a 25), .ref (a 26), .ref (a 27), .int (iv 20), .int (iv 21), .int (iv 22), .int (iv 23)])), (a 21, .inl (cI, 240, .inl (av 21))), (a 22, .inl (cI, 240, .inl (av 22))), (a 5, .inr (4, [.ref (a 13), .ref (a 14), .int (iv 5), .int (iv 6), .int (iv 7), .int (iv 8), .int (iv 9), .int (iv 10), .int (iv 11), .int (iv 12)])), (a 13, .inl (cI, 24, .inl (av 13))), (a 14, .inl (cI, 24, .inl (av 14)))] sz)) 0 0 (va_A [(a 6, .inr (2, [.ref (a 16), .ref (a 17), .ref (a 18), .ref (a 19), .ref (a 20), .ref (a 21), .ref (a 22), .ref (a 23), .ref (a 24), .ref (a 25), .ref (a 26), .ref (a 27), .int (iv 20), .int (iv 21), .int (iv 22), .int (iv 23)])), (a 21, .inl (cI, 240, .inl (av 21))), (a 22, .inl (cI, 240, .inl (av 22))), (a 5, .inr (4, [.ref (a 13), .ref (a 14), .int (iv 5), .int (iv 6), .int (iv 7), .int (iv 8), .int (iv 9), .int (iv 10), .int (iv 11), .int (iv 12)])), (a 13, .inl (cI, 24, .inl (av 13))), (a 14, .inl (cI, 24, .inl (av 14)))] sz) := by
  refine Met.ofW (cc := cX2_openHours) (maxL := 7) (ret := none) (by decide) rfl ?_
  intro p e s m args below meth c s₁ B hml hv
  obtain ⟨rfl, hsz, hG, hP, hD0⟩ := hv
  have hx := B.exec
  have hb := B.bytes
  have hr := B.returns
  have hts := atoms_spec (ws := wsX2_openHours) B.pre
  have hown : s.vm.findClass RX2 = some m.cls := findClass_of_methodNamed B.named
  have hlocks := B.notSynchronized
  have hK := hG.1
  have hN := hG.2
  subst hsz
  have hD := hD0.self (sz := s.heap.size)
  generalize hAe : va_A [(a 6, .inr (2, [.ref (a 16), .ref (a 17), .ref (a 18), .ref (a 19), .ref (a 20), .ref (a 21), .ref (a 22), .ref (a 23), .ref (a 24), .ref (a 25), .ref (a 26), .ref (a 27), .int (iv 20), .int (iv 21), .int (iv 22), .int (iv 23)])), (a 21, .inl (cI, 240, .inl (av 21))), (a 22, .inl (cI, 240, .inl (av 22))), (a 5, .inr (4, [.ref (a 13), .ref (a 14), .int (iv 5), .int (iv 6), .int (iv 7), .int (iv 8), .int (iv 9), .int (iv 10), .int (iv 11), .int (iv 12)])), (a 13, .inl (cI, 24, .inl (av 13))), (a 14, .inl (cI, 24, .inl (av 14)))] s.heap.size = A at hD ⊢
  have hA : ∀ q : Nat, s.heap.size ≤ q → A q := fun q h => by rw [← hAe]; exact Or.inr h
  have hS : va_S A s.heap s.heap [] := va_S.rf
  have hP : va_P D vwCl [(a 6, .inr (2, [.ref (a 16), .ref (a 17), .ref (a 18), .ref (a 19), .ref (a 20), .ref (a 21), .ref (a 22), .ref (a 23), .ref (a 24), .ref (a 25), .ref (a 26), .ref (a 27), .int (iv 20), .int (iv 21), .int (iv 22), .int (iv 23)])), (a 21, .inl (cI, 240, .inl (av 21))), (a 22, .inl (cI, 240, .inl (av 22))), (a 5, .inr (4, [.ref (a 13), .ref (a 14), .int (iv 5), .int (iv 6), .int (iv 7), .int (iv 8), .int (iv 9), .int (iv 10), .int (iv 11), .int (iv 12)])), (a 13, .inl (cI, 24, .inl (av 13))), (a 14, .inl (cI, 24, .inl (av 14)))] s.heap := hP
  have hl := lv_entry ([.ref (a 6), .int (nI j), .int x1, .ref (a 5)]) (n := 7) (Nat.le_of_ble_eq_true rfl)
  rw [lg_entry_eq]
  generalize (lg_sl ([.ref (a 6), .int (nI j), .int x1, .ref (a 5)]) ++ List.replicate (7 - (lg_sl ([.ref (a 6), .int (nI j), .int x1, .ref (a 5)])).length) Slot.unset).toArray = ls at hl ⊢
  have hl : lv_has ls 7 [(0, .ref (a 6)), (1, .int (nI j)), (2, .int x1), (3, .ref (a 5))] := hl
  refine lv_iconst (v := (-1)) hx hb dX2_openHours_0 (by decide) ?_
  refine lv_istore (lv' := [(4, .int (-1)), (0, .ref (a 6)), (1, .int (nI j)), (2, .int x1), (3, .ref (a 5))]) hx hb dX2_openHours_1 hl (by decide) rfl (fun ls hl => ?_)
  refine lv_iconst (v := 0) hx hb dX2_openHours_3 (by decide) ?_
  refine lv_istore (lv' := [(5, .int 0), (4, .int (-1)), (0, .ref (a 6)), (1, .int (nI j)), (2, .int x1), (3, .ref (a 5))]) hx hb dX2_openHours_4 hl (by decide) rfl (fun ls hl => ?_)
  refine lp_X2_openHours1 hx hb hml hts hown hG hA hj (24 + 1) 0 (-1) (av 22) (Nat.zero_le _) (by omega) _ _ _ hP hD hS (lv_sub hl [0, 1, 2, 3, 4, 5] rfl) (fun f22_1 H locs ls  hP hD hS hl => ?_)
  refine lv_iconst (v := (-1)) hx hb dX2_openHours_52 (by decide) ?_
  refine lv_istore (lv' := [(5, .int (-1)), (0, .ref (a 6)), (1, .int (nI j)), (2, .int x1), (3, .ref (a 5))]) hx hb dX2_openHours_53 hl (by decide) rfl (fun ls hl => ?_)
  refine lv_bipush (v := 23) hx hb dX2_openHours_55 (by decide) ?_
  refine lv_istore (lv' := [(6, .int 23), (5, .int (-1)), (0, .ref (a 6)), (1, .int (nI j)), (2, .int x1), (3, .ref (a 5))]) hx hb dX2_openHours_57 hl (by decide) rfl (fun ls hl => ?_)
  refine lp_X2_openHours2 (av := (vset av 22 f22_1)) hx hb hml hts hown hG hA hj (24 + 1) 24 (-1) (av 21) (Nat.le_refl _) (by omega) _ _ _ hP hD hS (lv_sub hl [0, 1, 2, 3, 4, 5] rfl) (fun f21_2 H locs ls  hP hD hS hl => ?_)
  have hP9 := hP.sub (ws' := [(a 6, .inr (2, [.ref (a 16), .ref (a 17), .ref (a 18), .ref (a 19), .ref (a 20), .ref (a 21), .ref (a 22), .ref (a 23), .ref (a 24), .ref (a 25), .ref (a 26), .ref (a 27), .int (iv 20), .int (iv 21), .int (iv 22), .int (iv 23)])), (a 21, .inl (cI, 240, .inl f21_2)), (a 22, .inl (cI, 240, .inl f22_1)), (a 5, .inr (4, [.ref (a 13), .ref (a 14), .int (iv 5), .int (iv 6), .int (iv 7), .int (iv 8), .int (iv 9), .int (iv 10), .int (iv 11), .int (iv 12)])), (a 13, .inl (cI, 24, .inl (av 13))), (a 14, .inl (cI, 24, .inl (av 14)))]) [0, 1, 2, 3, 4, 5] rfl
  have hD9 := hD.sub (ws' := [(a 6, .inr (2, [.ref (a 16), .ref (a 17), .ref (a 18), .ref (a 19), .ref (a 20), .ref (a 21), .ref (a 22), .ref (a 23), .ref (a 24), .ref (a 25), .ref (a 26), .ref (a 27), .int (iv 20), .int (iv 21), .int (iv 22), .int (iv 23)])), (a 21, .inl (cI, 240, .inl f21_2)), (a 22, .inl (cI, 240, .inl f22_1)), (a 5, .inr (4, [.ref (a 13), .ref (a 14), .int (iv 5), .int (iv 6), .int (iv 7), .int (iv 8), .int (iv 9), .int (iv 10), .int (iv 11), .int (iv 12)])), (a 13, .inl (cI, 24, .inl (av 13))), (a 14, .inl (cI, 24, .inl (av 14)))]) [0, 1, 2, 3, 4, 5] (by decide) rfl
  exact W.vret hx hb hr (fun t ht hW => ⟨⟨(f21_2, f22_1), rfl, trivial, ⟨by rw [ht]; exact hP9, hD9⟩⟩, hS.F ht⟩) hS.2.2 dX2_openHours_103
