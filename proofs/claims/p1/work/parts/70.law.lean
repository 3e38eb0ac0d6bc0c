/-! THE CLAIM OUT OF ONE WALK OF THE LAW'S BODY. Your part is whole_start (and what it stands on); all else here is the same for every law, but numbers. -/
def R_law : String := "BuoyTenderLaw"
def lw_P (b : Addr) (xs : List Int32) (args : Array Value) (s : State) : Prop := args = #[.ref b] ∧ s.IntsAt b xs ∧ xs.length ≤ 7 ∧ (Jvm.Cond.and given_1 narrow_1).before args s = true
def lw_Q (_ : Array Value) (s : State) (o : Outcome) (t : State) : Prop := o = .returned (some (.int 1)) ∧ Framed s o t [] 600000 7302250
def lw_Z (below : List Frame) (a : Array Value) (s : State) : State → Prop := fun t => ∃ o, t.status = .running ∧ Ended t below o ∧ lw_Q a s o t
/-- the law's own end, with 1 on the stack, nothing written that was there before, its room as the claim has it -/
theorem lw_ret {p : Program} {l : Launch} {e : Env} {s : State} {m : MethodId} {below : List Frame} {meth : Method} {c : Code} {b : Nat} (hx : p.tables.exec = Jvm.exec) (hb : c.code = code) (hr : meth.sig.returnType = ret) (hlocks : meth.locks = false) {pc : Nat} {H : Heap} {ls : Array Slot} (hdg : decode code pc = .ok (.ireturn, 1)) : W p l e room_1 s m #[Value.ref b] below meth c H [] 600000 7302250 (lw_Z below #[Value.ref b] s) (F0 m pc ls [.int 1]) := by
  intro T hT X
  obtain ⟨fs, hret, hrun, hended, hW, hframe⟩ := X.leave (v := some (.int 1)) (hlocks := hlocks) (fun h => by rw [hr] at h; cases h)
  have hmeth' : T.vm.method? m = some meth := X.method'
  refine ⟨T.setFrames fs, ?_, .returned (some (.int 1)), hrun, hended, rfl, ⟨_, rfl⟩, hW, hframe⟩
  jvm_step X.here [X.here.top, hx, hb, hdg, hmeth', hr, ret, narrow_b1]
  (try refine ⟨rfl, ?_⟩); (try refine ⟨rfl, ?_⟩)
  first | (intro acts; rw [hret _ acts rfl rfl rfl]) | rw [hret _ _ rfl rfl rfl]
  exact Steps.refl _
/-- what holds at the law's entry: the machine, the code, the tables' words (any of lw_tbl by 'hts w (by decide +kernel)'), the script of L ints xs at the cell b, what the Statement gives of the start (any of its parts by flat_of_before) -/
def lw_At (p : Program) (s : State) (m : MethodId) (meth : Method) (c : Code) (b L : Nat) (xs : Nat → Int32) : Prop :=
  p.tables.exec = Jvm.exec ∧ c.code = code ∧ meth.sig.returnType = ret ∧ c.maxLocals = 4 ∧ s.vm.findClass R_law = some m.cls ∧ (∀ w ∈ lw_tbl, w.before #[Value.ref b] s = true) ∧ va_X b L xs s s.heap ∧ b < s.heap.size ∧ meth.locks = false ∧ (Jvm.Cond.and given_1 narrow_1).before #[Value.ref b] s = true
set_option maxHeartbeats 4000000 in
set_option maxRecDepth 100000 in
/-- the way back to the head, and out -/
theorem law_end {p : Program} {l : Launch} {e : Env} {s : State} {m : MethodId} {below : List Frame} {meth : Method} {c : Code} {b : Nat} {xs : Nat → Int32} {D : va_G} {cI cJ cZ cM : Nat} {A : Nat → Prop} {H : Heap} {locs : List Loc} {ls : Array Slot} {cells slots : Nat} (C0 : lw_At p s m meth c b 7 xs) (hG : GK D cI cJ cZ cM s) (hA : ∀ q : Nat, s.heap.size ≤ q → A q) (hA2 : ∀ q : Nat, A q → s.heap.size ≤ q) (hS : va_S A s.heap H locs) (hc1 : cells ≤ 600000) (hs1 : slots ≤ 7302250) (hl : lv_has ls 4 [(0, .ref b), (3, .int 0)]) : W p l e room_1 s m #[Value.ref b] below meth c H locs cells slots (lw_Z below #[Value.ref b] s) (F0 m 1068 ls []) := by
  obtain ⟨hx, hb, hr, hml, hown, hts0, hX, hbl, hlocks, hgv⟩ := id C0
  have hts := fun w h => hts0 w (wsL_law_in w h)
  have hbA : ¬ A b := fun h => Nat.not_le.mpr hbl (hA2 _ h)
  have hK := hG.1
  have hN := hG.2
  refine lv_iinc (v := 7) (lv' := [(3, .int 7), (0, .ref b)]) hx hb dL_law_1068 hl (k := 1) rfl (by decide) (by decide) rfl (fun ls hl => ?_)
  refine lv_goto (tgt := 18) hx hb dL_law_1071 (by decide) ?_
  refine lv_iload_n hx hb dL_law_18 rfl (lv_at hl 0 rfl) ?_
  refine lv_aload_n hx hb dL_law_19 rfl (lv_at hl 1 rfl) ?_
  refine va_slen hx hb hX hbl hbA hS dL_law_20 ?_
  refine lv_topi (fun z_1 ez_1 => ?_)
  obtain rfl : z_1 = 7 := ez_1.trans rfl
  refine lv_bipush (v := 7) hx hb dL_law_21 (by decide) ?_
  refine lv_isub hx hb dL_law_23 ?_
  refine lv_topi (fun z_2 ez_2 => ?_)
  obtain rfl : z_2 = 0 := ez_2.trans (by decide)
  refine lv_icmp_gt (tgt := 1074) hx hb dL_law_24 (by decide) (fun _ => ?_) (fun c_3 => False.elim (by revert c_3; decide))
  refine lv_iconst (v := 1) hx hb dL_law_1074 (by decide) ?_
  refine va_forget (fun q hq => hA2 _ (hS.2.2 q hq)) ?_
  refine W.widen (k := 600000) (n := 7302250) hc1 hs1 ?_
  exact lw_ret hx hb hr hlocks dL_law_1075
set_option maxHeartbeats 4000000 in
set_option maxRecDepth 100000 in
/-- the call of depth, and the answers' likeness -/
theorem law_0 {p : Program} {l : Launch} {e : Env} {s : State} {m : MethodId} {below : List Frame} {meth : Method} {c : Code} {b : Nat} {xs : Nat → Int32} {D : va_G} {cI cJ cZ cM : Nat} {A : Nat → Prop} {q0 q1 : Nat} {a n : Nat → Nat} {fc : Nat → Int32} {H : Heap} {locs : List Loc} {ls : Array Slot} (C0 : lw_At p s m meth c b 7 xs) (hG : GK D cI cJ cZ cM s) (hA : ∀ q : Nat, s.heap.size ≤ q → A q) (hA2 : ∀ q : Nat, A q → s.heap.size ≤ q) (hP : va_P D vwCl [(q0, .inr (8, [.ref (a 1), .ref (a 2), .ref (a 3), .ref (a 4), .ref (a 5), .ref (a 6), .ref (a 7), .null, .int 0, .int 0, .int 0, .int 0])), (a 1, .inl (cI, 1600, .inl (fun _ => 0))), (a 2, .inl (cM, 10, .inr (.inr (.inr (.inr (fun _ => none)))))), (a 3, .inl (cI, 48, .inl (fun _ => 0))), (a 4, .inr (7, [.ref (a 8), .ref (a 9), .ref (a 10), .ref (a 11), .int 0])), (a 8, .inl (cI, 100, .inl (fun _ => 0))), (a 9, .inl (cI, 100, .inl (fun _ => 0))), (a 10, .inl (cI, 100, .inl (fun _ => 0))), (a 11, .inl (cI, 100, .inl (fun _ => 0))), (a 5, .inr (4, [.ref (a 12), .ref (a 13), .int 0, .int 0, .int 0, .int 1440, .int 1, .int 0, .int 12, .int 0])), (a 12, .inl (cI, 24, .inl (fun _ => 0))), (a 13, .inl (cI, 24, .inl (fun _ => 0))), (a 6, .inr (6, [.int 0, .int 0, .int 0, .int 0, .int 0, .int 0])), (a 7, .inr (3, [.ref (a 14), .int 0])), (a 14, .inl (cI, 8, .inl (fun _ => 0))), (q1, .inr (9, [.ref (n 0), .int 0, .ref (n 2), .ref (n 3), .ref (n 4), .ref (n 5), .ref (n 6), .int 0, .ref (n 8), .ref (n 9), .ref (n 10), .ref (n 11), .ref (n 12), .ref (n 13), .ref (n 14), .int 0, .int 0, .ref (n 17), .ref (n 18), .ref (n 19), .ref (n 20), .ref (n 21), .ref (n 22), .ref (n 23), .ref (n 24), .ref (n 25), .int 1, .int 0, .int 12, .int 0, .int 0, .int 0, .int 0, .int 1440, .ref (n 34), .ref (n 35), .int 0, .int 0, .int 0, .ref (n 39), .ref (n 40), .ref (n 41), .ref (n 42), .int 0, .int 0, .int 0])), (n 0, .inl (cI, 1600, .inl (fun _ => 0))), (n 2, .inl (cI, 10, .inl (fun _ => 0))), (n 3, .inl (cI, 10, .inl (fun _ => 0))), (n 4, .inl (cI, 10, .inl (fun _ => 0))), (n 5, .inl (cZ, 16000, .inl (fun _ => 0))), (n 6, .inl (cZ, 10, .inl (fun _ => 0))), (n 8, .inl (cI, 10, .inl fc)), (n 9, .inl (cI, 10, .inl (fun _ => 0))), (n 10, .inl (cI, 10, .inl (fun _ => 0))), (n 11, .inl (cI, 10, .inl (fun _ => 0))), (n 12, .inl (cI, 48, .inl (fun _ => 0))), (n 13, .inl (cI, 10, .inl (fun _ => 0))), (n 14, .inl (cI, 80, .inl (fun _ => 0))), (n 17, .inl (cI, 100, .inl (fun _ => 0))), (n 18, .inl (cI, 100, .inl (fun _ => 0))), (n 19, .inl (cI, 100, .inl (fun _ => 0))), (n 20, .inl (cI, 100, .inl (fun _ => 0))), (n 21, .inl (cI, 10, .inl (fun _ => 0))), (n 22, .inl (cI, 10, .inl (fun _ => 0))), (n 23, .inl (cI, 10, .inl (fun _ => 0))), (n 24, .inl (cI, 24, .inl (fun _ => 0))), (n 25, .inl (cI, 24, .inl (fun _ => 0))), (n 34, .inl (cI, 8, .inl (fun _ => 0))), (n 35, .inl (cI, 10240, .inl (fun _ => 0))), (n 39, .inl (cI, 10, .inl (fun _ => 0))), (n 40, .inl (cI, 10, .inl (fun _ => 0))), (n 41, .inl (cI, 1024, .inl (fun _ => 0))), (n 42, .inl (cI, 1024, .inl (fun _ => 0)))] H) (hD : va_D A [(q0, .inr (8, [.ref (a 1), .ref (a 2), .ref (a 3), .ref (a 4), .ref (a 5), .ref (a 6), .ref (a 7), .null, .int 0, .int 0, .int 0, .int 0])), (a 1, .inl (cI, 1600, .inl (fun _ => 0))), (a 2, .inl (cM, 10, .inr (.inr (.inr (.inr (fun _ => none)))))), (a 3, .inl (cI, 48, .inl (fun _ => 0))), (a 4, .inr (7, [.ref (a 8), .ref (a 9), .ref (a 10), .ref (a 11), .int 0])), (a 8, .inl (cI, 100, .inl (fun _ => 0))), (a 9, .inl (cI, 100, .inl (fun _ => 0))), (a 10, .inl (cI, 100, .inl (fun _ => 0))), (a 11, .inl (cI, 100, .inl (fun _ => 0))), (a 5, .inr (4, [.ref (a 12), .ref (a 13), .int 0, .int 0, .int 0, .int 1440, .int 1, .int 0, .int 12, .int 0])), (a 12, .inl (cI, 24, .inl (fun _ => 0))), (a 13, .inl (cI, 24, .inl (fun _ => 0))), (a 6, .inr (6, [.int 0, .int 0, .int 0, .int 0, .int 0, .int 0])), (a 7, .inr (3, [.ref (a 14), .int 0])), (a 14, .inl (cI, 8, .inl (fun _ => 0))), (q1, .inr (9, [.ref (n 0), .int 0, .ref (n 2), .ref (n 3), .ref (n 4), .ref (n 5), .ref (n 6), .int 0, .ref (n 8), .ref (n 9), .ref (n 10), .ref (n 11), .ref (n 12), .ref (n 13), .ref (n 14), .int 0, .int 0, .ref (n 17), .ref (n 18), .ref (n 19), .ref (n 20), .ref (n 21), .ref (n 22), .ref (n 23), .ref (n 24), .ref (n 25), .int 1, .int 0, .int 12, .int 0, .int 0, .int 0, .int 0, .int 1440, .ref (n 34), .ref (n 35), .int 0, .int 0, .int 0, .ref (n 39), .ref (n 40), .ref (n 41), .ref (n 42), .int 0, .int 0, .int 0])), (n 0, .inl (cI, 1600, .inl (fun _ => 0))), (n 2, .inl (cI, 10, .inl (fun _ => 0))), (n 3, .inl (cI, 10, .inl (fun _ => 0))), (n 4, .inl (cI, 10, .inl (fun _ => 0))), (n 5, .inl (cZ, 16000, .inl (fun _ => 0))), (n 6, .inl (cZ, 10, .inl (fun _ => 0))), (n 8, .inl (cI, 10, .inl fc)), (n 9, .inl (cI, 10, .inl (fun _ => 0))), (n 10, .inl (cI, 10, .inl (fun _ => 0))), (n 11, .inl (cI, 10, .inl (fun _ => 0))), (n 12, .inl (cI, 48, .inl (fun _ => 0))), (n 13, .inl (cI, 10, .inl (fun _ => 0))), (n 14, .inl (cI, 80, .inl (fun _ => 0))), (n 17, .inl (cI, 100, .inl (fun _ => 0))), (n 18, .inl (cI, 100, .inl (fun _ => 0))), (n 19, .inl (cI, 100, .inl (fun _ => 0))), (n 20, .inl (cI, 100, .inl (fun _ => 0))), (n 21, .inl (cI, 10, .inl (fun _ => 0))), (n 22, .inl (cI, 10, .inl (fun _ => 0))), (n 23, .inl (cI, 10, .inl (fun _ => 0))), (n 24, .inl (cI, 24, .inl (fun _ => 0))), (n 25, .inl (cI, 24, .inl (fun _ => 0))), (n 34, .inl (cI, 8, .inl (fun _ => 0))), (n 35, .inl (cI, 10240, .inl (fun _ => 0))), (n 39, .inl (cI, 10, .inl (fun _ => 0))), (n 40, .inl (cI, 10, .inl (fun _ => 0))), (n 41, .inl (cI, 1024, .inl (fun _ => 0))), (n 42, .inl (cI, 1024, .inl (fun _ => 0)))]) (hS : va_S A s.heap H locs) (hl : lv_has ls 4 [(3, .int 0), (2, .ref q1), (1, .ref q0), (0, .ref b)]) : W p l e room_1 s m #[Value.ref b] below meth c H locs 44 32807 (lw_Z below #[Value.ref b] s) (F0 m 144 ls []) := by
  obtain ⟨hx, hb, hr, hml, hown, hts0, hX, hbl, hlocks, hgv⟩ := id C0
  have hts := fun w h => hts0 w (wsL_law_in w h)
  have hbA : ¬ A b := fun h => Nat.not_le.mpr hbl (hA2 _ h)
  have hK := hG.1
  have hN := hG.2
  refine lv_aload_n hx hb dL_law_144 rfl (lv_at hl 2 rfl) ?_
  refine lv_aload_n hx hb dL_law_145 rfl (lv_at hl 3 rfl) ?_
  refine lv_iload_n hx hb dL_law_146 rfl (lv_at hl 0 rfl) ?_
  refine lv_iconst (v := 1) hx hb dL_law_147 (by decide) ?_
  refine lv_iadd hx hb dL_law_148 ?_
  refine lv_topi (fun z_1 ez_1 => ?_)
  obtain rfl : z_1 = 1 := ez_1.trans (by decide)
  refine va_sld hx hb hX hbl hbA hS (vp_in_nI (n := 1) (N := 7) (by decide) (by decide)) dL_law_149 ?_
  refine lv_aload_n hx hb dL_law_150 rfl (lv_at hl 3 rfl) ?_
  refine lv_iload_n hx hb dL_law_151 rfl (lv_at hl 0 rfl) ?_
  refine lv_iconst (v := 2) hx hb dL_law_152 (by decide) ?_
  refine lv_iadd hx hb dL_law_153 ?_
  refine lv_topi (fun z_2 ez_2 => ?_)
  obtain rfl : z_2 = 2 := ez_2.trans (by decide)
  refine va_sld hx hb hX hbl hbA hS (vp_in_nI (n := 2) (N := 7) (by decide) (by decide)) dL_law_154 ?_
  refine lv_aload_n hx hb dL_law_155 rfl (lv_at hl 3 rfl) ?_
  refine lv_iload_n hx hb dL_law_156 rfl (lv_at hl 0 rfl) ?_
  refine lv_iconst (v := 3) hx hb dL_law_157 (by decide) ?_
  refine lv_iadd hx hb dL_law_158 ?_
  refine lv_topi (fun z_3 ez_3 => ?_)
  obtain rfl : z_3 = 3 := ez_3.trans (by decide)
  refine va_sld hx hb hX hbl hbA hS (vp_in_nI (n := 3) (N := 7) (by decide) (by decide)) dL_law_159 ?_
  refine lv_aload_n hx hb dL_law_160 rfl (lv_at hl 3 rfl) ?_
  refine lv_iload_n hx hb dL_law_161 rfl (lv_at hl 0 rfl) ?_
  refine lv_iconst (v := 4) hx hb dL_law_162 (by decide) ?_
  refine lv_iadd hx hb dL_law_163 ?_
  refine lv_topi (fun z_4 ez_4 => ?_)
  obtain rfl : z_4 = 4 := ez_4.trans (by decide)
  refine va_sld hx hb hX hbl hbA hS (vp_in_nI (n := 4) (N := 7) (by decide) (by decide)) dL_law_164 ?_
  refine lv_aload_n hx hb dL_law_165 rfl (lv_at hl 3 rfl) ?_
  refine lv_iload_n hx hb dL_law_166 rfl (lv_at hl 0 rfl) ?_
  refine lv_iconst (v := 5) hx hb dL_law_167 (by decide) ?_
  refine lv_iadd hx hb dL_law_168 ?_
  refine lv_topi (fun z_5 ez_5 => ?_)
  obtain rfl : z_5 = 5 := ez_5.trans (by decide)
  refine va_sld hx hb hX hbl hbA hS (vp_in_nI (n := 5) (N := 7) (by decide) (by decide)) dL_law_169 ?_
  have hPc := hP.sub (ws' := [(q0, .inr (8, [.ref (a 1), .ref (a 2), .ref (a 3), .ref (a 4), .ref (a 5), .ref (a 6), .ref (a 7), .null, .int 0, .int 0, .int 0, .int 0])), (a 1, .inl (cI, 1600, .inl (fun _ => 0)))]) [0, 1] rfl
  have hDc := hD.sub (ws' := [(q0, .inr (8, [.ref (a 1), .ref (a 2), .ref (a 3), .ref (a 4), .ref (a 5), .ref (a 6), .ref (a 7), .null, .int 0, .int 0, .int 0, .int 0])), (a 1, .inl (cI, 1600, .inl (fun _ => 0)))]) [0, 1] (by decide) rfl
  have hFc := va_free (wc := [(q0, .inr (8, [.ref (a 1), .ref (a 2), .ref (a 3), .ref (a 4), .ref (a 5), .ref (a 6), .ref (a 7), .null, .int 0, .int 0, .int 0, .int 0])), (a 1, .inl (cI, 1600, .inl (fun _ => 0)))]) hD hS hA [0, 1] rfl
  refine va_calli (va_runV (As := [.int (xs (1 : Int32).toNatClampNeg), .int (xs (2 : Int32).toNatClampNeg), .int (xs (3 : Int32).toNatClampNeg), .int (xs (4 : Int32).toNatClampNeg), .int (xs (5 : Int32).toNatClampNeg)]) (rest := []) ⟨hx, hb, hml, hown, hts⟩ (k_X8_depth l D cI cJ cZ cM q0 a (xs (1 : Int32).toNatClampNeg) (xs (2 : Int32).toNatClampNeg) (xs (3 : Int32).toNatClampNeg) (xs (4 : Int32).toNatClampNeg) (xs (5 : Int32).toNatClampNeg) _) (cwV 5 hts gL_law_X8_depth rfl rfl rfl (by decide +kernel) ⟨Nat.le_of_ble_eq_true rfl, Nat.le_of_ble_eq_true rfl⟩) (rw_V hG hPc hDc (va_recv hK hPc (ci := 8) (q0 := 0) rfl rfl)) rfl rfl hl.1 rfl (lv_room (Nat.le_of_ble_eq_true rfl)) dL_law_170 ⟨Nat.le_of_ble_eq_true rfl, Nat.le_of_ble_eq_true rfl⟩) hS (fun q _ h => hFc q h) hFc (fun r_6 u_6 t_6 H1 locs ht hvm h_6 hB hz1 hk1 hS => ?_)
  obtain ⟨hP, hD⟩ := va_join (wr := [(q1, .inr (9, [.ref (n 0), .int 0, .ref (n 2), .ref (n 3), .ref (n 4), .ref (n 5), .ref (n 6), .int 0, .ref (n 8), .ref (n 9), .ref (n 10), .ref (n 11), .ref (n 12), .ref (n 13), .ref (n 14), .int 0, .int 0, .ref (n 17), .ref (n 18), .ref (n 19), .ref (n 20), .ref (n 21), .ref (n 22), .ref (n 23), .ref (n 24), .ref (n 25), .int 1, .int 0, .int 12, .int 0, .int 0, .int 0, .int 0, .int 1440, .ref (n 34), .ref (n 35), .int 0, .int 0, .int 0, .ref (n 39), .ref (n 40), .ref (n 41), .ref (n 42), .int 0, .int 0, .int 0])), (n 0, .inl (cI, 1600, .inl (fun _ => 0)))]) (w1 := []) hP hD [0, 1] [15, 16] rfl rfl (by decide) (by decide) hk1 hFc (fun k q h => by simp at h) ⟨fun i j p q h => by simp at h, fun k q h => by simp at h⟩
  generalize H1 = H at hP hS ⊢
  have hP : va_P D vwCl [(q1, .inr (9, [.ref (n 0), .int 0, .ref (n 2), .ref (n 3), .ref (n 4), .ref (n 5), .ref (n 6), .int 0, .ref (n 8), .ref (n 9), .ref (n 10), .ref (n 11), .ref (n 12), .ref (n 13), .ref (n 14), .int 0, .int 0, .ref (n 17), .ref (n 18), .ref (n 19), .ref (n 20), .ref (n 21), .ref (n 22), .ref (n 23), .ref (n 24), .ref (n 25), .int 1, .int 0, .int 12, .int 0, .int 0, .int 0, .int 0, .int 1440, .ref (n 34), .ref (n 35), .int 0, .int 0, .int 0, .ref (n 39), .ref (n 40), .ref (n 41), .ref (n 42), .int 0, .int 0, .int 0])), (n 0, .inl (cI, 1600, .inl (fun _ => 0)))] H := hP
  have hD : va_D A [(q1, .inr (9, [.ref (n 0), .int 0, .ref (n 2), .ref (n 3), .ref (n 4), .ref (n 5), .ref (n 6), .int 0, .ref (n 8), .ref (n 9), .ref (n 10), .ref (n 11), .ref (n 12), .ref (n 13), .ref (n 14), .int 0, .int 0, .ref (n 17), .ref (n 18), .ref (n 19), .ref (n 20), .ref (n 21), .ref (n 22), .ref (n 23), .ref (n 24), .ref (n 25), .int 1, .int 0, .int 12, .int 0, .int 0, .int 0, .int 0, .int 1440, .ref (n 34), .ref (n 35), .int 0, .int 0, .int 0, .ref (n 39), .ref (n 40), .ref (n 41), .ref (n 42), .int 0, .int 0, .int 0])), (n 0, .inl (cI, 1600, .inl (fun _ => 0)))] := hD
  refine W.widen (k := 44) (n := 32807) (by decide) (by decide) ?_
  rcases h_6 with ⟨rfl, h_6⟩ | ⟨rfl, h_6⟩
  · refine lv_aload_n hx hb dL_law_173 rfl (lv_at hl 1 rfl) ?_
    refine lv_aload_n hx hb dL_law_174 rfl (lv_at hl 3 rfl) ?_
    refine lv_iload_n hx hb dL_law_175 rfl (lv_at hl 0 rfl) ?_
    refine lv_iconst (v := 1) hx hb dL_law_176 (by decide) ?_
    refine lv_iadd hx hb dL_law_177 ?_
    refine lv_topi (fun z_7 ez_7 => ?_)
    obtain rfl : z_7 = 1 := ez_7.trans (by decide)
    refine va_sld hx hb hX hbl hbA hS (vp_in_nI (n := 1) (N := 7) (by decide) (by decide)) dL_law_178 ?_
    refine lv_aload_n hx hb dL_law_179 rfl (lv_at hl 3 rfl) ?_
    refine lv_iload_n hx hb dL_law_180 rfl (lv_at hl 0 rfl) ?_
    refine lv_iconst (v := 2) hx hb dL_law_181 (by decide) ?_
    refine lv_iadd hx hb dL_law_182 ?_
    refine lv_topi (fun z_8 ez_8 => ?_)
    obtain rfl : z_8 = 2 := ez_8.trans (by decide)
    refine va_sld hx hb hX hbl hbA hS (vp_in_nI (n := 2) (N := 7) (by decide) (by decide)) dL_law_183 ?_
    refine lv_aload_n hx hb dL_law_184 rfl (lv_at hl 3 rfl) ?_
    refine lv_iload_n hx hb dL_law_185 rfl (lv_at hl 0 rfl) ?_
    refine lv_iconst (v := 3) hx hb dL_law_186 (by decide) ?_
    refine lv_iadd hx hb dL_law_187 ?_
    refine lv_topi (fun z_9 ez_9 => ?_)
    obtain rfl : z_9 = 3 := ez_9.trans (by decide)
    refine va_sld hx hb hX hbl hbA hS (vp_in_nI (n := 3) (N := 7) (by decide) (by decide)) dL_law_188 ?_
    refine lv_aload_n hx hb dL_law_189 rfl (lv_at hl 3 rfl) ?_
    refine lv_iload_n hx hb dL_law_190 rfl (lv_at hl 0 rfl) ?_
    refine lv_iconst (v := 4) hx hb dL_law_191 (by decide) ?_
    refine lv_iadd hx hb dL_law_192 ?_
    refine lv_topi (fun z_10 ez_10 => ?_)
    obtain rfl : z_10 = 4 := ez_10.trans (by decide)
    refine va_sld hx hb hX hbl hbA hS (vp_in_nI (n := 4) (N := 7) (by decide) (by decide)) dL_law_193 ?_
    refine lv_aload_n hx hb dL_law_194 rfl (lv_at hl 3 rfl) ?_
    refine lv_iload_n hx hb dL_law_195 rfl (lv_at hl 0 rfl) ?_
    refine lv_iconst (v := 5) hx hb dL_law_196 (by decide) ?_
    refine lv_iadd hx hb dL_law_197 ?_
    refine lv_topi (fun z_11 ez_11 => ?_)
    obtain rfl : z_11 = 5 := ez_11.trans (by decide)
    refine va_sld hx hb hX hbl hbA hS (vp_in_nI (n := 5) (N := 7) (by decide) (by decide)) dL_law_198 ?_
    have hPc := hP.sub (ws' := [(q1, .inr (9, [.ref (n 0), .int 0, .ref (n 2), .ref (n 3), .ref (n 4), .ref (n 5), .ref (n 6), .int 0, .ref (n 8), .ref (n 9), .ref (n 10), .ref (n 11), .ref (n 12), .ref (n 13), .ref (n 14), .int 0, .int 0, .ref (n 17), .ref (n 18), .ref (n 19), .ref (n 20), .ref (n 21), .ref (n 22), .ref (n 23), .ref (n 24), .ref (n 25), .int 1, .int 0, .int 12, .int 0, .int 0, .int 0, .int 0, .int 1440, .ref (n 34), .ref (n 35), .int 0, .int 0, .int 0, .ref (n 39), .ref (n 40), .ref (n 41), .ref (n 42), .int 0, .int 0, .int 0])), (n 0, .inl (cI, 1600, .inl (fun _ => 0)))]) [0, 1] rfl
    have hDc := hD.sub (ws' := [(q1, .inr (9, [.ref (n 0), .int 0, .ref (n 2), .ref (n 3), .ref (n 4), .ref (n 5), .ref (n 6), .int 0, .ref (n 8), .ref (n 9), .ref (n 10), .ref (n 11), .ref (n 12), .ref (n 13), .ref (n 14), .int 0, .int 0, .ref (n 17), .ref (n 18), .ref (n 19), .ref (n 20), .ref (n 21), .ref (n 22), .ref (n 23), .ref (n 24), .ref (n 25), .int 1, .int 0, .int 12, .int 0, .int 0, .int 0, .int 0, .int 1440, .ref (n 34), .ref (n 35), .int 0, .int 0, .int 0, .ref (n 39), .ref (n 40), .ref (n 41), .ref (n 42), .int 0, .int 0, .int 0])), (n 0, .inl (cI, 1600, .inl (fun _ => 0)))]) [0, 1] (by decide) rfl
    have hFc := va_free (wc := [(q1, .inr (9, [.ref (n 0), .int 0, .ref (n 2), .ref (n 3), .ref (n 4), .ref (n 5), .ref (n 6), .int 0, .ref (n 8), .ref (n 9), .ref (n 10), .ref (n 11), .ref (n 12), .ref (n 13), .ref (n 14), .int 0, .int 0, .ref (n 17), .ref (n 18), .ref (n 19), .ref (n 20), .ref (n 21), .ref (n 22), .ref (n 23), .ref (n 24), .ref (n 25), .int 1, .int 0, .int 12, .int 0, .int 0, .int 0, .int 0, .int 1440, .ref (n 34), .ref (n 35), .int 0, .int 0, .int 0, .ref (n 39), .ref (n 40), .ref (n 41), .ref (n 42), .int 0, .int 0, .int 0])), (n 0, .inl (cI, 1600, .inl (fun _ => 0)))]) hD hS hA [0, 1] rfl
    refine va_calli (va_runV (As := [.int (xs (1 : Int32).toNatClampNeg), .int (xs (2 : Int32).toNatClampNeg), .int (xs (3 : Int32).toNatClampNeg), .int (xs (4 : Int32).toNatClampNeg), .int (xs (5 : Int32).toNatClampNeg)]) (rest := [.int 1]) ⟨hx, hb, hml, hown, hts⟩ (k_X9_depth l D cI cJ cZ cM q1 n (xs (1 : Int32).toNatClampNeg) (xs (2 : Int32).toNatClampNeg) (xs (3 : Int32).toNatClampNeg) (xs (4 : Int32).toNatClampNeg) (xs (5 : Int32).toNatClampNeg) _) (cwV 5 hts gL_law_X9_depth rfl rfl rfl (by decide +kernel) ⟨Nat.le_of_ble_eq_true rfl, Nat.le_of_ble_eq_true rfl⟩) (rw_V hG hPc hDc (va_recv hK hPc (ci := 9) (q0 := 0) rfl rfl)) rfl rfl hl.1 rfl (lv_room (Nat.le_of_ble_eq_true rfl)) dL_law_199 ⟨Nat.le_of_ble_eq_true rfl, Nat.le_of_ble_eq_true rfl⟩) hS (fun q _ h => hFc q h) hFc (fun r_12 u_12 t_12 H1 locs ht hvm h_12 hB hz1 hk1 hS => ?_)
    obtain ⟨hP, hD⟩ := va_join (wr := []) (w1 := []) hP hD [0, 1] [] rfl rfl (by decide) (by decide) hk1 hFc (fun k q h => by simp at h) ⟨fun i j p q h => by simp at h, fun k q h => by simp at h⟩
    generalize H1 = H at hP hS ⊢
    have hP : va_P D vwCl [] H := hP
    have hD : va_D A [] := hD
    refine W.widen (k := 44) (n := 32807) (by decide) (by decide) ?_
    rcases h_12 with ⟨rfl, h_12⟩ | ⟨rfl, h_12⟩
    · refine lv_icmp_eq (tgt := 1068) hx hb dL_law_202 (by decide) (fun _ => ?_) (fun c_13 => False.elim (by revert c_13; decide))
      exact law_end C0 hG hA hA2 hS (by decide) (by decide) (lv_sub hl [3, 0] rfl)
    exact absurd h_6 h_12
  refine lv_aload_n hx hb dL_law_173 rfl (lv_at hl 1 rfl) ?_
  refine lv_aload_n hx hb dL_law_174 rfl (lv_at hl 3 rfl) ?_
  refine lv_iload_n hx hb dL_law_175 rfl (lv_at hl 0 rfl) ?_
  refine lv_iconst (v := 1) hx hb dL_law_176 (by decide) ?_
  refine lv_iadd hx hb dL_law_177 ?_
  refine lv_topi (fun z_14 ez_14 => ?_)
  obtain rfl : z_14 = 1 := ez_14.trans (by decide)
  refine va_sld hx hb hX hbl hbA hS (vp_in_nI (n := 1) (N := 7) (by decide) (by decide)) dL_law_178 ?_
  refine lv_aload_n hx hb dL_law_179 rfl (lv_at hl 3 rfl) ?_
  refine lv_iload_n hx hb dL_law_180 rfl (lv_at hl 0 rfl) ?_
  refine lv_iconst (v := 2) hx hb dL_law_181 (by decide) ?_
  refine lv_iadd hx hb dL_law_182 ?_
  refine lv_topi (fun z_15 ez_15 => ?_)
  obtain rfl : z_15 = 2 := ez_15.trans (by decide)
  refine va_sld hx hb hX hbl hbA hS (vp_in_nI (n := 2) (N := 7) (by decide) (by decide)) dL_law_183 ?_
  refine lv_aload_n hx hb dL_law_184 rfl (lv_at hl 3 rfl) ?_
  refine lv_iload_n hx hb dL_law_185 rfl (lv_at hl 0 rfl) ?_
  refine lv_iconst (v := 3) hx hb dL_law_186 (by decide) ?_
  refine lv_iadd hx hb dL_law_187 ?_
  refine lv_topi (fun z_16 ez_16 => ?_)
  obtain rfl : z_16 = 3 := ez_16.trans (by decide)
  refine va_sld hx hb hX hbl hbA hS (vp_in_nI (n := 3) (N := 7) (by decide) (by decide)) dL_law_188 ?_
  refine lv_aload_n hx hb dL_law_189 rfl (lv_at hl 3 rfl) ?_
  refine lv_iload_n hx hb dL_law_190 rfl (lv_at hl 0 rfl) ?_
  refine lv_iconst (v := 4) hx hb dL_law_191 (by decide) ?_
  refine lv_iadd hx hb dL_law_192 ?_
  refine lv_topi (fun z_17 ez_17 => ?_)
  obtain rfl : z_17 = 4 := ez_17.trans (by decide)
  refine va_sld hx hb hX hbl hbA hS (vp_in_nI (n := 4) (N := 7) (by decide) (by decide)) dL_law_193 ?_
  refine lv_aload_n hx hb dL_law_194 rfl (lv_at hl 3 rfl) ?_
  refine lv_iload_n hx hb dL_law_195 rfl (lv_at hl 0 rfl) ?_
  refine lv_iconst (v := 5) hx hb dL_law_196 (by decide) ?_
  refine lv_iadd hx hb dL_law_197 ?_
  refine lv_topi (fun z_18 ez_18 => ?_)
  obtain rfl : z_18 = 5 := ez_18.trans (by decide)
  refine va_sld hx hb hX hbl hbA hS (vp_in_nI (n := 5) (N := 7) (by decide) (by decide)) dL_law_198 ?_
  have hPc := hP.sub (ws' := [(q1, .inr (9, [.ref (n 0), .int 0, .ref (n 2), .ref (n 3), .ref (n 4), .ref (n 5), .ref (n 6), .int 0, .ref (n 8), .ref (n 9), .ref (n 10), .ref (n 11), .ref (n 12), .ref (n 13), .ref (n 14), .int 0, .int 0, .ref (n 17), .ref (n 18), .ref (n 19), .ref (n 20), .ref (n 21), .ref (n 22), .ref (n 23), .ref (n 24), .ref (n 25), .int 1, .int 0, .int 12, .int 0, .int 0, .int 0, .int 0, .int 1440, .ref (n 34), .ref (n 35), .int 0, .int 0, .int 0, .ref (n 39), .ref (n 40), .ref (n 41), .ref (n 42), .int 0, .int 0, .int 0])), (n 0, .inl (cI, 1600, .inl (fun _ => 0)))]) [0, 1] rfl
  have hDc := hD.sub (ws' := [(q1, .inr (9, [.ref (n 0), .int 0, .ref (n 2), .ref (n 3), .ref (n 4), .ref (n 5), .ref (n 6), .int 0, .ref (n 8), .ref (n 9), .ref (n 10), .ref (n 11), .ref (n 12), .ref (n 13), .ref (n 14), .int 0, .int 0, .ref (n 17), .ref (n 18), .ref (n 19), .ref (n 20), .ref (n 21), .ref (n 22), .ref (n 23), .ref (n 24), .ref (n 25), .int 1, .int 0, .int 12, .int 0, .int 0, .int 0, .int 0, .int 1440, .ref (n 34), .ref (n 35), .int 0, .int 0, .int 0, .ref (n 39), .ref (n 40), .ref (n 41), .ref (n 42), .int 0, .int 0, .int 0])), (n 0, .inl (cI, 1600, .inl (fun _ => 0)))]) [0, 1] (by decide) rfl
  have hFc := va_free (wc := [(q1, .inr (9, [.ref (n 0), .int 0, .ref (n 2), .ref (n 3), .ref (n 4), .ref (n 5), .ref (n 6), .int 0, .ref (n 8), .ref (n 9), .ref (n 10), .ref (n 11), .ref (n 12), .ref (n 13), .ref (n 14), .int 0, .int 0, .ref (n 17), .ref (n 18), .ref (n 19), .ref (n 20), .ref (n 21), .ref (n 22), .ref (n 23), .ref (n 24), .ref (n 25), .int 1, .int 0, .int 12, .int 0, .int 0, .int 0, .int 0, .int 1440, .ref (n 34), .ref (n 35), .int 0, .int 0, .int 0, .ref (n 39), .ref (n 40), .ref (n 41), .ref (n 42), .int 0, .int 0, .int 0])), (n 0, .inl (cI, 1600, .inl (fun _ => 0)))]) hD hS hA [0, 1] rfl
  refine va_calli (va_runV (As := [.int (xs (1 : Int32).toNatClampNeg), .int (xs (2 : Int32).toNatClampNeg), .int (xs (3 : Int32).toNatClampNeg), .int (xs (4 : Int32).toNatClampNeg), .int (xs (5 : Int32).toNatClampNeg)]) (rest := [.int 0]) ⟨hx, hb, hml, hown, hts⟩ (k_X9_depth l D cI cJ cZ cM q1 n (xs (1 : Int32).toNatClampNeg) (xs (2 : Int32).toNatClampNeg) (xs (3 : Int32).toNatClampNeg) (xs (4 : Int32).toNatClampNeg) (xs (5 : Int32).toNatClampNeg) _) (cwV 5 hts gL_law_X9_depth rfl rfl rfl (by decide +kernel) ⟨Nat.le_of_ble_eq_true rfl, Nat.le_of_ble_eq_true rfl⟩) (rw_V hG hPc hDc (va_recv hK hPc (ci := 9) (q0 := 0) rfl rfl)) rfl rfl hl.1 rfl (lv_room (Nat.le_of_ble_eq_true rfl)) dL_law_199 ⟨Nat.le_of_ble_eq_true rfl, Nat.le_of_ble_eq_true rfl⟩) hS (fun q _ h => hFc q h) hFc (fun r_19 u_19 t_19 H1 locs ht hvm h_19 hB hz1 hk1 hS => ?_)
  obtain ⟨hP, hD⟩ := va_join (wr := []) (w1 := []) hP hD [0, 1] [] rfl rfl (by decide) (by decide) hk1 hFc (fun k q h => by simp at h) ⟨fun i j p q h => by simp at h, fun k q h => by simp at h⟩
  generalize H1 = H at hP hS ⊢
  have hP : va_P D vwCl [] H := hP
  have hD : va_D A [] := hD
  refine W.widen (k := 44) (n := 32807) (by decide) (by decide) ?_
  rcases h_19 with ⟨rfl, h_19⟩ | ⟨rfl, h_19⟩
  · exact absurd h_19 h_6
  refine lv_icmp_eq (tgt := 1068) hx hb dL_law_202 (by decide) (fun _ => ?_) (fun c_20 => False.elim (by revert c_20; decide))
  exact law_end C0 hG hA hA2 hS (by decide) (by decide) (lv_sub hl [3, 0] rfl)
set_option maxHeartbeats 4000000 in
set_option maxRecDepth 100000 in
/-- the call of mark, and the answers' likeness -/
theorem law_1 {p : Program} {l : Launch} {e : Env} {s : State} {m : MethodId} {below : List Frame} {meth : Method} {c : Code} {b : Nat} {xs : Nat → Int32} {D : va_G} {cI cJ cZ cM : Nat} {A : Nat → Prop} {q0 q1 : Nat} {a n : Nat → Nat} {fc : Nat → Int32} {H : Heap} {locs : List Loc} {ls : Array Slot} (C0 : lw_At p s m meth c b 7 xs) (hG : GK D cI cJ cZ cM s) (hA : ∀ q : Nat, s.heap.size ≤ q → A q) (hA2 : ∀ q : Nat, A q → s.heap.size ≤ q) (hP : va_P D vwCl [(q0, .inr (8, [.ref (a 1), .ref (a 2), .ref (a 3), .ref (a 4), .ref (a 5), .ref (a 6), .ref (a 7), .null, .int 0, .int 0, .int 0, .int 0])), (a 1, .inl (cI, 1600, .inl (fun _ => 0))), (a 2, .inl (cM, 10, .inr (.inr (.inr (.inr (fun _ => none)))))), (a 3, .inl (cI, 48, .inl (fun _ => 0))), (a 4, .inr (7, [.ref (a 8), .ref (a 9), .ref (a 10), .ref (a 11), .int 0])), (a 8, .inl (cI, 100, .inl (fun _ => 0))), (a 9, .inl (cI, 100, .inl (fun _ => 0))), (a 10, .inl (cI, 100, .inl (fun _ => 0))), (a 11, .inl (cI, 100, .inl (fun _ => 0))), (a 5, .inr (4, [.ref (a 12), .ref (a 13), .int 0, .int 0, .int 0, .int 1440, .int 1, .int 0, .int 12, .int 0])), (a 12, .inl (cI, 24, .inl (fun _ => 0))), (a 13, .inl (cI, 24, .inl (fun _ => 0))), (a 6, .inr (6, [.int 0, .int 0, .int 0, .int 0, .int 0, .int 0])), (a 7, .inr (3, [.ref (a 14), .int 0])), (a 14, .inl (cI, 8, .inl (fun _ => 0))), (q1, .inr (9, [.ref (n 0), .int 0, .ref (n 2), .ref (n 3), .ref (n 4), .ref (n 5), .ref (n 6), .int 0, .ref (n 8), .ref (n 9), .ref (n 10), .ref (n 11), .ref (n 12), .ref (n 13), .ref (n 14), .int 0, .int 0, .ref (n 17), .ref (n 18), .ref (n 19), .ref (n 20), .ref (n 21), .ref (n 22), .ref (n 23), .ref (n 24), .ref (n 25), .int 1, .int 0, .int 12, .int 0, .int 0, .int 0, .int 0, .int 1440, .ref (n 34), .ref (n 35), .int 0, .int 0, .int 0, .ref (n 39), .ref (n 40), .ref (n 41), .ref (n 42), .int 0, .int 0, .int 0])), (n 0, .inl (cI, 1600, .inl (fun _ => 0))), (n 2, .inl (cI, 10, .inl (fun _ => 0))), (n 3, .inl (cI, 10, .inl (fun _ => 0))), (n 4, .inl (cI, 10, .inl (fun _ => 0))), (n 5, .inl (cZ, 16000, .inl (fun _ => 0))), (n 6, .inl (cZ, 10, .inl (fun _ => 0))), (n 8, .inl (cI, 10, .inl fc)), (n 9, .inl (cI, 10, .inl (fun _ => 0))), (n 10, .inl (cI, 10, .inl (fun _ => 0))), (n 11, .inl (cI, 10, .inl (fun _ => 0))), (n 12, .inl (cI, 48, .inl (fun _ => 0))), (n 13, .inl (cI, 10, .inl (fun _ => 0))), (n 14, .inl (cI, 80, .inl (fun _ => 0))), (n 17, .inl (cI, 100, .inl (fun _ => 0))), (n 18, .inl (cI, 100, .inl (fun _ => 0))), (n 19, .inl (cI, 100, .inl (fun _ => 0))), (n 20, .inl (cI, 100, .inl (fun _ => 0))), (n 21, .inl (cI, 10, .inl (fun _ => 0))), (n 22, .inl (cI, 10, .inl (fun _ => 0))), (n 23, .inl (cI, 10, .inl (fun _ => 0))), (n 24, .inl (cI, 24, .inl (fun _ => 0))), (n 25, .inl (cI, 24, .inl (fun _ => 0))), (n 34, .inl (cI, 8, .inl (fun _ => 0))), (n 35, .inl (cI, 10240, .inl (fun _ => 0))), (n 39, .inl (cI, 10, .inl (fun _ => 0))), (n 40, .inl (cI, 10, .inl (fun _ => 0))), (n 41, .inl (cI, 1024, .inl (fun _ => 0))), (n 42, .inl (cI, 1024, .inl (fun _ => 0)))] H) (hD : va_D A [(q0, .inr (8, [.ref (a 1), .ref (a 2), .ref (a 3), .ref (a 4), .ref (a 5), .ref (a 6), .ref (a 7), .null, .int 0, .int 0, .int 0, .int 0])), (a 1, .inl (cI, 1600, .inl (fun _ => 0))), (a 2, .inl (cM, 10, .inr (.inr (.inr (.inr (fun _ => none)))))), (a 3, .inl (cI, 48, .inl (fun _ => 0))), (a 4, .inr (7, [.ref (a 8), .ref (a 9), .ref (a 10), .ref (a 11), .int 0])), (a 8, .inl (cI, 100, .inl (fun _ => 0))), (a 9, .inl (cI, 100, .inl (fun _ => 0))), (a 10, .inl (cI, 100, .inl (fun _ => 0))), (a 11, .inl (cI, 100, .inl (fun _ => 0))), (a 5, .inr (4, [.ref (a 12), .ref (a 13), .int 0, .int 0, .int 0, .int 1440, .int 1, .int 0, .int 12, .int 0])), (a 12, .inl (cI, 24, .inl (fun _ => 0))), (a 13, .inl (cI, 24, .inl (fun _ => 0))), (a 6, .inr (6, [.int 0, .int 0, .int 0, .int 0, .int 0, .int 0])), (a 7, .inr (3, [.ref (a 14), .int 0])), (a 14, .inl (cI, 8, .inl (fun _ => 0))), (q1, .inr (9, [.ref (n 0), .int 0, .ref (n 2), .ref (n 3), .ref (n 4), .ref (n 5), .ref (n 6), .int 0, .ref (n 8), .ref (n 9), .ref (n 10), .ref (n 11), .ref (n 12), .ref (n 13), .ref (n 14), .int 0, .int 0, .ref (n 17), .ref (n 18), .ref (n 19), .ref (n 20), .ref (n 21), .ref (n 22), .ref (n 23), .ref (n 24), .ref (n 25), .int 1, .int 0, .int 12, .int 0, .int 0, .int 0, .int 0, .int 1440, .ref (n 34), .ref (n 35), .int 0, .int 0, .int 0, .ref (n 39), .ref (n 40), .ref (n 41), .ref (n 42), .int 0, .int 0, .int 0])), (n 0, .inl (cI, 1600, .inl (fun _ => 0))), (n 2, .inl (cI, 10, .inl (fun _ => 0))), (n 3, .inl (cI, 10, .inl (fun _ => 0))), (n 4, .inl (cI, 10, .inl (fun _ => 0))), (n 5, .inl (cZ, 16000, .inl (fun _ => 0))), (n 6, .inl (cZ, 10, .inl (fun _ => 0))), (n 8, .inl (cI, 10, .inl fc)), (n 9, .inl (cI, 10, .inl (fun _ => 0))), (n 10, .inl (cI, 10, .inl (fun _ => 0))), (n 11, .inl (cI, 10, .inl (fun _ => 0))), (n 12, .inl (cI, 48, .inl (fun _ => 0))), (n 13, .inl (cI, 10, .inl (fun _ => 0))), (n 14, .inl (cI, 80, .inl (fun _ => 0))), (n 17, .inl (cI, 100, .inl (fun _ => 0))), (n 18, .inl (cI, 100, .inl (fun _ => 0))), (n 19, .inl (cI, 100, .inl (fun _ => 0))), (n 20, .inl (cI, 100, .inl (fun _ => 0))), (n 21, .inl (cI, 10, .inl (fun _ => 0))), (n 22, .inl (cI, 10, .inl (fun _ => 0))), (n 23, .inl (cI, 10, .inl (fun _ => 0))), (n 24, .inl (cI, 24, .inl (fun _ => 0))), (n 25, .inl (cI, 24, .inl (fun _ => 0))), (n 34, .inl (cI, 8, .inl (fun _ => 0))), (n 35, .inl (cI, 10240, .inl (fun _ => 0))), (n 39, .inl (cI, 10, .inl (fun _ => 0))), (n 40, .inl (cI, 10, .inl (fun _ => 0))), (n 41, .inl (cI, 1024, .inl (fun _ => 0))), (n 42, .inl (cI, 1024, .inl (fun _ => 0)))]) (hS : va_S A s.heap H locs) (hl : lv_has ls 4 [(3, .int 0), (2, .ref q1), (1, .ref q0), (0, .ref b)]) : W p l e room_1 s m #[Value.ref b] below meth c H locs 44 32807 (lw_Z below #[Value.ref b] s) (F0 m 207 ls []) := by
  obtain ⟨hx, hb, hr, hml, hown, hts0, hX, hbl, hlocks, hgv⟩ := id C0
  have hts := fun w h => hts0 w (wsL_law_in w h)
  have hbA : ¬ A b := fun h => Nat.not_le.mpr hbl (hA2 _ h)
  have hK := hG.1
  have hN := hG.2
  refine lv_aload_n hx hb dL_law_207 rfl (lv_at hl 2 rfl) ?_
  refine lv_aload_n hx hb dL_law_208 rfl (lv_at hl 3 rfl) ?_
  refine lv_iload_n hx hb dL_law_209 rfl (lv_at hl 0 rfl) ?_
  refine lv_iconst (v := 1) hx hb dL_law_210 (by decide) ?_
  refine lv_iadd hx hb dL_law_211 ?_
  refine lv_topi (fun z_1 ez_1 => ?_)
  obtain rfl : z_1 = 1 := ez_1.trans (by decide)
  refine va_sld hx hb hX hbl hbA hS (vp_in_nI (n := 1) (N := 7) (by decide) (by decide)) dL_law_212 ?_
  refine lv_aload_n hx hb dL_law_213 rfl (lv_at hl 3 rfl) ?_
  refine lv_iload_n hx hb dL_law_214 rfl (lv_at hl 0 rfl) ?_
  refine lv_iconst (v := 2) hx hb dL_law_215 (by decide) ?_
  refine lv_iadd hx hb dL_law_216 ?_
  refine lv_topi (fun z_2 ez_2 => ?_)
  obtain rfl : z_2 = 2 := ez_2.trans (by decide)
  refine va_sld hx hb hX hbl hbA hS (vp_in_nI (n := 2) (N := 7) (by decide) (by decide)) dL_law_217 ?_
  refine lv_aload_n hx hb dL_law_218 rfl (lv_at hl 3 rfl) ?_
  refine lv_iload_n hx hb dL_law_219 rfl (lv_at hl 0 rfl) ?_
  refine lv_iconst (v := 3) hx hb dL_law_220 (by decide) ?_
  refine lv_iadd hx hb dL_law_221 ?_
  refine lv_topi (fun z_3 ez_3 => ?_)
  obtain rfl : z_3 = 3 := ez_3.trans (by decide)
  refine va_sld hx hb hX hbl hbA hS (vp_in_nI (n := 3) (N := 7) (by decide) (by decide)) dL_law_222 ?_
  have hPc := hP.sub (ws' := [(q0, .inr (8, [.ref (a 1), .ref (a 2), .ref (a 3), .ref (a 4), .ref (a 5), .ref (a 6), .ref (a 7), .null, .int 0, .int 0, .int 0, .int 0])), (a 2, .inl (cM, 10, .inr (.inr (.inr (.inr (fun _ => none))))))]) [0, 2] rfl
  have hDc := hD.sub (ws' := [(q0, .inr (8, [.ref (a 1), .ref (a 2), .ref (a 3), .ref (a 4), .ref (a 5), .ref (a 6), .ref (a 7), .null, .int 0, .int 0, .int 0, .int 0])), (a 2, .inl (cM, 10, .inr (.inr (.inr (.inr (fun _ => none))))))]) [0, 2] (by decide) rfl
  have hFc := va_free (wc := [(q0, .inr (8, [.ref (a 1), .ref (a 2), .ref (a 3), .ref (a 4), .ref (a 5), .ref (a 6), .ref (a 7), .null, .int 0, .int 0, .int 0, .int 0])), (a 2, .inl (cM, 10, .inr (.inr (.inr (.inr (fun _ => none))))))]) hD hS hA [0, 2] rfl
  refine va_calli (va_runV (As := [.int (xs (1 : Int32).toNatClampNeg), .int (xs (2 : Int32).toNatClampNeg), .int (xs (3 : Int32).toNatClampNeg)]) (rest := []) ⟨hx, hb, hml, hown, hts⟩ (k_X8_mark l D cI cJ cZ cM q0 a (xs (1 : Int32).toNatClampNeg) (xs (2 : Int32).toNatClampNeg) (xs (3 : Int32).toNatClampNeg) _) (cwV 3 hts gL_law_X8_mark rfl rfl rfl (by decide +kernel) ⟨Nat.le_of_ble_eq_true rfl, Nat.le_of_ble_eq_true rfl⟩) (rw_V hG hPc hDc (va_recv hK hPc (ci := 8) (q0 := 0) rfl rfl)) rfl rfl hl.1 rfl (lv_room (Nat.le_of_ble_eq_true rfl)) dL_law_223 ⟨Nat.le_of_ble_eq_true rfl, Nat.le_of_ble_eq_true rfl⟩) hS (fun q _ h => hFc q h) hFc (fun r_4 u_4 t_4 H1 locs ht hvm h_4 hB hz1 hk1 hS => ?_)
  obtain ⟨hP, hD⟩ := va_join (wr := [(q1, .inr (9, [.ref (n 0), .int 0, .ref (n 2), .ref (n 3), .ref (n 4), .ref (n 5), .ref (n 6), .int 0, .ref (n 8), .ref (n 9), .ref (n 10), .ref (n 11), .ref (n 12), .ref (n 13), .ref (n 14), .int 0, .int 0, .ref (n 17), .ref (n 18), .ref (n 19), .ref (n 20), .ref (n 21), .ref (n 22), .ref (n 23), .ref (n 24), .ref (n 25), .int 1, .int 0, .int 12, .int 0, .int 0, .int 0, .int 0, .int 1440, .ref (n 34), .ref (n 35), .int 0, .int 0, .int 0, .ref (n 39), .ref (n 40), .ref (n 41), .ref (n 42), .int 0, .int 0, .int 0])), (n 2, .inl (cI, 10, .inl (fun _ => 0))), (n 3, .inl (cI, 10, .inl (fun _ => 0))), (n 4, .inl (cI, 10, .inl (fun _ => 0)))]) (w1 := []) hP hD [0, 2] [15, 17, 18, 19] rfl rfl (by decide) (by decide) hk1 hFc (fun k q h => by simp at h) ⟨fun i j p q h => by simp at h, fun k q h => by simp at h⟩
  generalize H1 = H at hP hS ⊢
  have hP : va_P D vwCl [(q1, .inr (9, [.ref (n 0), .int 0, .ref (n 2), .ref (n 3), .ref (n 4), .ref (n 5), .ref (n 6), .int 0, .ref (n 8), .ref (n 9), .ref (n 10), .ref (n 11), .ref (n 12), .ref (n 13), .ref (n 14), .int 0, .int 0, .ref (n 17), .ref (n 18), .ref (n 19), .ref (n 20), .ref (n 21), .ref (n 22), .ref (n 23), .ref (n 24), .ref (n 25), .int 1, .int 0, .int 12, .int 0, .int 0, .int 0, .int 0, .int 1440, .ref (n 34), .ref (n 35), .int 0, .int 0, .int 0, .ref (n 39), .ref (n 40), .ref (n 41), .ref (n 42), .int 0, .int 0, .int 0])), (n 2, .inl (cI, 10, .inl (fun _ => 0))), (n 3, .inl (cI, 10, .inl (fun _ => 0))), (n 4, .inl (cI, 10, .inl (fun _ => 0)))] H := hP
  have hD : va_D A [(q1, .inr (9, [.ref (n 0), .int 0, .ref (n 2), .ref (n 3), .ref (n 4), .ref (n 5), .ref (n 6), .int 0, .ref (n 8), .ref (n 9), .ref (n 10), .ref (n 11), .ref (n 12), .ref (n 13), .ref (n 14), .int 0, .int 0, .ref (n 17), .ref (n 18), .ref (n 19), .ref (n 20), .ref (n 21), .ref (n 22), .ref (n 23), .ref (n 24), .ref (n 25), .int 1, .int 0, .int 12, .int 0, .int 0, .int 0, .int 0, .int 1440, .ref (n 34), .ref (n 35), .int 0, .int 0, .int 0, .ref (n 39), .ref (n 40), .ref (n 41), .ref (n 42), .int 0, .int 0, .int 0])), (n 2, .inl (cI, 10, .inl (fun _ => 0))), (n 3, .inl (cI, 10, .inl (fun _ => 0))), (n 4, .inl (cI, 10, .inl (fun _ => 0)))] := hD
  refine W.widen (k := 50) (n := 32875) (by decide) (by decide) ?_
  rcases h_4 with ⟨rfl, h_4⟩ | ⟨rfl, h_4⟩
  · refine lv_aload_n hx hb dL_law_226 rfl (lv_at hl 1 rfl) ?_
    refine lv_aload_n hx hb dL_law_227 rfl (lv_at hl 3 rfl) ?_
    refine lv_iload_n hx hb dL_law_228 rfl (lv_at hl 0 rfl) ?_
    refine lv_iconst (v := 1) hx hb dL_law_229 (by decide) ?_
    refine lv_iadd hx hb dL_law_230 ?_
    refine lv_topi (fun z_5 ez_5 => ?_)
    obtain rfl : z_5 = 1 := ez_5.trans (by decide)
    refine va_sld hx hb hX hbl hbA hS (vp_in_nI (n := 1) (N := 7) (by decide) (by decide)) dL_law_231 ?_
    refine lv_aload_n hx hb dL_law_232 rfl (lv_at hl 3 rfl) ?_
    refine lv_iload_n hx hb dL_law_233 rfl (lv_at hl 0 rfl) ?_
    refine lv_iconst (v := 2) hx hb dL_law_234 (by decide) ?_
    refine lv_iadd hx hb dL_law_235 ?_
    refine lv_topi (fun z_6 ez_6 => ?_)
    obtain rfl : z_6 = 2 := ez_6.trans (by decide)
    refine va_sld hx hb hX hbl hbA hS (vp_in_nI (n := 2) (N := 7) (by decide) (by decide)) dL_law_236 ?_
    refine lv_aload_n hx hb dL_law_237 rfl (lv_at hl 3 rfl) ?_
    refine lv_iload_n hx hb dL_law_238 rfl (lv_at hl 0 rfl) ?_
    refine lv_iconst (v := 3) hx hb dL_law_239 (by decide) ?_
    refine lv_iadd hx hb dL_law_240 ?_
    refine lv_topi (fun z_7 ez_7 => ?_)
    obtain rfl : z_7 = 3 := ez_7.trans (by decide)
    refine va_sld hx hb hX hbl hbA hS (vp_in_nI (n := 3) (N := 7) (by decide) (by decide)) dL_law_241 ?_
    have hPc := hP.sub (ws' := [(q1, .inr (9, [.ref (n 0), .int 0, .ref (n 2), .ref (n 3), .ref (n 4), .ref (n 5), .ref (n 6), .int 0, .ref (n 8), .ref (n 9), .ref (n 10), .ref (n 11), .ref (n 12), .ref (n 13), .ref (n 14), .int 0, .int 0, .ref (n 17), .ref (n 18), .ref (n 19), .ref (n 20), .ref (n 21), .ref (n 22), .ref (n 23), .ref (n 24), .ref (n 25), .int 1, .int 0, .int 12, .int 0, .int 0, .int 0, .int 0, .int 1440, .ref (n 34), .ref (n 35), .int 0, .int 0, .int 0, .ref (n 39), .ref (n 40), .ref (n 41), .ref (n 42), .int 0, .int 0, .int 0])), (n 2, .inl (cI, 10, .inl (fun _ => 0))), (n 3, .inl (cI, 10, .inl (fun _ => 0))), (n 4, .inl (cI, 10, .inl (fun _ => 0)))]) [0, 1, 2, 3] rfl
    have hDc := hD.sub (ws' := [(q1, .inr (9, [.ref (n 0), .int 0, .ref (n 2), .ref (n 3), .ref (n 4), .ref (n 5), .ref (n 6), .int 0, .ref (n 8), .ref (n 9), .ref (n 10), .ref (n 11), .ref (n 12), .ref (n 13), .ref (n 14), .int 0, .int 0, .ref (n 17), .ref (n 18), .ref (n 19), .ref (n 20), .ref (n 21), .ref (n 22), .ref (n 23), .ref (n 24), .ref (n 25), .int 1, .int 0, .int 12, .int 0, .int 0, .int 0, .int 0, .int 1440, .ref (n 34), .ref (n 35), .int 0, .int 0, .int 0, .ref (n 39), .ref (n 40), .ref (n 41), .ref (n 42), .int 0, .int 0, .int 0])), (n 2, .inl (cI, 10, .inl (fun _ => 0))), (n 3, .inl (cI, 10, .inl (fun _ => 0))), (n 4, .inl (cI, 10, .inl (fun _ => 0)))]) [0, 1, 2, 3] (by decide) rfl
    have hFc := va_free (wc := [(q1, .inr (9, [.ref (n 0), .int 0, .ref (n 2), .ref (n 3), .ref (n 4), .ref (n 5), .ref (n 6), .int 0, .ref (n 8), .ref (n 9), .ref (n 10), .ref (n 11), .ref (n 12), .ref (n 13), .ref (n 14), .int 0, .int 0, .ref (n 17), .ref (n 18), .ref (n 19), .ref (n 20), .ref (n 21), .ref (n 22), .ref (n 23), .ref (n 24), .ref (n 25), .int 1, .int 0, .int 12, .int 0, .int 0, .int 0, .int 0, .int 1440, .ref (n 34), .ref (n 35), .int 0, .int 0, .int 0, .ref (n 39), .ref (n 40), .ref (n 41), .ref (n 42), .int 0, .int 0, .int 0])), (n 2, .inl (cI, 10, .inl (fun _ => 0))), (n 3, .inl (cI, 10, .inl (fun _ => 0))), (n 4, .inl (cI, 10, .inl (fun _ => 0)))]) hD hS hA [0, 1, 2, 3] rfl
    refine va_calli (va_runV (As := [.int (xs (1 : Int32).toNatClampNeg), .int (xs (2 : Int32).toNatClampNeg), .int (xs (3 : Int32).toNatClampNeg)]) (rest := [.int 0]) ⟨hx, hb, hml, hown, hts⟩ (k_X9_mark l D cI cJ cZ cM q1 n (xs (1 : Int32).toNatClampNeg) (xs (2 : Int32).toNatClampNeg) (xs (3 : Int32).toNatClampNeg) _) (cwV 3 hts gL_law_X9_mark rfl rfl rfl (by decide +kernel) ⟨Nat.le_of_ble_eq_true rfl, Nat.le_of_ble_eq_true rfl⟩) (rw_V hG hPc hDc (va_recv hK hPc (ci := 9) (q0 := 0) rfl rfl)) rfl rfl hl.1 rfl (lv_room (Nat.le_of_ble_eq_true rfl)) dL_law_242 ⟨Nat.le_of_ble_eq_true rfl, Nat.le_of_ble_eq_true rfl⟩) hS (fun q _ h => hFc q h) hFc (fun r_8 u_8 t_8 H1 locs ht hvm h_8 hB hz1 hk1 hS => ?_)
    obtain ⟨hP, hD⟩ := va_join (wr := []) (w1 := []) hP hD [0, 1, 2, 3] [] rfl rfl (by decide) (by decide) hk1 hFc (fun k q h => by simp at h) ⟨fun i j p q h => by simp at h, fun k q h => by simp at h⟩
    generalize H1 = H at hP hS ⊢
    have hP : va_P D vwCl [] H := hP
    have hD : va_D A [] := hD
    refine W.widen (k := 50) (n := 32875) (by decide) (by decide) ?_
    rcases h_8 with ⟨rfl, h_8⟩ | ⟨rfl, h_8⟩
    · refine lv_icmp_eq (tgt := 1068) hx hb dL_law_245 (by decide) (fun _ => ?_) (fun c_9 => False.elim (by revert c_9; decide))
      exact law_end C0 hG hA hA2 hS (by decide) (by decide) (lv_sub hl [3, 0] rfl)
    exact absurd h_4 h_8
  refine lv_aload_n hx hb dL_law_226 rfl (lv_at hl 1 rfl) ?_
  refine lv_aload_n hx hb dL_law_227 rfl (lv_at hl 3 rfl) ?_
  refine lv_iload_n hx hb dL_law_228 rfl (lv_at hl 0 rfl) ?_
  refine lv_iconst (v := 1) hx hb dL_law_229 (by decide) ?_
  refine lv_iadd hx hb dL_law_230 ?_
  refine lv_topi (fun z_10 ez_10 => ?_)
  obtain rfl : z_10 = 1 := ez_10.trans (by decide)
  refine va_sld hx hb hX hbl hbA hS (vp_in_nI (n := 1) (N := 7) (by decide) (by decide)) dL_law_231 ?_
  refine lv_aload_n hx hb dL_law_232 rfl (lv_at hl 3 rfl) ?_
  refine lv_iload_n hx hb dL_law_233 rfl (lv_at hl 0 rfl) ?_
  refine lv_iconst (v := 2) hx hb dL_law_234 (by decide) ?_
  refine lv_iadd hx hb dL_law_235 ?_
  refine lv_topi (fun z_11 ez_11 => ?_)
  obtain rfl : z_11 = 2 := ez_11.trans (by decide)
  refine va_sld hx hb hX hbl hbA hS (vp_in_nI (n := 2) (N := 7) (by decide) (by decide)) dL_law_236 ?_
  refine lv_aload_n hx hb dL_law_237 rfl (lv_at hl 3 rfl) ?_
  refine lv_iload_n hx hb dL_law_238 rfl (lv_at hl 0 rfl) ?_
  refine lv_iconst (v := 3) hx hb dL_law_239 (by decide) ?_
  refine lv_iadd hx hb dL_law_240 ?_
  refine lv_topi (fun z_12 ez_12 => ?_)
  obtain rfl : z_12 = 3 := ez_12.trans (by decide)
  refine va_sld hx hb hX hbl hbA hS (vp_in_nI (n := 3) (N := 7) (by decide) (by decide)) dL_law_241 ?_
  have hPc := hP.sub (ws' := [(q1, .inr (9, [.ref (n 0), .int 0, .ref (n 2), .ref (n 3), .ref (n 4), .ref (n 5), .ref (n 6), .int 0, .ref (n 8), .ref (n 9), .ref (n 10), .ref (n 11), .ref (n 12), .ref (n 13), .ref (n 14), .int 0, .int 0, .ref (n 17), .ref (n 18), .ref (n 19), .ref (n 20), .ref (n 21), .ref (n 22), .ref (n 23), .ref (n 24), .ref (n 25), .int 1, .int 0, .int 12, .int 0, .int 0, .int 0, .int 0, .int 1440, .ref (n 34), .ref (n 35), .int 0, .int 0, .int 0, .ref (n 39), .ref (n 40), .ref (n 41), .ref (n 42), .int 0, .int 0, .int 0])), (n 2, .inl (cI, 10, .inl (fun _ => 0))), (n 3, .inl (cI, 10, .inl (fun _ => 0))), (n 4, .inl (cI, 10, .inl (fun _ => 0)))]) [0, 1, 2, 3] rfl
  have hDc := hD.sub (ws' := [(q1, .inr (9, [.ref (n 0), .int 0, .ref (n 2), .ref (n 3), .ref (n 4), .ref (n 5), .ref (n 6), .int 0, .ref (n 8), .ref (n 9), .ref (n 10), .ref (n 11), .ref (n 12), .ref (n 13), .ref (n 14), .int 0, .int 0, .ref (n 17), .ref (n 18), .ref (n 19), .ref (n 20), .ref (n 21), .ref (n 22), .ref (n 23), .ref (n 24), .ref (n 25), .int 1, .int 0, .int 12, .int 0, .int 0, .int 0, .int 0, .int 1440, .ref (n 34), .ref (n 35), .int 0, .int 0, .int 0, .ref (n 39), .ref (n 40), .ref (n 41), .ref (n 42), .int 0, .int 0, .int 0])), (n 2, .inl (cI, 10, .inl (fun _ => 0))), (n 3, .inl (cI, 10, .inl (fun _ => 0))), (n 4, .inl (cI, 10, .inl (fun _ => 0)))]) [0, 1, 2, 3] (by decide) rfl
  have hFc := va_free (wc := [(q1, .inr (9, [.ref (n 0), .int 0, .ref (n 2), .ref (n 3), .ref (n 4), .ref (n 5), .ref (n 6), .int 0, .ref (n 8), .ref (n 9), .ref (n 10), .ref (n 11), .ref (n 12), .ref (n 13), .ref (n 14), .int 0, .int 0, .ref (n 17), .ref (n 18), .ref (n 19), .ref (n 20), .ref (n 21), .ref (n 22), .ref (n 23), .ref (n 24), .ref (n 25), .int 1, .int 0, .int 12, .int 0, .int 0, .int 0, .int 0, .int 1440, .ref (n 34), .ref (n 35), .int 0, .int 0, .int 0, .ref (n 39), .ref (n 40), .ref (n 41), .ref (n 42), .int 0, .int 0, .int 0])), (n 2, .inl (cI, 10, .inl (fun _ => 0))), (n 3, .inl (cI, 10, .inl (fun _ => 0))), (n 4, .inl (cI, 10, .inl (fun _ => 0)))]) hD hS hA [0, 1, 2, 3] rfl
  refine va_calli (va_runV (As := [.int (xs (1 : Int32).toNatClampNeg), .int (xs (2 : Int32).toNatClampNeg), .int (xs (3 : Int32).toNatClampNeg)]) (rest := [.int (-1)]) ⟨hx, hb, hml, hown, hts⟩ (k_X9_mark l D cI cJ cZ cM q1 n (xs (1 : Int32).toNatClampNeg) (xs (2 : Int32).toNatClampNeg) (xs (3 : Int32).toNatClampNeg) _) (cwV 3 hts gL_law_X9_mark rfl rfl rfl (by decide +kernel) ⟨Nat.le_of_ble_eq_true rfl, Nat.le_of_ble_eq_true rfl⟩) (rw_V hG hPc hDc (va_recv hK hPc (ci := 9) (q0 := 0) rfl rfl)) rfl rfl hl.1 rfl (lv_room (Nat.le_of_ble_eq_true rfl)) dL_law_242 ⟨Nat.le_of_ble_eq_true rfl, Nat.le_of_ble_eq_true rfl⟩) hS (fun q _ h => hFc q h) hFc (fun r_13 u_13 t_13 H1 locs ht hvm h_13 hB hz1 hk1 hS => ?_)
  obtain ⟨hP, hD⟩ := va_join (wr := []) (w1 := []) hP hD [0, 1, 2, 3] [] rfl rfl (by decide) (by decide) hk1 hFc (fun k q h => by simp at h) ⟨fun i j p q h => by simp at h, fun k q h => by simp at h⟩
  generalize H1 = H at hP hS ⊢
  have hP : va_P D vwCl [] H := hP
  have hD : va_D A [] := hD
  refine W.widen (k := 50) (n := 32875) (by decide) (by decide) ?_
  rcases h_13 with ⟨rfl, h_13⟩ | ⟨rfl, h_13⟩
  · exact absurd h_13 h_4
  refine lv_icmp_eq (tgt := 1068) hx hb dL_law_245 (by decide) (fun _ => ?_) (fun c_14 => False.elim (by revert c_14; decide))
  exact law_end C0 hG hA hA2 hS (by decide) (by decide) (lv_sub hl [3, 0] rfl)
set_option maxHeartbeats 4000000 in
set_option maxRecDepth 100000 in
/-- the call of sight, and the answers' likeness -/
theorem law_2 {p : Program} {l : Launch} {e : Env} {s : State} {m : MethodId} {below : List Frame} {meth : Method} {c : Code} {b : Nat} {xs : Nat → Int32} {D : va_G} {cI cJ cZ cM : Nat} {A : Nat → Prop} {q0 q1 : Nat} {a n : Nat → Nat} {fc : Nat → Int32} {H : Heap} {locs : List Loc} {ls : Array Slot} (C0 : lw_At p s m meth c b 7 xs) (hG : GK D cI cJ cZ cM s) (hA : ∀ q : Nat, s.heap.size ≤ q → A q) (hA2 : ∀ q : Nat, A q → s.heap.size ≤ q) (hP : va_P D vwCl [(q0, .inr (8, [.ref (a 1), .ref (a 2), .ref (a 3), .ref (a 4), .ref (a 5), .ref (a 6), .ref (a 7), .null, .int 0, .int 0, .int 0, .int 0])), (a 1, .inl (cI, 1600, .inl (fun _ => 0))), (a 2, .inl (cM, 10, .inr (.inr (.inr (.inr (fun _ => none)))))), (a 3, .inl (cI, 48, .inl (fun _ => 0))), (a 4, .inr (7, [.ref (a 8), .ref (a 9), .ref (a 10), .ref (a 11), .int 0])), (a 8, .inl (cI, 100, .inl (fun _ => 0))), (a 9, .inl (cI, 100, .inl (fun _ => 0))), (a 10, .inl (cI, 100, .inl (fun _ => 0))), (a 11, .inl (cI, 100, .inl (fun _ => 0))), (a 5, .inr (4, [.ref (a 12), .ref (a 13), .int 0, .int 0, .int 0, .int 1440, .int 1, .int 0, .int 12, .int 0])), (a 12, .inl (cI, 24, .inl (fun _ => 0))), (a 13, .inl (cI, 24, .inl (fun _ => 0))), (a 6, .inr (6, [.int 0, .int 0, .int 0, .int 0, .int 0, .int 0])), (a 7, .inr (3, [.ref (a 14), .int 0])), (a 14, .inl (cI, 8, .inl (fun _ => 0))), (q1, .inr (9, [.ref (n 0), .int 0, .ref (n 2), .ref (n 3), .ref (n 4), .ref (n 5), .ref (n 6), .int 0, .ref (n 8), .ref (n 9), .ref (n 10), .ref (n 11), .ref (n 12), .ref (n 13), .ref (n 14), .int 0, .int 0, .ref (n 17), .ref (n 18), .ref (n 19), .ref (n 20), .ref (n 21), .ref (n 22), .ref (n 23), .ref (n 24), .ref (n 25), .int 1, .int 0, .int 12, .int 0, .int 0, .int 0, .int 0, .int 1440, .ref (n 34), .ref (n 35), .int 0, .int 0, .int 0, .ref (n 39), .ref (n 40), .ref (n 41), .ref (n 42), .int 0, .int 0, .int 0])), (n 0, .inl (cI, 1600, .inl (fun _ => 0))), (n 2, .inl (cI, 10, .inl (fun _ => 0))), (n 3, .inl (cI, 10, .inl (fun _ => 0))), (n 4, .inl (cI, 10, .inl (fun _ => 0))), (n 5, .inl (cZ, 16000, .inl (fun _ => 0))), (n 6, .inl (cZ, 10, .inl (fun _ => 0))), (n 8, .inl (cI, 10, .inl fc)), (n 9, .inl (cI, 10, .inl (fun _ => 0))), (n 10, .inl (cI, 10, .inl (fun _ => 0))), (n 11, .inl (cI, 10, .inl (fun _ => 0))), (n 12, .inl (cI, 48, .inl (fun _ => 0))), (n 13, .inl (cI, 10, .inl (fun _ => 0))), (n 14, .inl (cI, 80, .inl (fun _ => 0))), (n 17, .inl (cI, 100, .inl (fun _ => 0))), (n 18, .inl (cI, 100, .inl (fun _ => 0))), (n 19, .inl (cI, 100, .inl (fun _ => 0))), (n 20, .inl (cI, 100, .inl (fun _ => 0))), (n 21, .inl (cI, 10, .inl (fun _ => 0))), (n 22, .inl (cI, 10, .inl (fun _ => 0))), (n 23, .inl (cI, 10, .inl (fun _ => 0))), (n 24, .inl (cI, 24, .inl (fun _ => 0))), (n 25, .inl (cI, 24, .inl (fun _ => 0))), (n 34, .inl (cI, 8, .inl (fun _ => 0))), (n 35, .inl (cI, 10240, .inl (fun _ => 0))), (n 39, .inl (cI, 10, .inl (fun _ => 0))), (n 40, .inl (cI, 10, .inl (fun _ => 0))), (n 41, .inl (cI, 1024, .inl (fun _ => 0))), (n 42, .inl (cI, 1024, .inl (fun _ => 0)))] H) (hD : va_D A [(q0, .inr (8, [.ref (a 1), .ref (a 2), .ref (a 3), .ref (a 4), .ref (a 5), .ref (a 6), .ref (a 7), .null, .int 0, .int 0, .int 0, .int 0])), (a 1, .inl (cI, 1600, .inl (fun _ => 0))), (a 2, .inl (cM, 10, .inr (.inr (.inr (.inr (fun _ => none)))))), (a 3, .inl (cI, 48, .inl (fun _ => 0))), (a 4, .inr (7, [.ref (a 8), .ref (a 9), .ref (a 10), .ref (a 11), .int 0])), (a 8, .inl (cI, 100, .inl (fun _ => 0))), (a 9, .inl (cI, 100, .inl (fun _ => 0))), (a 10, .inl (cI, 100, .inl (fun _ => 0))), (a 11, .inl (cI, 100, .inl (fun _ => 0))), (a 5, .inr (4, [.ref (a 12), .ref (a 13), .int 0, .int 0, .int 0, .int 1440, .int 1, .int 0, .int 12, .int 0])), (a 12, .inl (cI, 24, .inl (fun _ => 0))), (a 13, .inl (cI, 24, .inl (fun _ => 0))), (a 6, .inr (6, [.int 0, .int 0, .int 0, .int 0, .int 0, .int 0])), (a 7, .inr (3, [.ref (a 14), .int 0])), (a 14, .inl (cI, 8, .inl (fun _ => 0))), (q1, .inr (9, [.ref (n 0), .int 0, .ref (n 2), .ref (n 3), .ref (n 4), .ref (n 5), .ref (n 6), .int 0, .ref (n 8), .ref (n 9), .ref (n 10), .ref (n 11), .ref (n 12), .ref (n 13), .ref (n 14), .int 0, .int 0, .ref (n 17), .ref (n 18), .ref (n 19), .ref (n 20), .ref (n 21), .ref (n 22), .ref (n 23), .ref (n 24), .ref (n 25), .int 1, .int 0, .int 12, .int 0, .int 0, .int 0, .int 0, .int 1440, .ref (n 34), .ref (n 35), .int 0, .int 0, .int 0, .ref (n 39), .ref (n 40), .ref (n 41), .ref (n 42), .int 0, .int 0, .int 0])), (n 0, .inl (cI, 1600, .inl (fun _ => 0))), (n 2, .inl (cI, 10, .inl (fun _ => 0))), (n 3, .inl (cI, 10, .inl (fun _ => 0))), (n 4, .inl (cI, 10, .inl (fun _ => 0))), (n 5, .inl (cZ, 16000, .inl (fun _ => 0))), (n 6, .inl (cZ, 10, .inl (fun _ => 0))), (n 8, .inl (cI, 10, .inl fc)), (n 9, .inl (cI, 10, .inl (fun _ => 0))), (n 10, .inl (cI, 10, .inl (fun _ => 0))), (n 11, .inl (cI, 10, .inl (fun _ => 0))), (n 12, .inl (cI, 48, .inl (fun _ => 0))), (n 13, .inl (cI, 10, .inl (fun _ => 0))), (n 14, .inl (cI, 80, .inl (fun _ => 0))), (n 17, .inl (cI, 100, .inl (fun _ => 0))), (n 18, .inl (cI, 100, .inl (fun _ => 0))), (n 19, .inl (cI, 100, .inl (fun _ => 0))), (n 20, .inl (cI, 100, .inl (fun _ => 0))), (n 21, .inl (cI, 10, .inl (fun _ => 0))), (n 22, .inl (cI, 10, .inl (fun _ => 0))), (n 23, .inl (cI, 10, .inl (fun _ => 0))), (n 24, .inl (cI, 24, .inl (fun _ => 0))), (n 25, .inl (cI, 24, .inl (fun _ => 0))), (n 34, .inl (cI, 8, .inl (fun _ => 0))), (n 35, .inl (cI, 10240, .inl (fun _ => 0))), (n 39, .inl (cI, 10, .inl (fun _ => 0))), (n 40, .inl (cI, 10, .inl (fun _ => 0))), (n 41, .inl (cI, 1024, .inl (fun _ => 0))), (n 42, .inl (cI, 1024, .inl (fun _ => 0)))]) (hS : va_S A s.heap H locs) (hl : lv_has ls 4 [(3, .int 0), (2, .ref q1), (1, .ref q0), (0, .ref b)]) : W p l e room_1 s m #[Value.ref b] below meth c H locs 44 32807 (lw_Z below #[Value.ref b] s) (F0 m 250 ls []) := by
  obtain ⟨hx, hb, hr, hml, hown, hts0, hX, hbl, hlocks, hgv⟩ := id C0
  have hts := fun w h => hts0 w (wsL_law_in w h)
  have hbA : ¬ A b := fun h => Nat.not_le.mpr hbl (hA2 _ h)
  have hK := hG.1
  have hN := hG.2
  refine lv_aload_n hx hb dL_law_250 rfl (lv_at hl 2 rfl) ?_
  refine lv_aload_n hx hb dL_law_251 rfl (lv_at hl 3 rfl) ?_
  refine lv_iload_n hx hb dL_law_252 rfl (lv_at hl 0 rfl) ?_
  refine lv_iconst (v := 1) hx hb dL_law_253 (by decide) ?_
  refine lv_iadd hx hb dL_law_254 ?_
  refine lv_topi (fun z_1 ez_1 => ?_)
  obtain rfl : z_1 = 1 := ez_1.trans (by decide)
  refine va_sld hx hb hX hbl hbA hS (vp_in_nI (n := 1) (N := 7) (by decide) (by decide)) dL_law_255 ?_
  have hPc := hP.sub (ws' := [(q0, .inr (8, [.ref (a 1), .ref (a 2), .ref (a 3), .ref (a 4), .ref (a 5), .ref (a 6), .ref (a 7), .null, .int 0, .int 0, .int 0, .int 0])), (a 1, .inl (cI, 1600, .inl (fun _ => 0))), (a 2, .inl (cM, 10, .inr (.inr (.inr (.inr (fun _ => none)))))), (a 3, .inl (cI, 48, .inl (fun _ => 0))), (a 4, .inr (7, [.ref (a 8), .ref (a 9), .ref (a 10), .ref (a 11), .int 0])), (a 8, .inl (cI, 100, .inl (fun _ => 0))), (a 9, .inl (cI, 100, .inl (fun _ => 0))), (a 10, .inl (cI, 100, .inl (fun _ => 0))), (a 11, .inl (cI, 100, .inl (fun _ => 0))), (a 5, .inr (4, [.ref (a 12), .ref (a 13), .int 0, .int 0, .int 0, .int 1440, .int 1, .int 0, .int 12, .int 0])), (a 12, .inl (cI, 24, .inl (fun _ => 0))), (a 13, .inl (cI, 24, .inl (fun _ => 0))), (a 6, .inr (6, [.int 0, .int 0, .int 0, .int 0, .int 0, .int 0])), (a 7, .inr (3, [.ref (a 14), .int 0])), (a 14, .inl (cI, 8, .inl (fun _ => 0)))]) [0, 1, 2, 3, 4, 5, 6, 7, 8, 9, 10, 11, 12, 13, 14] rfl
  refine vp_callSi (va_Run.run (va_runV (As := [.int (xs (1 : Int32).toNatClampNeg)]) (rest := []) ⟨hx, hb, hml, hown, hts⟩ (k_X8_sight l D cI cJ cZ cM q0 a (xs (1 : Int32).toNatClampNeg)) (cwV 1 hts gL_law_X8_sight rfl rfl rfl (by decide +kernel) ⟨Nat.le_of_ble_eq_true rfl, Nat.le_of_ble_eq_true rfl⟩) (ro_V hG hPc (va_recv hK hPc (ci := 8) (q0 := 0) rfl rfl)) rfl rfl hl.1 rfl (lv_room (Nat.le_of_ble_eq_true rfl)) dL_law_256 ⟨Nat.le_of_ble_eq_true rfl, Nat.le_of_ble_eq_true rfl⟩)) (fun r_2 h_2 => ?_)
  obtain rfl : r_2 = 0 := h_2
  refine lv_aload_n hx hb dL_law_259 rfl (lv_at hl 1 rfl) ?_
  refine lv_aload_n hx hb dL_law_260 rfl (lv_at hl 3 rfl) ?_
  refine lv_iload_n hx hb dL_law_261 rfl (lv_at hl 0 rfl) ?_
  refine lv_iconst (v := 1) hx hb dL_law_262 (by decide) ?_
  refine lv_iadd hx hb dL_law_263 ?_
  refine lv_topi (fun z_3 ez_3 => ?_)
  obtain rfl : z_3 = 1 := ez_3.trans (by decide)
  refine va_sld hx hb hX hbl hbA hS (vp_in_nI (n := 1) (N := 7) (by decide) (by decide)) dL_law_264 ?_
  have hPc := hP.sub (ws' := [(q1, .inr (9, [.ref (n 0), .int 0, .ref (n 2), .ref (n 3), .ref (n 4), .ref (n 5), .ref (n 6), .int 0, .ref (n 8), .ref (n 9), .ref (n 10), .ref (n 11), .ref (n 12), .ref (n 13), .ref (n 14), .int 0, .int 0, .ref (n 17), .ref (n 18), .ref (n 19), .ref (n 20), .ref (n 21), .ref (n 22), .ref (n 23), .ref (n 24), .ref (n 25), .int 1, .int 0, .int 12, .int 0, .int 0, .int 0, .int 0, .int 1440, .ref (n 34), .ref (n 35), .int 0, .int 0, .int 0, .ref (n 39), .ref (n 40), .ref (n 41), .ref (n 42), .int 0, .int 0, .int 0]))]) [15] rfl
  refine vp_callSi (va_Run.run (va_runV (As := [.int (xs (1 : Int32).toNatClampNeg)]) (rest := [.int 0]) ⟨hx, hb, hml, hown, hts⟩ (k_X9_sight l D cI cJ cZ cM q1 n (xs (1 : Int32).toNatClampNeg)) (cwV 1 hts gL_law_X9_sight rfl rfl rfl (by decide +kernel) ⟨Nat.le_of_ble_eq_true rfl, Nat.le_of_ble_eq_true rfl⟩) (ro_V hG hPc (va_recv hK hPc (ci := 9) (q0 := 0) rfl rfl)) rfl rfl hl.1 rfl (lv_room (Nat.le_of_ble_eq_true rfl)) dL_law_265 ⟨Nat.le_of_ble_eq_true rfl, Nat.le_of_ble_eq_true rfl⟩)) (fun r_4 h_4 => ?_)
  obtain rfl : r_4 = 0 := h_4
  refine lv_icmp_eq (tgt := 1068) hx hb dL_law_268 (by decide) (fun _ => ?_) (fun c_5 => False.elim (by revert c_5; decide))
  exact law_end C0 hG hA hA2 hS (by decide) (by decide) (lv_sub hl [3, 0] rfl)
set_option maxHeartbeats 4000000 in
set_option maxRecDepth 100000 in
/-- the call of bearing, and the answers' likeness -/
theorem law_3 {p : Program} {l : Launch} {e : Env} {s : State} {m : MethodId} {below : List Frame} {meth : Method} {c : Code} {b : Nat} {xs : Nat → Int32} {D : va_G} {cI cJ cZ cM : Nat} {A : Nat → Prop} {q0 q1 : Nat} {a n : Nat → Nat} {fc : Nat → Int32} {H : Heap} {locs : List Loc} {ls : Array Slot} (C0 : lw_At p s m meth c b 7 xs) (hG : GK D cI cJ cZ cM s) (hA : ∀ q : Nat, s.heap.size ≤ q → A q) (hA2 : ∀ q : Nat, A q → s.heap.size ≤ q) (hP : va_P D vwCl [(q0, .inr (8, [.ref (a 1), .ref (a 2), .ref (a 3), .ref (a 4), .ref (a 5), .ref (a 6), .ref (a 7), .null, .int 0, .int 0, .int 0, .int 0])), (a 1, .inl (cI, 1600, .inl (fun _ => 0))), (a 2, .inl (cM, 10, .inr (.inr (.inr (.inr (fun _ => none)))))), (a 3, .inl (cI, 48, .inl (fun _ => 0))), (a 4, .inr (7, [.ref (a 8), .ref (a 9), .ref (a 10), .ref (a 11), .int 0])), (a 8, .inl (cI, 100, .inl (fun _ => 0))), (a 9, .inl (cI, 100, .inl (fun _ => 0))), (a 10, .inl (cI, 100, .inl (fun _ => 0))), (a 11, .inl (cI, 100, .inl (fun _ => 0))), (a 5, .inr (4, [.ref (a 12), .ref (a 13), .int 0, .int 0, .int 0, .int 1440, .int 1, .int 0, .int 12, .int 0])), (a 12, .inl (cI, 24, .inl (fun _ => 0))), (a 13, .inl (cI, 24, .inl (fun _ => 0))), (a 6, .inr (6, [.int 0, .int 0, .int 0, .int 0, .int 0, .int 0])), (a 7, .inr (3, [.ref (a 14), .int 0])), (a 14, .inl (cI, 8, .inl (fun _ => 0))), (q1, .inr (9, [.ref (n 0), .int 0, .ref (n 2), .ref (n 3), .ref (n 4), .ref (n 5), .ref (n 6), .int 0, .ref (n 8), .ref (n 9), .ref (n 10), .ref (n 11), .ref (n 12), .ref (n 13), .ref (n 14), .int 0, .int 0, .ref (n 17), .ref (n 18), .ref (n 19), .ref (n 20), .ref (n 21), .ref (n 22), .ref (n 23), .ref (n 24), .ref (n 25), .int 1, .int 0, .int 12, .int 0, .int 0, .int 0, .int 0, .int 1440, .ref (n 34), .ref (n 35), .int 0, .int 0, .int 0, .ref (n 39), .ref (n 40), .ref (n 41), .ref (n 42), .int 0, .int 0, .int 0])), (n 0, .inl (cI, 1600, .inl (fun _ => 0))), (n 2, .inl (cI, 10, .inl (fun _ => 0))), (n 3, .inl (cI, 10, .inl (fun _ => 0))), (n 4, .inl (cI, 10, .inl (fun _ => 0))), (n 5, .inl (cZ, 16000, .inl (fun _ => 0))), (n 6, .inl (cZ, 10, .inl (fun _ => 0))), (n 8, .inl (cI, 10, .inl fc)), (n 9, .inl (cI, 10, .inl (fun _ => 0))), (n 10, .inl (cI, 10, .inl (fun _ => 0))), (n 11, .inl (cI, 10, .inl (fun _ => 0))), (n 12, .inl (cI, 48, .inl (fun _ => 0))), (n 13, .inl (cI, 10, .inl (fun _ => 0))), (n 14, .inl (cI, 80, .inl (fun _ => 0))), (n 17, .inl (cI, 100, .inl (fun _ => 0))), (n 18, .inl (cI, 100, .inl (fun _ => 0))), (n 19, .inl (cI, 100, .inl (fun _ => 0))), (n 20, .inl (cI, 100, .inl (fun _ => 0))), (n 21, .inl (cI, 10, .inl (fun _ => 0))), (n 22, .inl (cI, 10, .inl (fun _ => 0))), (n 23, .inl (cI, 10, .inl (fun _ => 0))), (n 24, .inl (cI, 24, .inl (fun _ => 0))), (n 25, .inl (cI, 24, .inl (fun _ => 0))), (n 34, .inl (cI, 8, .inl (fun _ => 0))), (n 35, .inl (cI, 10240, .inl (fun _ => 0))), (n 39, .inl (cI, 10, .inl (fun _ => 0))), (n 40, .inl (cI, 10, .inl (fun _ => 0))), (n 41, .inl (cI, 1024, .inl (fun _ => 0))), (n 42, .inl (cI, 1024, .inl (fun _ => 0)))] H) (hD : va_D A [(q0, .inr (8, [.ref (a 1), .ref (a 2), .ref (a 3), .ref (a 4), .ref (a 5), .ref (a 6), .ref (a 7), .null, .int 0, .int 0, .int 0, .int 0])), (a 1, .inl (cI, 1600, .inl (fun _ => 0))), (a 2, .inl (cM, 10, .inr (.inr (.inr (.inr (fun _ => none)))))), (a 3, .inl (cI, 48, .inl (fun _ => 0))), (a 4, .inr (7, [.ref (a 8), .ref (a 9), .ref (a 10), .ref (a 11), .int 0])), (a 8, .inl (cI, 100, .inl (fun _ => 0))), (a 9, .inl (cI, 100, .inl (fun _ => 0))), (a 10, .inl (cI, 100, .inl (fun _ => 0))), (a 11, .inl (cI, 100, .inl (fun _ => 0))), (a 5, .inr (4, [.ref (a 12), .ref (a 13), .int 0, .int 0, .int 0, .int 1440, .int 1, .int 0, .int 12, .int 0])), (a 12, .inl (cI, 24, .inl (fun _ => 0))), (a 13, .inl (cI, 24, .inl (fun _ => 0))), (a 6, .inr (6, [.int 0, .int 0, .int 0, .int 0, .int 0, .int 0])), (a 7, .inr (3, [.ref (a 14), .int 0])), (a 14, .inl (cI, 8, .inl (fun _ => 0))), (q1, .inr (9, [.ref (n 0), .int 0, .ref (n 2), .ref (n 3), .ref (n 4), .ref (n 5), .ref (n 6), .int 0, .ref (n 8), .ref (n 9), .ref (n 10), .ref (n 11), .ref (n 12), .ref (n 13), .ref (n 14), .int 0, .int 0, .ref (n 17), .ref (n 18), .ref (n 19), .ref (n 20), .ref (n 21), .ref (n 22), .ref (n 23), .ref (n 24), .ref (n 25), .int 1, .int 0, .int 12, .int 0, .int 0, .int 0, .int 0, .int 1440, .ref (n 34), .ref (n 35), .int 0, .int 0, .int 0, .ref (n 39), .ref (n 40), .ref (n 41), .ref (n 42), .int 0, .int 0, .int 0])), (n 0, .inl (cI, 1600, .inl (fun _ => 0))), (n 2, .inl (cI, 10, .inl (fun _ => 0))), (n 3, .inl (cI, 10, .inl (fun _ => 0))), (n 4, .inl (cI, 10, .inl (fun _ => 0))), (n 5, .inl (cZ, 16000, .inl (fun _ => 0))), (n 6, .inl (cZ, 10, .inl (fun _ => 0))), (n 8, .inl (cI, 10, .inl fc)), (n 9, .inl (cI, 10, .inl (fun _ => 0))), (n 10, .inl (cI, 10, .inl (fun _ => 0))), (n 11, .inl (cI, 10, .inl (fun _ => 0))), (n 12, .inl (cI, 48, .inl (fun _ => 0))), (n 13, .inl (cI, 10, .inl (fun _ => 0))), (n 14, .inl (cI, 80, .inl (fun _ => 0))), (n 17, .inl (cI, 100, .inl (fun _ => 0))), (n 18, .inl (cI, 100, .inl (fun _ => 0))), (n 19, .inl (cI, 100, .inl (fun _ => 0))), (n 20, .inl (cI, 100, .inl (fun _ => 0))), (n 21, .inl (cI, 10, .inl (fun _ => 0))), (n 22, .inl (cI, 10, .inl (fun _ => 0))), (n 23, .inl (cI, 10, .inl (fun _ => 0))), (n 24, .inl (cI, 24, .inl (fun _ => 0))), (n 25, .inl (cI, 24, .inl (fun _ => 0))), (n 34, .inl (cI, 8, .inl (fun _ => 0))), (n 35, .inl (cI, 10240, .inl (fun _ => 0))), (n 39, .inl (cI, 10, .inl (fun _ => 0))), (n 40, .inl (cI, 10, .inl (fun _ => 0))), (n 41, .inl (cI, 1024, .inl (fun _ => 0))), (n 42, .inl (cI, 1024, .inl (fun _ => 0)))]) (hS : va_S A s.heap H locs) (hl : lv_has ls 4 [(3, .int 0), (2, .ref q1), (1, .ref q0), (0, .ref b)]) : W p l e room_1 s m #[Value.ref b] below meth c H locs 44 32807 (lw_Z below #[Value.ref b] s) (F0 m 273 ls []) := by
  obtain ⟨hx, hb, hr, hml, hown, hts0, hX, hbl, hlocks, hgv⟩ := id C0
  have hts := fun w h => hts0 w (wsL_law_in w h)
  have hbA : ¬ A b := fun h => Nat.not_le.mpr hbl (hA2 _ h)
  have hK := hG.1
  have hN := hG.2
  refine lv_aload_n hx hb dL_law_273 rfl (lv_at hl 2 rfl) ?_
  refine lv_aload_n hx hb dL_law_274 rfl (lv_at hl 3 rfl) ?_
  refine lv_iload_n hx hb dL_law_275 rfl (lv_at hl 0 rfl) ?_
  refine lv_iconst (v := 1) hx hb dL_law_276 (by decide) ?_
  refine lv_iadd hx hb dL_law_277 ?_
  refine lv_topi (fun z_1 ez_1 => ?_)
  obtain rfl : z_1 = 1 := ez_1.trans (by decide)
  refine va_sld hx hb hX hbl hbA hS (vp_in_nI (n := 1) (N := 7) (by decide) (by decide)) dL_law_278 ?_
  refine lv_aload_n hx hb dL_law_279 rfl (lv_at hl 3 rfl) ?_
  refine lv_iload_n hx hb dL_law_280 rfl (lv_at hl 0 rfl) ?_
  refine lv_iconst (v := 2) hx hb dL_law_281 (by decide) ?_
  refine lv_iadd hx hb dL_law_282 ?_
  refine lv_topi (fun z_2 ez_2 => ?_)
  obtain rfl : z_2 = 2 := ez_2.trans (by decide)
  refine va_sld hx hb hX hbl hbA hS (vp_in_nI (n := 2) (N := 7) (by decide) (by decide)) dL_law_283 ?_
  refine lv_aload_n hx hb dL_law_284 rfl (lv_at hl 3 rfl) ?_
  refine lv_iload_n hx hb dL_law_285 rfl (lv_at hl 0 rfl) ?_
  refine lv_iconst (v := 3) hx hb dL_law_286 (by decide) ?_
  refine lv_iadd hx hb dL_law_287 ?_
  refine lv_topi (fun z_3 ez_3 => ?_)
  obtain rfl : z_3 = 3 := ez_3.trans (by decide)
  refine va_sld hx hb hX hbl hbA hS (vp_in_nI (n := 3) (N := 7) (by decide) (by decide)) dL_law_288 ?_
  refine lv_aload_n hx hb dL_law_289 rfl (lv_at hl 3 rfl) ?_
  refine lv_iload_n hx hb dL_law_290 rfl (lv_at hl 0 rfl) ?_
  refine lv_iconst (v := 4) hx hb dL_law_291 (by decide) ?_
  refine lv_iadd hx hb dL_law_292 ?_
  refine lv_topi (fun z_4 ez_4 => ?_)
  obtain rfl : z_4 = 4 := ez_4.trans (by decide)
  refine va_sld hx hb hX hbl hbA hS (vp_in_nI (n := 4) (N := 7) (by decide) (by decide)) dL_law_293 ?_
  refine lv_aload_n hx hb dL_law_294 rfl (lv_at hl 3 rfl) ?_
  refine lv_iload_n hx hb dL_law_295 rfl (lv_at hl 0 rfl) ?_
  refine lv_iconst (v := 5) hx hb dL_law_296 (by decide) ?_
  refine lv_iadd hx hb dL_law_297 ?_
  refine lv_topi (fun z_5 ez_5 => ?_)
  obtain rfl : z_5 = 5 := ez_5.trans (by decide)
  refine va_sld hx hb hX hbl hbA hS (vp_in_nI (n := 5) (N := 7) (by decide) (by decide)) dL_law_298 ?_
  refine lv_aload_n hx hb dL_law_299 rfl (lv_at hl 3 rfl) ?_
  refine lv_iload_n hx hb dL_law_300 rfl (lv_at hl 0 rfl) ?_
  refine lv_bipush (v := 6) hx hb dL_law_301 (by decide) ?_
  refine lv_iadd hx hb dL_law_303 ?_
  refine lv_topi (fun z_6 ez_6 => ?_)
  obtain rfl : z_6 = 6 := ez_6.trans (by decide)
  refine va_sld hx hb hX hbl hbA hS (vp_in_nI (n := 6) (N := 7) (by decide) (by decide)) dL_law_304 ?_
  have hPc := hP.sub (ws' := [(q0, .inr (8, [.ref (a 1), .ref (a 2), .ref (a 3), .ref (a 4), .ref (a 5), .ref (a 6), .ref (a 7), .null, .int 0, .int 0, .int 0, .int 0])), (a 1, .inl (cI, 1600, .inl (fun _ => 0))), (a 2, .inl (cM, 10, .inr (.inr (.inr (.inr (fun _ => none)))))), (a 3, .inl (cI, 48, .inl (fun _ => 0))), (a 4, .inr (7, [.ref (a 8), .ref (a 9), .ref (a 10), .ref (a 11), .int 0])), (a 8, .inl (cI, 100, .inl (fun _ => 0))), (a 9, .inl (cI, 100, .inl (fun _ => 0))), (a 10, .inl (cI, 100, .inl (fun _ => 0))), (a 11, .inl (cI, 100, .inl (fun _ => 0))), (a 5, .inr (4, [.ref (a 12), .ref (a 13), .int 0, .int 0, .int 0, .int 1440, .int 1, .int 0, .int 12, .int 0])), (a 12, .inl (cI, 24, .inl (fun _ => 0))), (a 13, .inl (cI, 24, .inl (fun _ => 0))), (a 6, .inr (6, [.int 0, .int 0, .int 0, .int 0, .int 0, .int 0])), (a 7, .inr (3, [.ref (a 14), .int 0])), (a 14, .inl (cI, 8, .inl (fun _ => 0)))]) [0, 1, 2, 3, 4, 5, 6, 7, 8, 9, 10, 11, 12, 13, 14] rfl
  refine vp_callSi (va_Run.run (va_runV (As := [.int (xs (1 : Int32).toNatClampNeg), .int (xs (2 : Int32).toNatClampNeg), .int (xs (3 : Int32).toNatClampNeg), .int (xs (4 : Int32).toNatClampNeg), .int (xs (5 : Int32).toNatClampNeg), .int (xs (6 : Int32).toNatClampNeg)]) (rest := []) ⟨hx, hb, hml, hown, hts⟩ (k_X8_bearing l D cI cJ cZ cM q0 a (xs (1 : Int32).toNatClampNeg) (xs (2 : Int32).toNatClampNeg) (xs (3 : Int32).toNatClampNeg) (xs (4 : Int32).toNatClampNeg) (xs (5 : Int32).toNatClampNeg) (xs (6 : Int32).toNatClampNeg)) (cwV 6 hts gL_law_X8_bearing rfl rfl rfl (by decide +kernel) ⟨Nat.le_of_ble_eq_true rfl, Nat.le_of_ble_eq_true rfl⟩) (ro_V hG hPc (va_recv hK hPc (ci := 8) (q0 := 0) rfl rfl)) rfl rfl hl.1 rfl (lv_room (Nat.le_of_ble_eq_true rfl)) dL_law_305 ⟨Nat.le_of_ble_eq_true rfl, Nat.le_of_ble_eq_true rfl⟩)) (fun r_7 h_7 => ?_)
  obtain rfl : r_7 = 0 := h_7
  refine lv_aload_n hx hb dL_law_308 rfl (lv_at hl 1 rfl) ?_
  refine lv_aload_n hx hb dL_law_309 rfl (lv_at hl 3 rfl) ?_
  refine lv_iload_n hx hb dL_law_310 rfl (lv_at hl 0 rfl) ?_
  refine lv_iconst (v := 1) hx hb dL_law_311 (by decide) ?_
  refine lv_iadd hx hb dL_law_312 ?_
  refine lv_topi (fun z_8 ez_8 => ?_)
  obtain rfl : z_8 = 1 := ez_8.trans (by decide)
  refine va_sld hx hb hX hbl hbA hS (vp_in_nI (n := 1) (N := 7) (by decide) (by decide)) dL_law_313 ?_
  refine lv_aload_n hx hb dL_law_314 rfl (lv_at hl 3 rfl) ?_
  refine lv_iload_n hx hb dL_law_315 rfl (lv_at hl 0 rfl) ?_
  refine lv_iconst (v := 2) hx hb dL_law_316 (by decide) ?_
  refine lv_iadd hx hb dL_law_317 ?_
  refine lv_topi (fun z_9 ez_9 => ?_)
  obtain rfl : z_9 = 2 := ez_9.trans (by decide)
  refine va_sld hx hb hX hbl hbA hS (vp_in_nI (n := 2) (N := 7) (by decide) (by decide)) dL_law_318 ?_
  refine lv_aload_n hx hb dL_law_319 rfl (lv_at hl 3 rfl) ?_
  refine lv_iload_n hx hb dL_law_320 rfl (lv_at hl 0 rfl) ?_
  refine lv_iconst (v := 3) hx hb dL_law_321 (by decide) ?_
  refine lv_iadd hx hb dL_law_322 ?_
  refine lv_topi (fun z_10 ez_10 => ?_)
  obtain rfl : z_10 = 3 := ez_10.trans (by decide)
  refine va_sld hx hb hX hbl hbA hS (vp_in_nI (n := 3) (N := 7) (by decide) (by decide)) dL_law_323 ?_
  refine lv_aload_n hx hb dL_law_324 rfl (lv_at hl 3 rfl) ?_
  refine lv_iload_n hx hb dL_law_325 rfl (lv_at hl 0 rfl) ?_
  refine lv_iconst (v := 4) hx hb dL_law_326 (by decide) ?_
  refine lv_iadd hx hb dL_law_327 ?_
  refine lv_topi (fun z_11 ez_11 => ?_)
  obtain rfl : z_11 = 4 := ez_11.trans (by decide)
  refine va_sld hx hb hX hbl hbA hS (vp_in_nI (n := 4) (N := 7) (by decide) (by decide)) dL_law_328 ?_
  refine lv_aload_n hx hb dL_law_329 rfl (lv_at hl 3 rfl) ?_
  refine lv_iload_n hx hb dL_law_330 rfl (lv_at hl 0 rfl) ?_
  refine lv_iconst (v := 5) hx hb dL_law_331 (by decide) ?_
  refine lv_iadd hx hb dL_law_332 ?_
  refine lv_topi (fun z_12 ez_12 => ?_)
  obtain rfl : z_12 = 5 := ez_12.trans (by decide)
  refine va_sld hx hb hX hbl hbA hS (vp_in_nI (n := 5) (N := 7) (by decide) (by decide)) dL_law_333 ?_
  refine lv_aload_n hx hb dL_law_334 rfl (lv_at hl 3 rfl) ?_
  refine lv_iload_n hx hb dL_law_335 rfl (lv_at hl 0 rfl) ?_
  refine lv_bipush (v := 6) hx hb dL_law_336 (by decide) ?_
  refine lv_iadd hx hb dL_law_338 ?_
  refine lv_topi (fun z_13 ez_13 => ?_)
  obtain rfl : z_13 = 6 := ez_13.trans (by decide)
  refine va_sld hx hb hX hbl hbA hS (vp_in_nI (n := 6) (N := 7) (by decide) (by decide)) dL_law_339 ?_
  have hPc := hP.sub (ws' := [(q1, .inr (9, [.ref (n 0), .int 0, .ref (n 2), .ref (n 3), .ref (n 4), .ref (n 5), .ref (n 6), .int 0, .ref (n 8), .ref (n 9), .ref (n 10), .ref (n 11), .ref (n 12), .ref (n 13), .ref (n 14), .int 0, .int 0, .ref (n 17), .ref (n 18), .ref (n 19), .ref (n 20), .ref (n 21), .ref (n 22), .ref (n 23), .ref (n 24), .ref (n 25), .int 1, .int 0, .int 12, .int 0, .int 0, .int 0, .int 0, .int 1440, .ref (n 34), .ref (n 35), .int 0, .int 0, .int 0, .ref (n 39), .ref (n 40), .ref (n 41), .ref (n 42), .int 0, .int 0, .int 0]))]) [15] rfl
  refine vp_callSi (va_Run.run (va_runV (As := [.int (xs (1 : Int32).toNatClampNeg), .int (xs (2 : Int32).toNatClampNeg), .int (xs (3 : Int32).toNatClampNeg), .int (xs (4 : Int32).toNatClampNeg), .int (xs (5 : Int32).toNatClampNeg), .int (xs (6 : Int32).toNatClampNeg)]) (rest := [.int 0]) ⟨hx, hb, hml, hown, hts⟩ (k_X9_bearing l D cI cJ cZ cM q1 n (xs (1 : Int32).toNatClampNeg) (xs (2 : Int32).toNatClampNeg) (xs (3 : Int32).toNatClampNeg) (xs (4 : Int32).toNatClampNeg) (xs (5 : Int32).toNatClampNeg) (xs (6 : Int32).toNatClampNeg)) (cwV 6 hts gL_law_X9_bearing rfl rfl rfl (by decide +kernel) ⟨Nat.le_of_ble_eq_true rfl, Nat.le_of_ble_eq_true rfl⟩) (ro_V hG hPc (va_recv hK hPc (ci := 9) (q0 := 0) rfl rfl)) rfl rfl hl.1 rfl (lv_room (Nat.le_of_ble_eq_true rfl)) dL_law_340 ⟨Nat.le_of_ble_eq_true rfl, Nat.le_of_ble_eq_true rfl⟩)) (fun r_14 h_14 => ?_)
  obtain rfl : r_14 = 0 := h_14
  refine lv_icmp_eq (tgt := 1068) hx hb dL_law_343 (by decide) (fun _ => ?_) (fun c_15 => False.elim (by revert c_15; decide))
  exact law_end C0 hG hA hA2 hS (by decide) (by decide) (lv_sub hl [3, 0] rfl)
set_option maxHeartbeats 4000000 in
set_option maxRecDepth 100000 in
/-- the call of sounding, and the answers' likeness -/
theorem law_4 {p : Program} {l : Launch} {e : Env} {s : State} {m : MethodId} {below : List Frame} {meth : Method} {c : Code} {b : Nat} {xs : Nat → Int32} {D : va_G} {cI cJ cZ cM : Nat} {A : Nat → Prop} {q0 q1 : Nat} {a n : Nat → Nat} {fc : Nat → Int32} {H : Heap} {locs : List Loc} {ls : Array Slot} (C0 : lw_At p s m meth c b 7 xs) (hG : GK D cI cJ cZ cM s) (hA : ∀ q : Nat, s.heap.size ≤ q → A q) (hA2 : ∀ q : Nat, A q → s.heap.size ≤ q) (hP : va_P D vwCl [(q0, .inr (8, [.ref (a 1), .ref (a 2), .ref (a 3), .ref (a 4), .ref (a 5), .ref (a 6), .ref (a 7), .null, .int 0, .int 0, .int 0, .int 0])), (a 1, .inl (cI, 1600, .inl (fun _ => 0))), (a 2, .inl (cM, 10, .inr (.inr (.inr (.inr (fun _ => none)))))), (a 3, .inl (cI, 48, .inl (fun _ => 0))), (a 4, .inr (7, [.ref (a 8), .ref (a 9), .ref (a 10), .ref (a 11), .int 0])), (a 8, .inl (cI, 100, .inl (fun _ => 0))), (a 9, .inl (cI, 100, .inl (fun _ => 0))), (a 10, .inl (cI, 100, .inl (fun _ => 0))), (a 11, .inl (cI, 100, .inl (fun _ => 0))), (a 5, .inr (4, [.ref (a 12), .ref (a 13), .int 0, .int 0, .int 0, .int 1440, .int 1, .int 0, .int 12, .int 0])), (a 12, .inl (cI, 24, .inl (fun _ => 0))), (a 13, .inl (cI, 24, .inl (fun _ => 0))), (a 6, .inr (6, [.int 0, .int 0, .int 0, .int 0, .int 0, .int 0])), (a 7, .inr (3, [.ref (a 14), .int 0])), (a 14, .inl (cI, 8, .inl (fun _ => 0))), (q1, .inr (9, [.ref (n 0), .int 0, .ref (n 2), .ref (n 3), .ref (n 4), .ref (n 5), .ref (n 6), .int 0, .ref (n 8), .ref (n 9), .ref (n 10), .ref (n 11), .ref (n 12), .ref (n 13), .ref (n 14), .int 0, .int 0, .ref (n 17), .ref (n 18), .ref (n 19), .ref (n 20), .ref (n 21), .ref (n 22), .ref (n 23), .ref (n 24), .ref (n 25), .int 1, .int 0, .int 12, .int 0, .int 0, .int 0, .int 0, .int 1440, .ref (n 34), .ref (n 35), .int 0, .int 0, .int 0, .ref (n 39), .ref (n 40), .ref (n 41), .ref (n 42), .int 0, .int 0, .int 0])), (n 0, .inl (cI, 1600, .inl (fun _ => 0))), (n 2, .inl (cI, 10, .inl (fun _ => 0))), (n 3, .inl (cI, 10, .inl (fun _ => 0))), (n 4, .inl (cI, 10, .inl (fun _ => 0))), (n 5, .inl (cZ, 16000, .inl (fun _ => 0))), (n 6, .inl (cZ, 10, .inl (fun _ => 0))), (n 8, .inl (cI, 10, .inl fc)), (n 9, .inl (cI, 10, .inl (fun _ => 0))), (n 10, .inl (cI, 10, .inl (fun _ => 0))), (n 11, .inl (cI, 10, .inl (fun _ => 0))), (n 12, .inl (cI, 48, .inl (fun _ => 0))), (n 13, .inl (cI, 10, .inl (fun _ => 0))), (n 14, .inl (cI, 80, .inl (fun _ => 0))), (n 17, .inl (cI, 100, .inl (fun _ => 0))), (n 18, .inl (cI, 100, .inl (fun _ => 0))), (n 19, .inl (cI, 100, .inl (fun _ => 0))), (n 20, .inl (cI, 100, .inl (fun _ => 0))), (n 21, .inl (cI, 10, .inl (fun _ => 0))), (n 22, .inl (cI, 10, .inl (fun _ => 0))), (n 23, .inl (cI, 10, .inl (fun _ => 0))), (n 24, .inl (cI, 24, .inl (fun _ => 0))), (n 25, .inl (cI, 24, .inl (fun _ => 0))), (n 34, .inl (cI, 8, .inl (fun _ => 0))), (n 35, .inl (cI, 10240, .inl (fun _ => 0))), (n 39, .inl (cI, 10, .inl (fun _ => 0))), (n 40, .inl (cI, 10, .inl (fun _ => 0))), (n 41, .inl (cI, 1024, .inl (fun _ => 0))), (n 42, .inl (cI, 1024, .inl (fun _ => 0)))] H) (hD : va_D A [(q0, .inr (8, [.ref (a 1), .ref (a 2), .ref (a 3), .ref (a 4), .ref (a 5), .ref (a 6), .ref (a 7), .null, .int 0, .int 0, .int 0, .int 0])), (a 1, .inl (cI, 1600, .inl (fun _ => 0))), (a 2, .inl (cM, 10, .inr (.inr (.inr (.inr (fun _ => none)))))), (a 3, .inl (cI, 48, .inl (fun _ => 0))), (a 4, .inr (7, [.ref (a 8), .ref (a 9), .ref (a 10), .ref (a 11), .int 0])), (a 8, .inl (cI, 100, .inl (fun _ => 0))), (a 9, .inl (cI, 100, .inl (fun _ => 0))), (a 10, .inl (cI, 100, .inl (fun _ => 0))), (a 11, .inl (cI, 100, .inl (fun _ => 0))), (a 5, .inr (4, [.ref (a 12), .ref (a 13), .int 0, .int 0, .int 0, .int 1440, .int 1, .int 0, .int 12, .int 0])), (a 12, .inl (cI, 24, .inl (fun _ => 0))), (a 13, .inl (cI, 24, .inl (fun _ => 0))), (a 6, .inr (6, [.int 0, .int 0, .int 0, .int 0, .int 0, .int 0])), (a 7, .inr (3, [.ref (a 14), .int 0])), (a 14, .inl (cI, 8, .inl (fun _ => 0))), (q1, .inr (9, [.ref (n 0), .int 0, .ref (n 2), .ref (n 3), .ref (n 4), .ref (n 5), .ref (n 6), .int 0, .ref (n 8), .ref (n 9), .ref (n 10), .ref (n 11), .ref (n 12), .ref (n 13), .ref (n 14), .int 0, .int 0, .ref (n 17), .ref (n 18), .ref (n 19), .ref (n 20), .ref (n 21), .ref (n 22), .ref (n 23), .ref (n 24), .ref (n 25), .int 1, .int 0, .int 12, .int 0, .int 0, .int 0, .int 0, .int 1440, .ref (n 34), .ref (n 35), .int 0, .int 0, .int 0, .ref (n 39), .ref (n 40), .ref (n 41), .ref (n 42), .int 0, .int 0, .int 0])), (n 0, .inl (cI, 1600, .inl (fun _ => 0))), (n 2, .inl (cI, 10, .inl (fun _ => 0))), (n 3, .inl (cI, 10, .inl (fun _ => 0))), (n 4, .inl (cI, 10, .inl (fun _ => 0))), (n 5, .inl (cZ, 16000, .inl (fun _ => 0))), (n 6, .inl (cZ, 10, .inl (fun _ => 0))), (n 8, .inl (cI, 10, .inl fc)), (n 9, .inl (cI, 10, .inl (fun _ => 0))), (n 10, .inl (cI, 10, .inl (fun _ => 0))), (n 11, .inl (cI, 10, .inl (fun _ => 0))), (n 12, .inl (cI, 48, .inl (fun _ => 0))), (n 13, .inl (cI, 10, .inl (fun _ => 0))), (n 14, .inl (cI, 80, .inl (fun _ => 0))), (n 17, .inl (cI, 100, .inl (fun _ => 0))), (n 18, .inl (cI, 100, .inl (fun _ => 0))), (n 19, .inl (cI, 100, .inl (fun _ => 0))), (n 20, .inl (cI, 100, .inl (fun _ => 0))), (n 21, .inl (cI, 10, .inl (fun _ => 0))), (n 22, .inl (cI, 10, .inl (fun _ => 0))), (n 23, .inl (cI, 10, .inl (fun _ => 0))), (n 24, .inl (cI, 24, .inl (fun _ => 0))), (n 25, .inl (cI, 24, .inl (fun _ => 0))), (n 34, .inl (cI, 8, .inl (fun _ => 0))), (n 35, .inl (cI, 10240, .inl (fun _ => 0))), (n 39, .inl (cI, 10, .inl (fun _ => 0))), (n 40, .inl (cI, 10, .inl (fun _ => 0))), (n 41, .inl (cI, 1024, .inl (fun _ => 0))), (n 42, .inl (cI, 1024, .inl (fun _ => 0)))]) (hS : va_S A s.heap H locs) (hl : lv_has ls 4 [(3, .int 0), (2, .ref q1), (1, .ref q0), (0, .ref b)]) : W p l e room_1 s m #[Value.ref b] below meth c H locs 44 32807 (lw_Z below #[Value.ref b] s) (F0 m 348 ls []) := by
  obtain ⟨hx, hb, hr, hml, hown, hts0, hX, hbl, hlocks, hgv⟩ := id C0
  have hts := fun w h => hts0 w (wsL_law_in w h)
  have hbA : ¬ A b := fun h => Nat.not_le.mpr hbl (hA2 _ h)
  have hK := hG.1
  have hN := hG.2
  refine lv_aload_n hx hb dL_law_348 rfl (lv_at hl 2 rfl) ?_
  refine lv_aload_n hx hb dL_law_349 rfl (lv_at hl 3 rfl) ?_
  refine lv_iload_n hx hb dL_law_350 rfl (lv_at hl 0 rfl) ?_
  refine lv_iconst (v := 1) hx hb dL_law_351 (by decide) ?_
  refine lv_iadd hx hb dL_law_352 ?_
  refine lv_topi (fun z_1 ez_1 => ?_)
  obtain rfl : z_1 = 1 := ez_1.trans (by decide)
  refine va_sld hx hb hX hbl hbA hS (vp_in_nI (n := 1) (N := 7) (by decide) (by decide)) dL_law_353 ?_
  refine lv_aload_n hx hb dL_law_354 rfl (lv_at hl 3 rfl) ?_
  refine lv_iload_n hx hb dL_law_355 rfl (lv_at hl 0 rfl) ?_
  refine lv_iconst (v := 2) hx hb dL_law_356 (by decide) ?_
  refine lv_iadd hx hb dL_law_357 ?_
  refine lv_topi (fun z_2 ez_2 => ?_)
  obtain rfl : z_2 = 2 := ez_2.trans (by decide)
  refine va_sld hx hb hX hbl hbA hS (vp_in_nI (n := 2) (N := 7) (by decide) (by decide)) dL_law_358 ?_
  refine lv_aload_n hx hb dL_law_359 rfl (lv_at hl 3 rfl) ?_
  refine lv_iload_n hx hb dL_law_360 rfl (lv_at hl 0 rfl) ?_
  refine lv_iconst (v := 3) hx hb dL_law_361 (by decide) ?_
  refine lv_iadd hx hb dL_law_362 ?_
  refine lv_topi (fun z_3 ez_3 => ?_)
  obtain rfl : z_3 = 3 := ez_3.trans (by decide)
  refine va_sld hx hb hX hbl hbA hS (vp_in_nI (n := 3) (N := 7) (by decide) (by decide)) dL_law_363 ?_
  have hPc := hP.sub (ws' := [(q0, .inr (8, [.ref (a 1), .ref (a 2), .ref (a 3), .ref (a 4), .ref (a 5), .ref (a 6), .ref (a 7), .null, .int 0, .int 0, .int 0, .int 0])), (a 1, .inl (cI, 1600, .inl (fun _ => 0))), (a 2, .inl (cM, 10, .inr (.inr (.inr (.inr (fun _ => none)))))), (a 3, .inl (cI, 48, .inl (fun _ => 0))), (a 4, .inr (7, [.ref (a 8), .ref (a 9), .ref (a 10), .ref (a 11), .int 0])), (a 8, .inl (cI, 100, .inl (fun _ => 0))), (a 9, .inl (cI, 100, .inl (fun _ => 0))), (a 10, .inl (cI, 100, .inl (fun _ => 0))), (a 11, .inl (cI, 100, .inl (fun _ => 0))), (a 5, .inr (4, [.ref (a 12), .ref (a 13), .int 0, .int 0, .int 0, .int 1440, .int 1, .int 0, .int 12, .int 0])), (a 12, .inl (cI, 24, .inl (fun _ => 0))), (a 13, .inl (cI, 24, .inl (fun _ => 0))), (a 6, .inr (6, [.int 0, .int 0, .int 0, .int 0, .int 0, .int 0])), (a 7, .inr (3, [.ref (a 14), .int 0])), (a 14, .inl (cI, 8, .inl (fun _ => 0)))]) [0, 1, 2, 3, 4, 5, 6, 7, 8, 9, 10, 11, 12, 13, 14] rfl
  refine vp_callSi (va_Run.run (va_runV (As := [.int (xs (1 : Int32).toNatClampNeg), .int (xs (2 : Int32).toNatClampNeg), .int (xs (3 : Int32).toNatClampNeg)]) (rest := []) ⟨hx, hb, hml, hown, hts⟩ (k_X8_sounding l D cI cJ cZ cM q0 a (xs (1 : Int32).toNatClampNeg) (xs (2 : Int32).toNatClampNeg) (xs (3 : Int32).toNatClampNeg)) (cwV 3 hts gL_law_X8_sounding rfl rfl rfl (by decide +kernel) ⟨Nat.le_of_ble_eq_true rfl, Nat.le_of_ble_eq_true rfl⟩) (ro_V hG hPc (va_recv hK hPc (ci := 8) (q0 := 0) rfl rfl)) rfl rfl hl.1 rfl (lv_room (Nat.le_of_ble_eq_true rfl)) dL_law_364 ⟨Nat.le_of_ble_eq_true rfl, Nat.le_of_ble_eq_true rfl⟩)) (fun r_4 h_4 => ?_)
  obtain rfl : r_4 = 0 := h_4
  refine lv_aload_n hx hb dL_law_367 rfl (lv_at hl 1 rfl) ?_
  refine lv_aload_n hx hb dL_law_368 rfl (lv_at hl 3 rfl) ?_
  refine lv_iload_n hx hb dL_law_369 rfl (lv_at hl 0 rfl) ?_
  refine lv_iconst (v := 1) hx hb dL_law_370 (by decide) ?_
  refine lv_iadd hx hb dL_law_371 ?_
  refine lv_topi (fun z_5 ez_5 => ?_)
  obtain rfl : z_5 = 1 := ez_5.trans (by decide)
  refine va_sld hx hb hX hbl hbA hS (vp_in_nI (n := 1) (N := 7) (by decide) (by decide)) dL_law_372 ?_
  refine lv_aload_n hx hb dL_law_373 rfl (lv_at hl 3 rfl) ?_
  refine lv_iload_n hx hb dL_law_374 rfl (lv_at hl 0 rfl) ?_
  refine lv_iconst (v := 2) hx hb dL_law_375 (by decide) ?_
  refine lv_iadd hx hb dL_law_376 ?_
  refine lv_topi (fun z_6 ez_6 => ?_)
  obtain rfl : z_6 = 2 := ez_6.trans (by decide)
  refine va_sld hx hb hX hbl hbA hS (vp_in_nI (n := 2) (N := 7) (by decide) (by decide)) dL_law_377 ?_
  refine lv_aload_n hx hb dL_law_378 rfl (lv_at hl 3 rfl) ?_
  refine lv_iload_n hx hb dL_law_379 rfl (lv_at hl 0 rfl) ?_
  refine lv_iconst (v := 3) hx hb dL_law_380 (by decide) ?_
  refine lv_iadd hx hb dL_law_381 ?_
  refine lv_topi (fun z_7 ez_7 => ?_)
  obtain rfl : z_7 = 3 := ez_7.trans (by decide)
  refine va_sld hx hb hX hbl hbA hS (vp_in_nI (n := 3) (N := 7) (by decide) (by decide)) dL_law_382 ?_
  have hPc := hP.sub (ws' := [(q1, .inr (9, [.ref (n 0), .int 0, .ref (n 2), .ref (n 3), .ref (n 4), .ref (n 5), .ref (n 6), .int 0, .ref (n 8), .ref (n 9), .ref (n 10), .ref (n 11), .ref (n 12), .ref (n 13), .ref (n 14), .int 0, .int 0, .ref (n 17), .ref (n 18), .ref (n 19), .ref (n 20), .ref (n 21), .ref (n 22), .ref (n 23), .ref (n 24), .ref (n 25), .int 1, .int 0, .int 12, .int 0, .int 0, .int 0, .int 0, .int 1440, .ref (n 34), .ref (n 35), .int 0, .int 0, .int 0, .ref (n 39), .ref (n 40), .ref (n 41), .ref (n 42), .int 0, .int 0, .int 0]))]) [15] rfl
  refine vp_callSi (va_Run.run (va_runV (As := [.int (xs (1 : Int32).toNatClampNeg), .int (xs (2 : Int32).toNatClampNeg), .int (xs (3 : Int32).toNatClampNeg)]) (rest := [.int 0]) ⟨hx, hb, hml, hown, hts⟩ (k_X9_sounding l D cI cJ cZ cM q1 n (xs (1 : Int32).toNatClampNeg) (xs (2 : Int32).toNatClampNeg) (xs (3 : Int32).toNatClampNeg)) (cwV 3 hts gL_law_X9_sounding rfl rfl rfl (by decide +kernel) ⟨Nat.le_of_ble_eq_true rfl, Nat.le_of_ble_eq_true rfl⟩) (ro_V hG hPc (va_recv hK hPc (ci := 9) (q0 := 0) rfl rfl)) rfl rfl hl.1 rfl (lv_room (Nat.le_of_ble_eq_true rfl)) dL_law_383 ⟨Nat.le_of_ble_eq_true rfl, Nat.le_of_ble_eq_true rfl⟩)) (fun r_8 h_8 => ?_)
  obtain rfl : r_8 = 0 := h_8
  refine lv_icmp_eq (tgt := 1068) hx hb dL_law_386 (by decide) (fun _ => ?_) (fun c_9 => False.elim (by revert c_9; decide))
  exact law_end C0 hG hA hA2 hS (by decide) (by decide) (lv_sub hl [3, 0] rfl)
set_option maxHeartbeats 4000000 in
set_option maxRecDepth 100000 in
/-- the call of lies, and the answers' likeness -/
theorem law_5 {p : Program} {l : Launch} {e : Env} {s : State} {m : MethodId} {below : List Frame} {meth : Method} {c : Code} {b : Nat} {xs : Nat → Int32} {D : va_G} {cI cJ cZ cM : Nat} {A : Nat → Prop} {q0 q1 : Nat} {a n : Nat → Nat} {fc : Nat → Int32} {H : Heap} {locs : List Loc} {ls : Array Slot} (C0 : lw_At p s m meth c b 7 xs) (hG : GK D cI cJ cZ cM s) (hA : ∀ q : Nat, s.heap.size ≤ q → A q) (hA2 : ∀ q : Nat, A q → s.heap.size ≤ q) (hP : va_P D vwCl [(q0, .inr (8, [.ref (a 1), .ref (a 2), .ref (a 3), .ref (a 4), .ref (a 5), .ref (a 6), .ref (a 7), .null, .int 0, .int 0, .int 0, .int 0])), (a 1, .inl (cI, 1600, .inl (fun _ => 0))), (a 2, .inl (cM, 10, .inr (.inr (.inr (.inr (fun _ => none)))))), (a 3, .inl (cI, 48, .inl (fun _ => 0))), (a 4, .inr (7, [.ref (a 8), .ref (a 9), .ref (a 10), .ref (a 11), .int 0])), (a 8, .inl (cI, 100, .inl (fun _ => 0))), (a 9, .inl (cI, 100, .inl (fun _ => 0))), (a 10, .inl (cI, 100, .inl (fun _ => 0))), (a 11, .inl (cI, 100, .inl (fun _ => 0))), (a 5, .inr (4, [.ref (a 12), .ref (a 13), .int 0, .int 0, .int 0, .int 1440, .int 1, .int 0, .int 12, .int 0])), (a 12, .inl (cI, 24, .inl (fun _ => 0))), (a 13, .inl (cI, 24, .inl (fun _ => 0))), (a 6, .inr (6, [.int 0, .int 0, .int 0, .int 0, .int 0, .int 0])), (a 7, .inr (3, [.ref (a 14), .int 0])), (a 14, .inl (cI, 8, .inl (fun _ => 0))), (q1, .inr (9, [.ref (n 0), .int 0, .ref (n 2), .ref (n 3), .ref (n 4), .ref (n 5), .ref (n 6), .int 0, .ref (n 8), .ref (n 9), .ref (n 10), .ref (n 11), .ref (n 12), .ref (n 13), .ref (n 14), .int 0, .int 0, .ref (n 17), .ref (n 18), .ref (n 19), .ref (n 20), .ref (n 21), .ref (n 22), .ref (n 23), .ref (n 24), .ref (n 25), .int 1, .int 0, .int 12, .int 0, .int 0, .int 0, .int 0, .int 1440, .ref (n 34), .ref (n 35), .int 0, .int 0, .int 0, .ref (n 39), .ref (n 40), .ref (n 41), .ref (n 42), .int 0, .int 0, .int 0])), (n 0, .inl (cI, 1600, .inl (fun _ => 0))), (n 2, .inl (cI, 10, .inl (fun _ => 0))), (n 3, .inl (cI, 10, .inl (fun _ => 0))), (n 4, .inl (cI, 10, .inl (fun _ => 0))), (n 5, .inl (cZ, 16000, .inl (fun _ => 0))), (n 6, .inl (cZ, 10, .inl (fun _ => 0))), (n 8, .inl (cI, 10, .inl fc)), (n 9, .inl (cI, 10, .inl (fun _ => 0))), (n 10, .inl (cI, 10, .inl (fun _ => 0))), (n 11, .inl (cI, 10, .inl (fun _ => 0))), (n 12, .inl (cI, 48, .inl (fun _ => 0))), (n 13, .inl (cI, 10, .inl (fun _ => 0))), (n 14, .inl (cI, 80, .inl (fun _ => 0))), (n 17, .inl (cI, 100, .inl (fun _ => 0))), (n 18, .inl (cI, 100, .inl (fun _ => 0))), (n 19, .inl (cI, 100, .inl (fun _ => 0))), (n 20, .inl (cI, 100, .inl (fun _ => 0))), (n 21, .inl (cI, 10, .inl (fun _ => 0))), (n 22, .inl (cI, 10, .inl (fun _ => 0))), (n 23, .inl (cI, 10, .inl (fun _ => 0))), (n 24, .inl (cI, 24, .inl (fun _ => 0))), (n 25, .inl (cI, 24, .inl (fun _ => 0))), (n 34, .inl (cI, 8, .inl (fun _ => 0))), (n 35, .inl (cI, 10240, .inl (fun _ => 0))), (n 39, .inl (cI, 10, .inl (fun _ => 0))), (n 40, .inl (cI, 10, .inl (fun _ => 0))), (n 41, .inl (cI, 1024, .inl (fun _ => 0))), (n 42, .inl (cI, 1024, .inl (fun _ => 0)))] H) (hD : va_D A [(q0, .inr (8, [.ref (a 1), .ref (a 2), .ref (a 3), .ref (a 4), .ref (a 5), .ref (a 6), .ref (a 7), .null, .int 0, .int 0, .int 0, .int 0])), (a 1, .inl (cI, 1600, .inl (fun _ => 0))), (a 2, .inl (cM, 10, .inr (.inr (.inr (.inr (fun _ => none)))))), (a 3, .inl (cI, 48, .inl (fun _ => 0))), (a 4, .inr (7, [.ref (a 8), .ref (a 9), .ref (a 10), .ref (a 11), .int 0])), (a 8, .inl (cI, 100, .inl (fun _ => 0))), (a 9, .inl (cI, 100, .inl (fun _ => 0))), (a 10, .inl (cI, 100, .inl (fun _ => 0))), (a 11, .inl (cI, 100, .inl (fun _ => 0))), (a 5, .inr (4, [.ref (a 12), .ref (a 13), .int 0, .int 0, .int 0, .int 1440, .int 1, .int 0, .int 12, .int 0])), (a 12, .inl (cI, 24, .inl (fun _ => 0))), (a 13, .inl (cI, 24, .inl (fun _ => 0))), (a 6, .inr (6, [.int 0, .int 0, .int 0, .int 0, .int 0, .int 0])), (a 7, .inr (3, [.ref (a 14), .int 0])), (a 14, .inl (cI, 8, .inl (fun _ => 0))), (q1, .inr (9, [.ref (n 0), .int 0, .ref (n 2), .ref (n 3), .ref (n 4), .ref (n 5), .ref (n 6), .int 0, .ref (n 8), .ref (n 9), .ref (n 10), .ref (n 11), .ref (n 12), .ref (n 13), .ref (n 14), .int 0, .int 0, .ref (n 17), .ref (n 18), .ref (n 19), .ref (n 20), .ref (n 21), .ref (n 22), .ref (n 23), .ref (n 24), .ref (n 25), .int 1, .int 0, .int 12, .int 0, .int 0, .int 0, .int 0, .int 1440, .ref (n 34), .ref (n 35), .int 0, .int 0, .int 0, .ref (n 39), .ref (n 40), .ref (n 41), .ref (n 42), .int 0, .int 0, .int 0])), (n 0, .inl (cI, 1600, .inl (fun _ => 0))), (n 2, .inl (cI, 10, .inl (fun _ => 0))), (n 3, .inl (cI, 10, .inl (fun _ => 0))), (n 4, .inl (cI, 10, .inl (fun _ => 0))), (n 5, .inl (cZ, 16000, .inl (fun _ => 0))), (n 6, .inl (cZ, 10, .inl (fun _ => 0))), (n 8, .inl (cI, 10, .inl fc)), (n 9, .inl (cI, 10, .inl (fun _ => 0))), (n 10, .inl (cI, 10, .inl (fun _ => 0))), (n 11, .inl (cI, 10, .inl (fun _ => 0))), (n 12, .inl (cI, 48, .inl (fun _ => 0))), (n 13, .inl (cI, 10, .inl (fun _ => 0))), (n 14, .inl (cI, 80, .inl (fun _ => 0))), (n 17, .inl (cI, 100, .inl (fun _ => 0))), (n 18, .inl (cI, 100, .inl (fun _ => 0))), (n 19, .inl (cI, 100, .inl (fun _ => 0))), (n 20, .inl (cI, 100, .inl (fun _ => 0))), (n 21, .inl (cI, 10, .inl (fun _ => 0))), (n 22, .inl (cI, 10, .inl (fun _ => 0))), (n 23, .inl (cI, 10, .inl (fun _ => 0))), (n 24, .inl (cI, 24, .inl (fun _ => 0))), (n 25, .inl (cI, 24, .inl (fun _ => 0))), (n 34, .inl (cI, 8, .inl (fun _ => 0))), (n 35, .inl (cI, 10240, .inl (fun _ => 0))), (n 39, .inl (cI, 10, .inl (fun _ => 0))), (n 40, .inl (cI, 10, .inl (fun _ => 0))), (n 41, .inl (cI, 1024, .inl (fun _ => 0))), (n 42, .inl (cI, 1024, .inl (fun _ => 0)))]) (hS : va_S A s.heap H locs) (hl : lv_has ls 4 [(3, .int 0), (2, .ref q1), (1, .ref q0), (0, .ref b)]) : W p l e room_1 s m #[Value.ref b] below meth c H locs 44 32807 (lw_Z below #[Value.ref b] s) (F0 m 391 ls []) := by
  obtain ⟨hx, hb, hr, hml, hown, hts0, hX, hbl, hlocks, hgv⟩ := id C0
  have hts := fun w h => hts0 w (wsL_law_in w h)
  have hbA : ¬ A b := fun h => Nat.not_le.mpr hbl (hA2 _ h)
  have hK := hG.1
  have hN := hG.2
  refine lv_aload_n hx hb dL_law_391 rfl (lv_at hl 2 rfl) ?_
  refine lv_aload_n hx hb dL_law_392 rfl (lv_at hl 3 rfl) ?_
  refine lv_iload_n hx hb dL_law_393 rfl (lv_at hl 0 rfl) ?_
  refine lv_iconst (v := 1) hx hb dL_law_394 (by decide) ?_
  refine lv_iadd hx hb dL_law_395 ?_
  refine lv_topi (fun z_1 ez_1 => ?_)
  obtain rfl : z_1 = 1 := ez_1.trans (by decide)
  refine va_sld hx hb hX hbl hbA hS (vp_in_nI (n := 1) (N := 7) (by decide) (by decide)) dL_law_396 ?_
  refine lv_aload_n hx hb dL_law_397 rfl (lv_at hl 3 rfl) ?_
  refine lv_iload_n hx hb dL_law_398 rfl (lv_at hl 0 rfl) ?_
  refine lv_iconst (v := 2) hx hb dL_law_399 (by decide) ?_
  refine lv_iadd hx hb dL_law_400 ?_
  refine lv_topi (fun z_2 ez_2 => ?_)
  obtain rfl : z_2 = 2 := ez_2.trans (by decide)
  refine va_sld hx hb hX hbl hbA hS (vp_in_nI (n := 2) (N := 7) (by decide) (by decide)) dL_law_401 ?_
  have hPc := hP.sub (ws' := [(q0, .inr (8, [.ref (a 1), .ref (a 2), .ref (a 3), .ref (a 4), .ref (a 5), .ref (a 6), .ref (a 7), .null, .int 0, .int 0, .int 0, .int 0])), (a 1, .inl (cI, 1600, .inl (fun _ => 0))), (a 2, .inl (cM, 10, .inr (.inr (.inr (.inr (fun _ => none)))))), (a 3, .inl (cI, 48, .inl (fun _ => 0))), (a 4, .inr (7, [.ref (a 8), .ref (a 9), .ref (a 10), .ref (a 11), .int 0])), (a 8, .inl (cI, 100, .inl (fun _ => 0))), (a 9, .inl (cI, 100, .inl (fun _ => 0))), (a 10, .inl (cI, 100, .inl (fun _ => 0))), (a 11, .inl (cI, 100, .inl (fun _ => 0))), (a 5, .inr (4, [.ref (a 12), .ref (a 13), .int 0, .int 0, .int 0, .int 1440, .int 1, .int 0, .int 12, .int 0])), (a 12, .inl (cI, 24, .inl (fun _ => 0))), (a 13, .inl (cI, 24, .inl (fun _ => 0))), (a 6, .inr (6, [.int 0, .int 0, .int 0, .int 0, .int 0, .int 0])), (a 7, .inr (3, [.ref (a 14), .int 0])), (a 14, .inl (cI, 8, .inl (fun _ => 0)))]) [0, 1, 2, 3, 4, 5, 6, 7, 8, 9, 10, 11, 12, 13, 14] rfl
  refine vp_callSi (va_Run.run (va_runV (As := [.int (xs (1 : Int32).toNatClampNeg), .int (xs (2 : Int32).toNatClampNeg)]) (rest := []) ⟨hx, hb, hml, hown, hts⟩ (k_X8_lies l D cI cJ cZ cM q0 a (xs (1 : Int32).toNatClampNeg) (xs (2 : Int32).toNatClampNeg)) (cwV 2 hts gL_law_X8_lies rfl rfl rfl (by decide +kernel) ⟨Nat.le_of_ble_eq_true rfl, Nat.le_of_ble_eq_true rfl⟩) (ro_V hG hPc (va_recv hK hPc (ci := 8) (q0 := 0) rfl rfl)) rfl rfl hl.1 rfl (lv_room (Nat.le_of_ble_eq_true rfl)) dL_law_402 ⟨Nat.le_of_ble_eq_true rfl, Nat.le_of_ble_eq_true rfl⟩)) (fun r_3 h_3 => ?_)
  obtain rfl : r_3 = (-1) := h_3
  refine lv_aload_n hx hb dL_law_405 rfl (lv_at hl 1 rfl) ?_
  refine lv_aload_n hx hb dL_law_406 rfl (lv_at hl 3 rfl) ?_
  refine lv_iload_n hx hb dL_law_407 rfl (lv_at hl 0 rfl) ?_
  refine lv_iconst (v := 1) hx hb dL_law_408 (by decide) ?_
  refine lv_iadd hx hb dL_law_409 ?_
  refine lv_topi (fun z_4 ez_4 => ?_)
  obtain rfl : z_4 = 1 := ez_4.trans (by decide)
  refine va_sld hx hb hX hbl hbA hS (vp_in_nI (n := 1) (N := 7) (by decide) (by decide)) dL_law_410 ?_
  refine lv_aload_n hx hb dL_law_411 rfl (lv_at hl 3 rfl) ?_
  refine lv_iload_n hx hb dL_law_412 rfl (lv_at hl 0 rfl) ?_
  refine lv_iconst (v := 2) hx hb dL_law_413 (by decide) ?_
  refine lv_iadd hx hb dL_law_414 ?_
  refine lv_topi (fun z_5 ez_5 => ?_)
  obtain rfl : z_5 = 2 := ez_5.trans (by decide)
  refine va_sld hx hb hX hbl hbA hS (vp_in_nI (n := 2) (N := 7) (by decide) (by decide)) dL_law_415 ?_
  have hPc := hP.sub (ws' := [(q1, .inr (9, [.ref (n 0), .int 0, .ref (n 2), .ref (n 3), .ref (n 4), .ref (n 5), .ref (n 6), .int 0, .ref (n 8), .ref (n 9), .ref (n 10), .ref (n 11), .ref (n 12), .ref (n 13), .ref (n 14), .int 0, .int 0, .ref (n 17), .ref (n 18), .ref (n 19), .ref (n 20), .ref (n 21), .ref (n 22), .ref (n 23), .ref (n 24), .ref (n 25), .int 1, .int 0, .int 12, .int 0, .int 0, .int 0, .int 0, .int 1440, .ref (n 34), .ref (n 35), .int 0, .int 0, .int 0, .ref (n 39), .ref (n 40), .ref (n 41), .ref (n 42), .int 0, .int 0, .int 0]))]) [15] rfl
  refine vp_callSi (va_Run.run (va_runV (As := [.int (xs (1 : Int32).toNatClampNeg), .int (xs (2 : Int32).toNatClampNeg)]) (rest := [.int (-1)]) ⟨hx, hb, hml, hown, hts⟩ (k_X9_lies l D cI cJ cZ cM q1 n (xs (1 : Int32).toNatClampNeg) (xs (2 : Int32).toNatClampNeg)) (cwV 2 hts gL_law_X9_lies rfl rfl rfl (by decide +kernel) ⟨Nat.le_of_ble_eq_true rfl, Nat.le_of_ble_eq_true rfl⟩) (ro_V hG hPc (va_recv hK hPc (ci := 9) (q0 := 0) rfl rfl)) rfl rfl hl.1 rfl (lv_room (Nat.le_of_ble_eq_true rfl)) dL_law_416 ⟨Nat.le_of_ble_eq_true rfl, Nat.le_of_ble_eq_true rfl⟩)) (fun r_6 h_6 => ?_)
  obtain rfl : r_6 = (-1) := h_6
  refine lv_icmp_eq (tgt := 1068) hx hb dL_law_419 (by decide) (fun _ => ?_) (fun c_7 => False.elim (by revert c_7; decide))
  exact law_end C0 hG hA hA2 hS (by decide) (by decide) (lv_sub hl [3, 0] rfl)
set_option maxHeartbeats 4000000 in
set_option maxRecDepth 100000 in
/-- the call of day, and the answers' likeness -/
theorem law_6 {p : Program} {l : Launch} {e : Env} {s : State} {m : MethodId} {below : List Frame} {meth : Method} {c : Code} {b : Nat} {xs : Nat → Int32} {D : va_G} {cI cJ cZ cM : Nat} {A : Nat → Prop} {q0 q1 : Nat} {a n : Nat → Nat} {fc : Nat → Int32} {H : Heap} {locs : List Loc} {ls : Array Slot} (C0 : lw_At p s m meth c b 7 xs) (hG : GK D cI cJ cZ cM s) (hA : ∀ q : Nat, s.heap.size ≤ q → A q) (hA2 : ∀ q : Nat, A q → s.heap.size ≤ q) (hP : va_P D vwCl [(q0, .inr (8, [.ref (a 1), .ref (a 2), .ref (a 3), .ref (a 4), .ref (a 5), .ref (a 6), .ref (a 7), .null, .int 0, .int 0, .int 0, .int 0])), (a 1, .inl (cI, 1600, .inl (fun _ => 0))), (a 2, .inl (cM, 10, .inr (.inr (.inr (.inr (fun _ => none)))))), (a 3, .inl (cI, 48, .inl (fun _ => 0))), (a 4, .inr (7, [.ref (a 8), .ref (a 9), .ref (a 10), .ref (a 11), .int 0])), (a 8, .inl (cI, 100, .inl (fun _ => 0))), (a 9, .inl (cI, 100, .inl (fun _ => 0))), (a 10, .inl (cI, 100, .inl (fun _ => 0))), (a 11, .inl (cI, 100, .inl (fun _ => 0))), (a 5, .inr (4, [.ref (a 12), .ref (a 13), .int 0, .int 0, .int 0, .int 1440, .int 1, .int 0, .int 12, .int 0])), (a 12, .inl (cI, 24, .inl (fun _ => 0))), (a 13, .inl (cI, 24, .inl (fun _ => 0))), (a 6, .inr (6, [.int 0, .int 0, .int 0, .int 0, .int 0, .int 0])), (a 7, .inr (3, [.ref (a 14), .int 0])), (a 14, .inl (cI, 8, .inl (fun _ => 0))), (q1, .inr (9, [.ref (n 0), .int 0, .ref (n 2), .ref (n 3), .ref (n 4), .ref (n 5), .ref (n 6), .int 0, .ref (n 8), .ref (n 9), .ref (n 10), .ref (n 11), .ref (n 12), .ref (n 13), .ref (n 14), .int 0, .int 0, .ref (n 17), .ref (n 18), .ref (n 19), .ref (n 20), .ref (n 21), .ref (n 22), .ref (n 23), .ref (n 24), .ref (n 25), .int 1, .int 0, .int 12, .int 0, .int 0, .int 0, .int 0, .int 1440, .ref (n 34), .ref (n 35), .int 0, .int 0, .int 0, .ref (n 39), .ref (n 40), .ref (n 41), .ref (n 42), .int 0, .int 0, .int 0])), (n 0, .inl (cI, 1600, .inl (fun _ => 0))), (n 2, .inl (cI, 10, .inl (fun _ => 0))), (n 3, .inl (cI, 10, .inl (fun _ => 0))), (n 4, .inl (cI, 10, .inl (fun _ => 0))), (n 5, .inl (cZ, 16000, .inl (fun _ => 0))), (n 6, .inl (cZ, 10, .inl (fun _ => 0))), (n 8, .inl (cI, 10, .inl fc)), (n 9, .inl (cI, 10, .inl (fun _ => 0))), (n 10, .inl (cI, 10, .inl (fun _ => 0))), (n 11, .inl (cI, 10, .inl (fun _ => 0))), (n 12, .inl (cI, 48, .inl (fun _ => 0))), (n 13, .inl (cI, 10, .inl (fun _ => 0))), (n 14, .inl (cI, 80, .inl (fun _ => 0))), (n 17, .inl (cI, 100, .inl (fun _ => 0))), (n 18, .inl (cI, 100, .inl (fun _ => 0))), (n 19, .inl (cI, 100, .inl (fun _ => 0))), (n 20, .inl (cI, 100, .inl (fun _ => 0))), (n 21, .inl (cI, 10, .inl (fun _ => 0))), (n 22, .inl (cI, 10, .inl (fun _ => 0))), (n 23, .inl (cI, 10, .inl (fun _ => 0))), (n 24, .inl (cI, 24, .inl (fun _ => 0))), (n 25, .inl (cI, 24, .inl (fun _ => 0))), (n 34, .inl (cI, 8, .inl (fun _ => 0))), (n 35, .inl (cI, 10240, .inl (fun _ => 0))), (n 39, .inl (cI, 10, .inl (fun _ => 0))), (n 40, .inl (cI, 10, .inl (fun _ => 0))), (n 41, .inl (cI, 1024, .inl (fun _ => 0))), (n 42, .inl (cI, 1024, .inl (fun _ => 0)))] H) (hD : va_D A [(q0, .inr (8, [.ref (a 1), .ref (a 2), .ref (a 3), .ref (a 4), .ref (a 5), .ref (a 6), .ref (a 7), .null, .int 0, .int 0, .int 0, .int 0])), (a 1, .inl (cI, 1600, .inl (fun _ => 0))), (a 2, .inl (cM, 10, .inr (.inr (.inr (.inr (fun _ => none)))))), (a 3, .inl (cI, 48, .inl (fun _ => 0))), (a 4, .inr (7, [.ref (a 8), .ref (a 9), .ref (a 10), .ref (a 11), .int 0])), (a 8, .inl (cI, 100, .inl (fun _ => 0))), (a 9, .inl (cI, 100, .inl (fun _ => 0))), (a 10, .inl (cI, 100, .inl (fun _ => 0))), (a 11, .inl (cI, 100, .inl (fun _ => 0))), (a 5, .inr (4, [.ref (a 12), .ref (a 13), .int 0, .int 0, .int 0, .int 1440, .int 1, .int 0, .int 12, .int 0])), (a 12, .inl (cI, 24, .inl (fun _ => 0))), (a 13, .inl (cI, 24, .inl (fun _ => 0))), (a 6, .inr (6, [.int 0, .int 0, .int 0, .int 0, .int 0, .int 0])), (a 7, .inr (3, [.ref (a 14), .int 0])), (a 14, .inl (cI, 8, .inl (fun _ => 0))), (q1, .inr (9, [.ref (n 0), .int 0, .ref (n 2), .ref (n 3), .ref (n 4), .ref (n 5), .ref (n 6), .int 0, .ref (n 8), .ref (n 9), .ref (n 10), .ref (n 11), .ref (n 12), .ref (n 13), .ref (n 14), .int 0, .int 0, .ref (n 17), .ref (n 18), .ref (n 19), .ref (n 20), .ref (n 21), .ref (n 22), .ref (n 23), .ref (n 24), .ref (n 25), .int 1, .int 0, .int 12, .int 0, .int 0, .int 0, .int 0, .int 1440, .ref (n 34), .ref (n 35), .int 0, .int 0, .int 0, .ref (n 39), .ref (n 40), .ref (n 41), .ref (n 42), .int 0, .int 0, .int 0])), (n 0, .inl (cI, 1600, .inl (fun _ => 0))), (n 2, .inl (cI, 10, .inl (fun _ => 0))), (n 3, .inl (cI, 10, .inl (fun _ => 0))), (n 4, .inl (cI, 10, .inl (fun _ => 0))), (n 5, .inl (cZ, 16000, .inl (fun _ => 0))), (n 6, .inl (cZ, 10, .inl (fun _ => 0))), (n 8, .inl (cI, 10, .inl fc)), (n 9, .inl (cI, 10, .inl (fun _ => 0))), (n 10, .inl (cI, 10, .inl (fun _ => 0))), (n 11, .inl (cI, 10, .inl (fun _ => 0))), (n 12, .inl (cI, 48, .inl (fun _ => 0))), (n 13, .inl (cI, 10, .inl (fun _ => 0))), (n 14, .inl (cI, 80, .inl (fun _ => 0))), (n 17, .inl (cI, 100, .inl (fun _ => 0))), (n 18, .inl (cI, 100, .inl (fun _ => 0))), (n 19, .inl (cI, 100, .inl (fun _ => 0))), (n 20, .inl (cI, 100, .inl (fun _ => 0))), (n 21, .inl (cI, 10, .inl (fun _ => 0))), (n 22, .inl (cI, 10, .inl (fun _ => 0))), (n 23, .inl (cI, 10, .inl (fun _ => 0))), (n 24, .inl (cI, 24, .inl (fun _ => 0))), (n 25, .inl (cI, 24, .inl (fun _ => 0))), (n 34, .inl (cI, 8, .inl (fun _ => 0))), (n 35, .inl (cI, 10240, .inl (fun _ => 0))), (n 39, .inl (cI, 10, .inl (fun _ => 0))), (n 40, .inl (cI, 10, .inl (fun _ => 0))), (n 41, .inl (cI, 1024, .inl (fun _ => 0))), (n 42, .inl (cI, 1024, .inl (fun _ => 0)))]) (hS : va_S A s.heap H locs) (hl : lv_has ls 4 [(3, .int 0), (2, .ref q1), (1, .ref q0), (0, .ref b)]) : W p l e room_1 s m #[Value.ref b] below meth c H locs 44 32807 (lw_Z below #[Value.ref b] s) (F0 m 424 ls []) := by
  obtain ⟨hx, hb, hr, hml, hown, hts0, hX, hbl, hlocks, hgv⟩ := id C0
  have hts := fun w h => hts0 w (wsL_law_in w h)
  have hbA : ¬ A b := fun h => Nat.not_le.mpr hbl (hA2 _ h)
  have hK := hG.1
  have hN := hG.2
  refine lv_aload_n hx hb dL_law_424 rfl (lv_at hl 2 rfl) ?_
  refine lv_aload_n hx hb dL_law_425 rfl (lv_at hl 3 rfl) ?_
  refine lv_iload_n hx hb dL_law_426 rfl (lv_at hl 0 rfl) ?_
  refine lv_iconst (v := 1) hx hb dL_law_427 (by decide) ?_
  refine lv_iadd hx hb dL_law_428 ?_
  refine lv_topi (fun z_1 ez_1 => ?_)
  obtain rfl : z_1 = 1 := ez_1.trans (by decide)
  refine va_sld hx hb hX hbl hbA hS (vp_in_nI (n := 1) (N := 7) (by decide) (by decide)) dL_law_429 ?_
  have hPc := hP.sub (ws' := [(q0, .inr (8, [.ref (a 1), .ref (a 2), .ref (a 3), .ref (a 4), .ref (a 5), .ref (a 6), .ref (a 7), .null, .int 0, .int 0, .int 0, .int 0]))]) [0] rfl
  have hDc := hD.sub (ws' := [(q0, .inr (8, [.ref (a 1), .ref (a 2), .ref (a 3), .ref (a 4), .ref (a 5), .ref (a 6), .ref (a 7), .null, .int 0, .int 0, .int 0, .int 0]))]) [0] (by decide) rfl
  have hFc := va_free (wc := [(q0, .inr (8, [.ref (a 1), .ref (a 2), .ref (a 3), .ref (a 4), .ref (a 5), .ref (a 6), .ref (a 7), .null, .int 0, .int 0, .int 0, .int 0]))]) hD hS hA [0] rfl
  refine va_calli (va_runV (As := [.int (xs (1 : Int32).toNatClampNeg)]) (rest := []) ⟨hx, hb, hml, hown, hts⟩ (k_X8_day l D cI cJ cZ cM q0 a (xs (1 : Int32).toNatClampNeg) _) (cwV 1 hts gL_law_X8_day rfl rfl rfl (by decide +kernel) ⟨Nat.le_of_ble_eq_true rfl, Nat.le_of_ble_eq_true rfl⟩) (rw_V hG hPc hDc (va_recv hK hPc (ci := 8) (q0 := 0) rfl rfl)) rfl rfl hl.1 rfl (lv_room (Nat.le_of_ble_eq_true rfl)) dL_law_430 ⟨Nat.le_of_ble_eq_true rfl, Nat.le_of_ble_eq_true rfl⟩) hS (fun q _ h => hFc q h) hFc (fun r_2 u_2 t_2 H1 locs ht hvm h_2 hB hz1 hk1 hS => ?_)
  obtain ⟨hP, hD⟩ := va_join (wr := [(q1, .inr (9, [.ref (n 0), .int 0, .ref (n 2), .ref (n 3), .ref (n 4), .ref (n 5), .ref (n 6), .int 0, .ref (n 8), .ref (n 9), .ref (n 10), .ref (n 11), .ref (n 12), .ref (n 13), .ref (n 14), .int 0, .int 0, .ref (n 17), .ref (n 18), .ref (n 19), .ref (n 20), .ref (n 21), .ref (n 22), .ref (n 23), .ref (n 24), .ref (n 25), .int 1, .int 0, .int 12, .int 0, .int 0, .int 0, .int 0, .int 1440, .ref (n 34), .ref (n 35), .int 0, .int 0, .int 0, .ref (n 39), .ref (n 40), .ref (n 41), .ref (n 42), .int 0, .int 0, .int 0]))]) (w1 := []) hP hD [0] [15] rfl rfl (by decide) (by decide) hk1 hFc (fun k q h => by simp at h) ⟨fun i j p q h => by simp at h, fun k q h => by simp at h⟩
  generalize H1 = H at hP hS ⊢
  have hP : va_P D vwCl [(q1, .inr (9, [.ref (n 0), .int 0, .ref (n 2), .ref (n 3), .ref (n 4), .ref (n 5), .ref (n 6), .int 0, .ref (n 8), .ref (n 9), .ref (n 10), .ref (n 11), .ref (n 12), .ref (n 13), .ref (n 14), .int 0, .int 0, .ref (n 17), .ref (n 18), .ref (n 19), .ref (n 20), .ref (n 21), .ref (n 22), .ref (n 23), .ref (n 24), .ref (n 25), .int 1, .int 0, .int 12, .int 0, .int 0, .int 0, .int 0, .int 1440, .ref (n 34), .ref (n 35), .int 0, .int 0, .int 0, .ref (n 39), .ref (n 40), .ref (n 41), .ref (n 42), .int 0, .int 0, .int 0]))] H := hP
  have hD : va_D A [(q1, .inr (9, [.ref (n 0), .int 0, .ref (n 2), .ref (n 3), .ref (n 4), .ref (n 5), .ref (n 6), .int 0, .ref (n 8), .ref (n 9), .ref (n 10), .ref (n 11), .ref (n 12), .ref (n 13), .ref (n 14), .int 0, .int 0, .ref (n 17), .ref (n 18), .ref (n 19), .ref (n 20), .ref (n 21), .ref (n 22), .ref (n 23), .ref (n 24), .ref (n 25), .int 1, .int 0, .int 12, .int 0, .int 0, .int 0, .int 0, .int 1440, .ref (n 34), .ref (n 35), .int 0, .int 0, .int 0, .ref (n 39), .ref (n 40), .ref (n 41), .ref (n 42), .int 0, .int 0, .int 0]))] := hD
  refine W.widen (k := 44) (n := 32807) (by decide) (by decide) ?_
  rcases h_2 with ⟨rfl, h_2⟩ | ⟨rfl, h_2⟩
  · refine lv_aload_n hx hb dL_law_433 rfl (lv_at hl 1 rfl) ?_
    refine lv_aload_n hx hb dL_law_434 rfl (lv_at hl 3 rfl) ?_
    refine lv_iload_n hx hb dL_law_435 rfl (lv_at hl 0 rfl) ?_
    refine lv_iconst (v := 1) hx hb dL_law_436 (by decide) ?_
    refine lv_iadd hx hb dL_law_437 ?_
    refine lv_topi (fun z_3 ez_3 => ?_)
    obtain rfl : z_3 = 1 := ez_3.trans (by decide)
    refine va_sld hx hb hX hbl hbA hS (vp_in_nI (n := 1) (N := 7) (by decide) (by decide)) dL_law_438 ?_
    have hPc := hP.sub (ws' := [(q1, .inr (9, [.ref (n 0), .int 0, .ref (n 2), .ref (n 3), .ref (n 4), .ref (n 5), .ref (n 6), .int 0, .ref (n 8), .ref (n 9), .ref (n 10), .ref (n 11), .ref (n 12), .ref (n 13), .ref (n 14), .int 0, .int 0, .ref (n 17), .ref (n 18), .ref (n 19), .ref (n 20), .ref (n 21), .ref (n 22), .ref (n 23), .ref (n 24), .ref (n 25), .int 1, .int 0, .int 12, .int 0, .int 0, .int 0, .int 0, .int 1440, .ref (n 34), .ref (n 35), .int 0, .int 0, .int 0, .ref (n 39), .ref (n 40), .ref (n 41), .ref (n 42), .int 0, .int 0, .int 0]))]) [0] rfl
    have hDc := hD.sub (ws' := [(q1, .inr (9, [.ref (n 0), .int 0, .ref (n 2), .ref (n 3), .ref (n 4), .ref (n 5), .ref (n 6), .int 0, .ref (n 8), .ref (n 9), .ref (n 10), .ref (n 11), .ref (n 12), .ref (n 13), .ref (n 14), .int 0, .int 0, .ref (n 17), .ref (n 18), .ref (n 19), .ref (n 20), .ref (n 21), .ref (n 22), .ref (n 23), .ref (n 24), .ref (n 25), .int 1, .int 0, .int 12, .int 0, .int 0, .int 0, .int 0, .int 1440, .ref (n 34), .ref (n 35), .int 0, .int 0, .int 0, .ref (n 39), .ref (n 40), .ref (n 41), .ref (n 42), .int 0, .int 0, .int 0]))]) [0] (by decide) rfl
    have hFc := va_free (wc := [(q1, .inr (9, [.ref (n 0), .int 0, .ref (n 2), .ref (n 3), .ref (n 4), .ref (n 5), .ref (n 6), .int 0, .ref (n 8), .ref (n 9), .ref (n 10), .ref (n 11), .ref (n 12), .ref (n 13), .ref (n 14), .int 0, .int 0, .ref (n 17), .ref (n 18), .ref (n 19), .ref (n 20), .ref (n 21), .ref (n 22), .ref (n 23), .ref (n 24), .ref (n 25), .int 1, .int 0, .int 12, .int 0, .int 0, .int 0, .int 0, .int 1440, .ref (n 34), .ref (n 35), .int 0, .int 0, .int 0, .ref (n 39), .ref (n 40), .ref (n 41), .ref (n 42), .int 0, .int 0, .int 0]))]) hD hS hA [0] rfl
    refine va_calli (va_runV (As := [.int (xs (1 : Int32).toNatClampNeg)]) (rest := [.int 1]) ⟨hx, hb, hml, hown, hts⟩ (k_X9_day l D cI cJ cZ cM q1 n (xs (1 : Int32).toNatClampNeg) _) (cwV 1 hts gL_law_X9_day rfl rfl rfl (by decide +kernel) ⟨Nat.le_of_ble_eq_true rfl, Nat.le_of_ble_eq_true rfl⟩) (rw_V hG hPc hDc (va_recv hK hPc (ci := 9) (q0 := 0) rfl rfl)) rfl rfl hl.1 rfl (lv_room (Nat.le_of_ble_eq_true rfl)) dL_law_439 ⟨Nat.le_of_ble_eq_true rfl, Nat.le_of_ble_eq_true rfl⟩) hS (fun q _ h => hFc q h) hFc (fun r_4 u_4 t_4 H1 locs ht hvm h_4 hB hz1 hk1 hS => ?_)
    obtain ⟨hP, hD⟩ := va_join (wr := []) (w1 := []) hP hD [0] [] rfl rfl (by decide) (by decide) hk1 hFc (fun k q h => by simp at h) ⟨fun i j p q h => by simp at h, fun k q h => by simp at h⟩
    generalize H1 = H at hP hS ⊢
    have hP : va_P D vwCl [] H := hP
    have hD : va_D A [] := hD
    refine W.widen (k := 44) (n := 32807) (by decide) (by decide) ?_
    rcases h_4 with ⟨rfl, h_4⟩ | ⟨rfl, h_4⟩
    · refine lv_icmp_eq (tgt := 1068) hx hb dL_law_442 (by decide) (fun _ => ?_) (fun c_5 => False.elim (by revert c_5; decide))
      exact law_end C0 hG hA hA2 hS (by decide) (by decide) (lv_sub hl [3, 0] rfl)
    exact absurd h_2 h_4
  refine lv_aload_n hx hb dL_law_433 rfl (lv_at hl 1 rfl) ?_
  refine lv_aload_n hx hb dL_law_434 rfl (lv_at hl 3 rfl) ?_
  refine lv_iload_n hx hb dL_law_435 rfl (lv_at hl 0 rfl) ?_
  refine lv_iconst (v := 1) hx hb dL_law_436 (by decide) ?_
  refine lv_iadd hx hb dL_law_437 ?_
  refine lv_topi (fun z_6 ez_6 => ?_)
  obtain rfl : z_6 = 1 := ez_6.trans (by decide)
  refine va_sld hx hb hX hbl hbA hS (vp_in_nI (n := 1) (N := 7) (by decide) (by decide)) dL_law_438 ?_
  have hPc := hP.sub (ws' := [(q1, .inr (9, [.ref (n 0), .int 0, .ref (n 2), .ref (n 3), .ref (n 4), .ref (n 5), .ref (n 6), .int 0, .ref (n 8), .ref (n 9), .ref (n 10), .ref (n 11), .ref (n 12), .ref (n 13), .ref (n 14), .int 0, .int 0, .ref (n 17), .ref (n 18), .ref (n 19), .ref (n 20), .ref (n 21), .ref (n 22), .ref (n 23), .ref (n 24), .ref (n 25), .int 1, .int 0, .int 12, .int 0, .int 0, .int 0, .int 0, .int 1440, .ref (n 34), .ref (n 35), .int 0, .int 0, .int 0, .ref (n 39), .ref (n 40), .ref (n 41), .ref (n 42), .int 0, .int 0, .int 0]))]) [0] rfl
  have hDc := hD.sub (ws' := [(q1, .inr (9, [.ref (n 0), .int 0, .ref (n 2), .ref (n 3), .ref (n 4), .ref (n 5), .ref (n 6), .int 0, .ref (n 8), .ref (n 9), .ref (n 10), .ref (n 11), .ref (n 12), .ref (n 13), .ref (n 14), .int 0, .int 0, .ref (n 17), .ref (n 18), .ref (n 19), .ref (n 20), .ref (n 21), .ref (n 22), .ref (n 23), .ref (n 24), .ref (n 25), .int 1, .int 0, .int 12, .int 0, .int 0, .int 0, .int 0, .int 1440, .ref (n 34), .ref (n 35), .int 0, .int 0, .int 0, .ref (n 39), .ref (n 40), .ref (n 41), .ref (n 42), .int 0, .int 0, .int 0]))]) [0] (by decide) rfl
  have hFc := va_free (wc := [(q1, .inr (9, [.ref (n 0), .int 0, .ref (n 2), .ref (n 3), .ref (n 4), .ref (n 5), .ref (n 6), .int 0, .ref (n 8), .ref (n 9), .ref (n 10), .ref (n 11), .ref (n 12), .ref (n 13), .ref (n 14), .int 0, .int 0, .ref (n 17), .ref (n 18), .ref (n 19), .ref (n 20), .ref (n 21), .ref (n 22), .ref (n 23), .ref (n 24), .ref (n 25), .int 1, .int 0, .int 12, .int 0, .int 0, .int 0, .int 0, .int 1440, .ref (n 34), .ref (n 35), .int 0, .int 0, .int 0, .ref (n 39), .ref (n 40), .ref (n 41), .ref (n 42), .int 0, .int 0, .int 0]))]) hD hS hA [0] rfl
  refine va_calli (va_runV (As := [.int (xs (1 : Int32).toNatClampNeg)]) (rest := [.int 0]) ⟨hx, hb, hml, hown, hts⟩ (k_X9_day l D cI cJ cZ cM q1 n (xs (1 : Int32).toNatClampNeg) _) (cwV 1 hts gL_law_X9_day rfl rfl rfl (by decide +kernel) ⟨Nat.le_of_ble_eq_true rfl, Nat.le_of_ble_eq_true rfl⟩) (rw_V hG hPc hDc (va_recv hK hPc (ci := 9) (q0 := 0) rfl rfl)) rfl rfl hl.1 rfl (lv_room (Nat.le_of_ble_eq_true rfl)) dL_law_439 ⟨Nat.le_of_ble_eq_true rfl, Nat.le_of_ble_eq_true rfl⟩) hS (fun q _ h => hFc q h) hFc (fun r_7 u_7 t_7 H1 locs ht hvm h_7 hB hz1 hk1 hS => ?_)
  obtain ⟨hP, hD⟩ := va_join (wr := []) (w1 := []) hP hD [0] [] rfl rfl (by decide) (by decide) hk1 hFc (fun k q h => by simp at h) ⟨fun i j p q h => by simp at h, fun k q h => by simp at h⟩
  generalize H1 = H at hP hS ⊢
  have hP : va_P D vwCl [] H := hP
  have hD : va_D A [] := hD
  refine W.widen (k := 44) (n := 32807) (by decide) (by decide) ?_
  rcases h_7 with ⟨rfl, h_7⟩ | ⟨rfl, h_7⟩
  · exact absurd h_7 h_2
  refine lv_icmp_eq (tgt := 1068) hx hb dL_law_442 (by decide) (fun _ => ?_) (fun c_8 => False.elim (by revert c_8; decide))
  exact law_end C0 hG hA hA2 hS (by decide) (by decide) (lv_sub hl [3, 0] rfl)
set_option maxHeartbeats 4000000 in
set_option maxRecDepth 100000 in
/-- the call of chain, and the answers' likeness -/
theorem law_7 {p : Program} {l : Launch} {e : Env} {s : State} {m : MethodId} {below : List Frame} {meth : Method} {c : Code} {b : Nat} {xs : Nat → Int32} {D : va_G} {cI cJ cZ cM : Nat} {A : Nat → Prop} {q0 q1 : Nat} {a n : Nat → Nat} {fc : Nat → Int32} {H : Heap} {locs : List Loc} {ls : Array Slot} (C0 : lw_At p s m meth c b 7 xs) (hG : GK D cI cJ cZ cM s) (hA : ∀ q : Nat, s.heap.size ≤ q → A q) (hA2 : ∀ q : Nat, A q → s.heap.size ≤ q) (hP : va_P D vwCl [(q0, .inr (8, [.ref (a 1), .ref (a 2), .ref (a 3), .ref (a 4), .ref (a 5), .ref (a 6), .ref (a 7), .null, .int 0, .int 0, .int 0, .int 0])), (a 1, .inl (cI, 1600, .inl (fun _ => 0))), (a 2, .inl (cM, 10, .inr (.inr (.inr (.inr (fun _ => none)))))), (a 3, .inl (cI, 48, .inl (fun _ => 0))), (a 4, .inr (7, [.ref (a 8), .ref (a 9), .ref (a 10), .ref (a 11), .int 0])), (a 8, .inl (cI, 100, .inl (fun _ => 0))), (a 9, .inl (cI, 100, .inl (fun _ => 0))), (a 10, .inl (cI, 100, .inl (fun _ => 0))), (a 11, .inl (cI, 100, .inl (fun _ => 0))), (a 5, .inr (4, [.ref (a 12), .ref (a 13), .int 0, .int 0, .int 0, .int 1440, .int 1, .int 0, .int 12, .int 0])), (a 12, .inl (cI, 24, .inl (fun _ => 0))), (a 13, .inl (cI, 24, .inl (fun _ => 0))), (a 6, .inr (6, [.int 0, .int 0, .int 0, .int 0, .int 0, .int 0])), (a 7, .inr (3, [.ref (a 14), .int 0])), (a 14, .inl (cI, 8, .inl (fun _ => 0))), (q1, .inr (9, [.ref (n 0), .int 0, .ref (n 2), .ref (n 3), .ref (n 4), .ref (n 5), .ref (n 6), .int 0, .ref (n 8), .ref (n 9), .ref (n 10), .ref (n 11), .ref (n 12), .ref (n 13), .ref (n 14), .int 0, .int 0, .ref (n 17), .ref (n 18), .ref (n 19), .ref (n 20), .ref (n 21), .ref (n 22), .ref (n 23), .ref (n 24), .ref (n 25), .int 1, .int 0, .int 12, .int 0, .int 0, .int 0, .int 0, .int 1440, .ref (n 34), .ref (n 35), .int 0, .int 0, .int 0, .ref (n 39), .ref (n 40), .ref (n 41), .ref (n 42), .int 0, .int 0, .int 0])), (n 0, .inl (cI, 1600, .inl (fun _ => 0))), (n 2, .inl (cI, 10, .inl (fun _ => 0))), (n 3, .inl (cI, 10, .inl (fun _ => 0))), (n 4, .inl (cI, 10, .inl (fun _ => 0))), (n 5, .inl (cZ, 16000, .inl (fun _ => 0))), (n 6, .inl (cZ, 10, .inl (fun _ => 0))), (n 8, .inl (cI, 10, .inl fc)), (n 9, .inl (cI, 10, .inl (fun _ => 0))), (n 10, .inl (cI, 10, .inl (fun _ => 0))), (n 11, .inl (cI, 10, .inl (fun _ => 0))), (n 12, .inl (cI, 48, .inl (fun _ => 0))), (n 13, .inl (cI, 10, .inl (fun _ => 0))), (n 14, .inl (cI, 80, .inl (fun _ => 0))), (n 17, .inl (cI, 100, .inl (fun _ => 0))), (n 18, .inl (cI, 100, .inl (fun _ => 0))), (n 19, .inl (cI, 100, .inl (fun _ => 0))), (n 20, .inl (cI, 100, .inl (fun _ => 0))), (n 21, .inl (cI, 10, .inl (fun _ => 0))), (n 22, .inl (cI, 10, .inl (fun _ => 0))), (n 23, .inl (cI, 10, .inl (fun _ => 0))), (n 24, .inl (cI, 24, .inl (fun _ => 0))), (n 25, .inl (cI, 24, .inl (fun _ => 0))), (n 34, .inl (cI, 8, .inl (fun _ => 0))), (n 35, .inl (cI, 10240, .inl (fun _ => 0))), (n 39, .inl (cI, 10, .inl (fun _ => 0))), (n 40, .inl (cI, 10, .inl (fun _ => 0))), (n 41, .inl (cI, 1024, .inl (fun _ => 0))), (n 42, .inl (cI, 1024, .inl (fun _ => 0)))] H) (hD : va_D A [(q0, .inr (8, [.ref (a 1), .ref (a 2), .ref (a 3), .ref (a 4), .ref (a 5), .ref (a 6), .ref (a 7), .null, .int 0, .int 0, .int 0, .int 0])), (a 1, .inl (cI, 1600, .inl (fun _ => 0))), (a 2, .inl (cM, 10, .inr (.inr (.inr (.inr (fun _ => none)))))), (a 3, .inl (cI, 48, .inl (fun _ => 0))), (a 4, .inr (7, [.ref (a 8), .ref (a 9), .ref (a 10), .ref (a 11), .int 0])), (a 8, .inl (cI, 100, .inl (fun _ => 0))), (a 9, .inl (cI, 100, .inl (fun _ => 0))), (a 10, .inl (cI, 100, .inl (fun _ => 0))), (a 11, .inl (cI, 100, .inl (fun _ => 0))), (a 5, .inr (4, [.ref (a 12), .ref (a 13), .int 0, .int 0, .int 0, .int 1440, .int 1, .int 0, .int 12, .int 0])), (a 12, .inl (cI, 24, .inl (fun _ => 0))), (a 13, .inl (cI, 24, .inl (fun _ => 0))), (a 6, .inr (6, [.int 0, .int 0, .int 0, .int 0, .int 0, .int 0])), (a 7, .inr (3, [.ref (a 14), .int 0])), (a 14, .inl (cI, 8, .inl (fun _ => 0))), (q1, .inr (9, [.ref (n 0), .int 0, .ref (n 2), .ref (n 3), .ref (n 4), .ref (n 5), .ref (n 6), .int 0, .ref (n 8), .ref (n 9), .ref (n 10), .ref (n 11), .ref (n 12), .ref (n 13), .ref (n 14), .int 0, .int 0, .ref (n 17), .ref (n 18), .ref (n 19), .ref (n 20), .ref (n 21), .ref (n 22), .ref (n 23), .ref (n 24), .ref (n 25), .int 1, .int 0, .int 12, .int 0, .int 0, .int 0, .int 0, .int 1440, .ref (n 34), .ref (n 35), .int 0, .int 0, .int 0, .ref (n 39), .ref (n 40), .ref (n 41), .ref (n 42), .int 0, .int 0, .int 0])), (n 0, .inl (cI, 1600, .inl (fun _ => 0))), (n 2, .inl (cI, 10, .inl (fun _ => 0))), (n 3, .inl (cI, 10, .inl (fun _ => 0))), (n 4, .inl (cI, 10, .inl (fun _ => 0))), (n 5, .inl (cZ, 16000, .inl (fun _ => 0))), (n 6, .inl (cZ, 10, .inl (fun _ => 0))), (n 8, .inl (cI, 10, .inl fc)), (n 9, .inl (cI, 10, .inl (fun _ => 0))), (n 10, .inl (cI, 10, .inl (fun _ => 0))), (n 11, .inl (cI, 10, .inl (fun _ => 0))), (n 12, .inl (cI, 48, .inl (fun _ => 0))), (n 13, .inl (cI, 10, .inl (fun _ => 0))), (n 14, .inl (cI, 80, .inl (fun _ => 0))), (n 17, .inl (cI, 100, .inl (fun _ => 0))), (n 18, .inl (cI, 100, .inl (fun _ => 0))), (n 19, .inl (cI, 100, .inl (fun _ => 0))), (n 20, .inl (cI, 100, .inl (fun _ => 0))), (n 21, .inl (cI, 10, .inl (fun _ => 0))), (n 22, .inl (cI, 10, .inl (fun _ => 0))), (n 23, .inl (cI, 10, .inl (fun _ => 0))), (n 24, .inl (cI, 24, .inl (fun _ => 0))), (n 25, .inl (cI, 24, .inl (fun _ => 0))), (n 34, .inl (cI, 8, .inl (fun _ => 0))), (n 35, .inl (cI, 10240, .inl (fun _ => 0))), (n 39, .inl (cI, 10, .inl (fun _ => 0))), (n 40, .inl (cI, 10, .inl (fun _ => 0))), (n 41, .inl (cI, 1024, .inl (fun _ => 0))), (n 42, .inl (cI, 1024, .inl (fun _ => 0)))]) (hS : va_S A s.heap H locs) (hl : lv_has ls 4 [(3, .int 0), (2, .ref q1), (1, .ref q0), (0, .ref b)]) : W p l e room_1 s m #[Value.ref b] below meth c H locs 44 32807 (lw_Z below #[Value.ref b] s) (F0 m 447 ls []) := by
  obtain ⟨hx, hb, hr, hml, hown, hts0, hX, hbl, hlocks, hgv⟩ := id C0
  have hts := fun w h => hts0 w (wsL_law_in w h)
  have hbA : ¬ A b := fun h => Nat.not_le.mpr hbl (hA2 _ h)
  have hK := hG.1
  have hN := hG.2
  refine lv_aload_n hx hb dL_law_447 rfl (lv_at hl 2 rfl) ?_
  refine lv_aload_n hx hb dL_law_448 rfl (lv_at hl 3 rfl) ?_
  refine lv_iload_n hx hb dL_law_449 rfl (lv_at hl 0 rfl) ?_
  refine lv_iconst (v := 1) hx hb dL_law_450 (by decide) ?_
  refine lv_iadd hx hb dL_law_451 ?_
  refine lv_topi (fun z_1 ez_1 => ?_)
  obtain rfl : z_1 = 1 := ez_1.trans (by decide)
  refine va_sld hx hb hX hbl hbA hS (vp_in_nI (n := 1) (N := 7) (by decide) (by decide)) dL_law_452 ?_
  refine lv_aload_n hx hb dL_law_453 rfl (lv_at hl 3 rfl) ?_
  refine lv_iload_n hx hb dL_law_454 rfl (lv_at hl 0 rfl) ?_
  refine lv_iconst (v := 2) hx hb dL_law_455 (by decide) ?_
  refine lv_iadd hx hb dL_law_456 ?_
  refine lv_topi (fun z_2 ez_2 => ?_)
  obtain rfl : z_2 = 2 := ez_2.trans (by decide)
  refine va_sld hx hb hX hbl hbA hS (vp_in_nI (n := 2) (N := 7) (by decide) (by decide)) dL_law_457 ?_
  refine lv_aload_n hx hb dL_law_458 rfl (lv_at hl 3 rfl) ?_
  refine lv_iload_n hx hb dL_law_459 rfl (lv_at hl 0 rfl) ?_
  refine lv_iconst (v := 3) hx hb dL_law_460 (by decide) ?_
  refine lv_iadd hx hb dL_law_461 ?_
  refine lv_topi (fun z_3 ez_3 => ?_)
  obtain rfl : z_3 = 3 := ez_3.trans (by decide)
  refine va_sld hx hb hX hbl hbA hS (vp_in_nI (n := 3) (N := 7) (by decide) (by decide)) dL_law_462 ?_
  refine lv_aload_n hx hb dL_law_463 rfl (lv_at hl 3 rfl) ?_
  refine lv_iload_n hx hb dL_law_464 rfl (lv_at hl 0 rfl) ?_
  refine lv_iconst (v := 4) hx hb dL_law_465 (by decide) ?_
  refine lv_iadd hx hb dL_law_466 ?_
  refine lv_topi (fun z_4 ez_4 => ?_)
  obtain rfl : z_4 = 4 := ez_4.trans (by decide)
  refine va_sld hx hb hX hbl hbA hS (vp_in_nI (n := 4) (N := 7) (by decide) (by decide)) dL_law_467 ?_
  have hPc := hP.sub (ws' := [(q0, .inr (8, [.ref (a 1), .ref (a 2), .ref (a 3), .ref (a 4), .ref (a 5), .ref (a 6), .ref (a 7), .null, .int 0, .int 0, .int 0, .int 0])), (a 1, .inl (cI, 1600, .inl (fun _ => 0))), (a 2, .inl (cM, 10, .inr (.inr (.inr (.inr (fun _ => none)))))), (a 3, .inl (cI, 48, .inl (fun _ => 0))), (a 4, .inr (7, [.ref (a 8), .ref (a 9), .ref (a 10), .ref (a 11), .int 0])), (a 8, .inl (cI, 100, .inl (fun _ => 0))), (a 9, .inl (cI, 100, .inl (fun _ => 0))), (a 10, .inl (cI, 100, .inl (fun _ => 0))), (a 11, .inl (cI, 100, .inl (fun _ => 0))), (a 5, .inr (4, [.ref (a 12), .ref (a 13), .int 0, .int 0, .int 0, .int 1440, .int 1, .int 0, .int 12, .int 0])), (a 12, .inl (cI, 24, .inl (fun _ => 0))), (a 13, .inl (cI, 24, .inl (fun _ => 0))), (a 6, .inr (6, [.int 0, .int 0, .int 0, .int 0, .int 0, .int 0])), (a 7, .inr (3, [.ref (a 14), .int 0])), (a 14, .inl (cI, 8, .inl (fun _ => 0)))]) [0, 1, 2, 3, 4, 5, 6, 7, 8, 9, 10, 11, 12, 13, 14] rfl
  refine vp_callSi (va_Run.run (va_runV (As := [.int (xs (1 : Int32).toNatClampNeg), .int (xs (2 : Int32).toNatClampNeg), .int (xs (3 : Int32).toNatClampNeg), .int (xs (4 : Int32).toNatClampNeg)]) (rest := []) ⟨hx, hb, hml, hown, hts⟩ (k_X8_chain l D cI cJ cZ cM q0 a (xs (1 : Int32).toNatClampNeg) (xs (2 : Int32).toNatClampNeg) (xs (3 : Int32).toNatClampNeg) (xs (4 : Int32).toNatClampNeg)) (cwV 4 hts gL_law_X8_chain rfl rfl rfl (by decide +kernel) ⟨Nat.le_of_ble_eq_true rfl, Nat.le_of_ble_eq_true rfl⟩) (ro_V hG hPc (va_recv hK hPc (ci := 8) (q0 := 0) rfl rfl)) rfl rfl hl.1 rfl (lv_room (Nat.le_of_ble_eq_true rfl)) dL_law_468 ⟨Nat.le_of_ble_eq_true rfl, Nat.le_of_ble_eq_true rfl⟩)) (fun r_5 h_5 => ?_)
  obtain rfl : r_5 = 0 := h_5
  refine lv_aload_n hx hb dL_law_471 rfl (lv_at hl 1 rfl) ?_
  refine lv_aload_n hx hb dL_law_472 rfl (lv_at hl 3 rfl) ?_
  refine lv_iload_n hx hb dL_law_473 rfl (lv_at hl 0 rfl) ?_
  refine lv_iconst (v := 1) hx hb dL_law_474 (by decide) ?_
  refine lv_iadd hx hb dL_law_475 ?_
  refine lv_topi (fun z_6 ez_6 => ?_)
  obtain rfl : z_6 = 1 := ez_6.trans (by decide)
  refine va_sld hx hb hX hbl hbA hS (vp_in_nI (n := 1) (N := 7) (by decide) (by decide)) dL_law_476 ?_
  refine lv_aload_n hx hb dL_law_477 rfl (lv_at hl 3 rfl) ?_
  refine lv_iload_n hx hb dL_law_478 rfl (lv_at hl 0 rfl) ?_
  refine lv_iconst (v := 2) hx hb dL_law_479 (by decide) ?_
  refine lv_iadd hx hb dL_law_480 ?_
  refine lv_topi (fun z_7 ez_7 => ?_)
  obtain rfl : z_7 = 2 := ez_7.trans (by decide)
  refine va_sld hx hb hX hbl hbA hS (vp_in_nI (n := 2) (N := 7) (by decide) (by decide)) dL_law_481 ?_
  refine lv_aload_n hx hb dL_law_482 rfl (lv_at hl 3 rfl) ?_
  refine lv_iload_n hx hb dL_law_483 rfl (lv_at hl 0 rfl) ?_
  refine lv_iconst (v := 3) hx hb dL_law_484 (by decide) ?_
  refine lv_iadd hx hb dL_law_485 ?_
  refine lv_topi (fun z_8 ez_8 => ?_)
  obtain rfl : z_8 = 3 := ez_8.trans (by decide)
  refine va_sld hx hb hX hbl hbA hS (vp_in_nI (n := 3) (N := 7) (by decide) (by decide)) dL_law_486 ?_
  refine lv_aload_n hx hb dL_law_487 rfl (lv_at hl 3 rfl) ?_
  refine lv_iload_n hx hb dL_law_488 rfl (lv_at hl 0 rfl) ?_
  refine lv_iconst (v := 4) hx hb dL_law_489 (by decide) ?_
  refine lv_iadd hx hb dL_law_490 ?_
  refine lv_topi (fun z_9 ez_9 => ?_)
  obtain rfl : z_9 = 4 := ez_9.trans (by decide)
  refine va_sld hx hb hX hbl hbA hS (vp_in_nI (n := 4) (N := 7) (by decide) (by decide)) dL_law_491 ?_
  have hPc := hP.sub (ws' := [(q1, .inr (9, [.ref (n 0), .int 0, .ref (n 2), .ref (n 3), .ref (n 4), .ref (n 5), .ref (n 6), .int 0, .ref (n 8), .ref (n 9), .ref (n 10), .ref (n 11), .ref (n 12), .ref (n 13), .ref (n 14), .int 0, .int 0, .ref (n 17), .ref (n 18), .ref (n 19), .ref (n 20), .ref (n 21), .ref (n 22), .ref (n 23), .ref (n 24), .ref (n 25), .int 1, .int 0, .int 12, .int 0, .int 0, .int 0, .int 0, .int 1440, .ref (n 34), .ref (n 35), .int 0, .int 0, .int 0, .ref (n 39), .ref (n 40), .ref (n 41), .ref (n 42), .int 0, .int 0, .int 0]))]) [15] rfl
  refine vp_callSi (va_Run.run (va_runV (As := [.int (xs (1 : Int32).toNatClampNeg), .int (xs (2 : Int32).toNatClampNeg), .int (xs (3 : Int32).toNatClampNeg), .int (xs (4 : Int32).toNatClampNeg)]) (rest := [.int 0]) ⟨hx, hb, hml, hown, hts⟩ (k_X9_chain l D cI cJ cZ cM q1 n (xs (1 : Int32).toNatClampNeg) (xs (2 : Int32).toNatClampNeg) (xs (3 : Int32).toNatClampNeg) (xs (4 : Int32).toNatClampNeg)) (cwV 4 hts gL_law_X9_chain rfl rfl rfl (by decide +kernel) ⟨Nat.le_of_ble_eq_true rfl, Nat.le_of_ble_eq_true rfl⟩) (ro_V hG hPc (va_recv hK hPc (ci := 9) (q0 := 0) rfl rfl)) rfl rfl hl.1 rfl (lv_room (Nat.le_of_ble_eq_true rfl)) dL_law_492 ⟨Nat.le_of_ble_eq_true rfl, Nat.le_of_ble_eq_true rfl⟩)) (fun r_10 h_10 => ?_)
  obtain rfl : r_10 = 0 := h_10
  refine lv_icmp_eq (tgt := 1068) hx hb dL_law_495 (by decide) (fun _ => ?_) (fun c_11 => False.elim (by revert c_11; decide))
  exact law_end C0 hG hA hA2 hS (by decide) (by decide) (lv_sub hl [3, 0] rfl)
set_option maxHeartbeats 4000000 in
set_option maxRecDepth 100000 in
/-- the call of wear, and the answers' likeness -/
theorem law_8 {p : Program} {l : Launch} {e : Env} {s : State} {m : MethodId} {below : List Frame} {meth : Method} {c : Code} {b : Nat} {xs : Nat → Int32} {D : va_G} {cI cJ cZ cM : Nat} {A : Nat → Prop} {q0 q1 : Nat} {a n : Nat → Nat} {fc : Nat → Int32} {H : Heap} {locs : List Loc} {ls : Array Slot} (C0 : lw_At p s m meth c b 7 xs) (hG : GK D cI cJ cZ cM s) (hA : ∀ q : Nat, s.heap.size ≤ q → A q) (hA2 : ∀ q : Nat, A q → s.heap.size ≤ q) (hP : va_P D vwCl [(q0, .inr (8, [.ref (a 1), .ref (a 2), .ref (a 3), .ref (a 4), .ref (a 5), .ref (a 6), .ref (a 7), .null, .int 0, .int 0, .int 0, .int 0])), (a 1, .inl (cI, 1600, .inl (fun _ => 0))), (a 2, .inl (cM, 10, .inr (.inr (.inr (.inr (fun _ => none)))))), (a 3, .inl (cI, 48, .inl (fun _ => 0))), (a 4, .inr (7, [.ref (a 8), .ref (a 9), .ref (a 10), .ref (a 11), .int 0])), (a 8, .inl (cI, 100, .inl (fun _ => 0))), (a 9, .inl (cI, 100, .inl (fun _ => 0))), (a 10, .inl (cI, 100, .inl (fun _ => 0))), (a 11, .inl (cI, 100, .inl (fun _ => 0))), (a 5, .inr (4, [.ref (a 12), .ref (a 13), .int 0, .int 0, .int 0, .int 1440, .int 1, .int 0, .int 12, .int 0])), (a 12, .inl (cI, 24, .inl (fun _ => 0))), (a 13, .inl (cI, 24, .inl (fun _ => 0))), (a 6, .inr (6, [.int 0, .int 0, .int 0, .int 0, .int 0, .int 0])), (a 7, .inr (3, [.ref (a 14), .int 0])), (a 14, .inl (cI, 8, .inl (fun _ => 0))), (q1, .inr (9, [.ref (n 0), .int 0, .ref (n 2), .ref (n 3), .ref (n 4), .ref (n 5), .ref (n 6), .int 0, .ref (n 8), .ref (n 9), .ref (n 10), .ref (n 11), .ref (n 12), .ref (n 13), .ref (n 14), .int 0, .int 0, .ref (n 17), .ref (n 18), .ref (n 19), .ref (n 20), .ref (n 21), .ref (n 22), .ref (n 23), .ref (n 24), .ref (n 25), .int 1, .int 0, .int 12, .int 0, .int 0, .int 0, .int 0, .int 1440, .ref (n 34), .ref (n 35), .int 0, .int 0, .int 0, .ref (n 39), .ref (n 40), .ref (n 41), .ref (n 42), .int 0, .int 0, .int 0])), (n 0, .inl (cI, 1600, .inl (fun _ => 0))), (n 2, .inl (cI, 10, .inl (fun _ => 0))), (n 3, .inl (cI, 10, .inl (fun _ => 0))), (n 4, .inl (cI, 10, .inl (fun _ => 0))), (n 5, .inl (cZ, 16000, .inl (fun _ => 0))), (n 6, .inl (cZ, 10, .inl (fun _ => 0))), (n 8, .inl (cI, 10, .inl fc)), (n 9, .inl (cI, 10, .inl (fun _ => 0))), (n 10, .inl (cI, 10, .inl (fun _ => 0))), (n 11, .inl (cI, 10, .inl (fun _ => 0))), (n 12, .inl (cI, 48, .inl (fun _ => 0))), (n 13, .inl (cI, 10, .inl (fun _ => 0))), (n 14, .inl (cI, 80, .inl (fun _ => 0))), (n 17, .inl (cI, 100, .inl (fun _ => 0))), (n 18, .inl (cI, 100, .inl (fun _ => 0))), (n 19, .inl (cI, 100, .inl (fun _ => 0))), (n 20, .inl (cI, 100, .inl (fun _ => 0))), (n 21, .inl (cI, 10, .inl (fun _ => 0))), (n 22, .inl (cI, 10, .inl (fun _ => 0))), (n 23, .inl (cI, 10, .inl (fun _ => 0))), (n 24, .inl (cI, 24, .inl (fun _ => 0))), (n 25, .inl (cI, 24, .inl (fun _ => 0))), (n 34, .inl (cI, 8, .inl (fun _ => 0))), (n 35, .inl (cI, 10240, .inl (fun _ => 0))), (n 39, .inl (cI, 10, .inl (fun _ => 0))), (n 40, .inl (cI, 10, .inl (fun _ => 0))), (n 41, .inl (cI, 1024, .inl (fun _ => 0))), (n 42, .inl (cI, 1024, .inl (fun _ => 0)))] H) (hD : va_D A [(q0, .inr (8, [.ref (a 1), .ref (a 2), .ref (a 3), .ref (a 4), .ref (a 5), .ref (a 6), .ref (a 7), .null, .int 0, .int 0, .int 0, .int 0])), (a 1, .inl (cI, 1600, .inl (fun _ => 0))), (a 2, .inl (cM, 10, .inr (.inr (.inr (.inr (fun _ => none)))))), (a 3, .inl (cI, 48, .inl (fun _ => 0))), (a 4, .inr (7, [.ref (a 8), .ref (a 9), .ref (a 10), .ref (a 11), .int 0])), (a 8, .inl (cI, 100, .inl (fun _ => 0))), (a 9, .inl (cI, 100, .inl (fun _ => 0))), (a 10, .inl (cI, 100, .inl (fun _ => 0))), (a 11, .inl (cI, 100, .inl (fun _ => 0))), (a 5, .inr (4, [.ref (a 12), .ref (a 13), .int 0, .int 0, .int 0, .int 1440, .int 1, .int 0, .int 12, .int 0])), (a 12, .inl (cI, 24, .inl (fun _ => 0))), (a 13, .inl (cI, 24, .inl (fun _ => 0))), (a 6, .inr (6, [.int 0, .int 0, .int 0, .int 0, .int 0, .int 0])), (a 7, .inr (3, [.ref (a 14), .int 0])), (a 14, .inl (cI, 8, .inl (fun _ => 0))), (q1, .inr (9, [.ref (n 0), .int 0, .ref (n 2), .ref (n 3), .ref (n 4), .ref (n 5), .ref (n 6), .int 0, .ref (n 8), .ref (n 9), .ref (n 10), .ref (n 11), .ref (n 12), .ref (n 13), .ref (n 14), .int 0, .int 0, .ref (n 17), .ref (n 18), .ref (n 19), .ref (n 20), .ref (n 21), .ref (n 22), .ref (n 23), .ref (n 24), .ref (n 25), .int 1, .int 0, .int 12, .int 0, .int 0, .int 0, .int 0, .int 1440, .ref (n 34), .ref (n 35), .int 0, .int 0, .int 0, .ref (n 39), .ref (n 40), .ref (n 41), .ref (n 42), .int 0, .int 0, .int 0])), (n 0, .inl (cI, 1600, .inl (fun _ => 0))), (n 2, .inl (cI, 10, .inl (fun _ => 0))), (n 3, .inl (cI, 10, .inl (fun _ => 0))), (n 4, .inl (cI, 10, .inl (fun _ => 0))), (n 5, .inl (cZ, 16000, .inl (fun _ => 0))), (n 6, .inl (cZ, 10, .inl (fun _ => 0))), (n 8, .inl (cI, 10, .inl fc)), (n 9, .inl (cI, 10, .inl (fun _ => 0))), (n 10, .inl (cI, 10, .inl (fun _ => 0))), (n 11, .inl (cI, 10, .inl (fun _ => 0))), (n 12, .inl (cI, 48, .inl (fun _ => 0))), (n 13, .inl (cI, 10, .inl (fun _ => 0))), (n 14, .inl (cI, 80, .inl (fun _ => 0))), (n 17, .inl (cI, 100, .inl (fun _ => 0))), (n 18, .inl (cI, 100, .inl (fun _ => 0))), (n 19, .inl (cI, 100, .inl (fun _ => 0))), (n 20, .inl (cI, 100, .inl (fun _ => 0))), (n 21, .inl (cI, 10, .inl (fun _ => 0))), (n 22, .inl (cI, 10, .inl (fun _ => 0))), (n 23, .inl (cI, 10, .inl (fun _ => 0))), (n 24, .inl (cI, 24, .inl (fun _ => 0))), (n 25, .inl (cI, 24, .inl (fun _ => 0))), (n 34, .inl (cI, 8, .inl (fun _ => 0))), (n 35, .inl (cI, 10240, .inl (fun _ => 0))), (n 39, .inl (cI, 10, .inl (fun _ => 0))), (n 40, .inl (cI, 10, .inl (fun _ => 0))), (n 41, .inl (cI, 1024, .inl (fun _ => 0))), (n 42, .inl (cI, 1024, .inl (fun _ => 0)))]) (hS : va_S A s.heap H locs) (hl : lv_has ls 4 [(3, .int 0), (2, .ref q1), (1, .ref q0), (0, .ref b)]) : W p l e room_1 s m #[Value.ref b] below meth c H locs 44 32807 (lw_Z below #[Value.ref b] s) (F0 m 500 ls []) := by
  obtain ⟨hx, hb, hr, hml, hown, hts0, hX, hbl, hlocks, hgv⟩ := id C0
  have hts := fun w h => hts0 w (wsL_law_in w h)
  have hbA : ¬ A b := fun h => Nat.not_le.mpr hbl (hA2 _ h)
  have hK := hG.1
  have hN := hG.2
  refine lv_aload_n hx hb dL_law_500 rfl (lv_at hl 2 rfl) ?_
  refine lv_aload_n hx hb dL_law_501 rfl (lv_at hl 3 rfl) ?_
  refine lv_iload_n hx hb dL_law_502 rfl (lv_at hl 0 rfl) ?_
  refine lv_iconst (v := 1) hx hb dL_law_503 (by decide) ?_
  refine lv_iadd hx hb dL_law_504 ?_
  refine lv_topi (fun z_1 ez_1 => ?_)
  obtain rfl : z_1 = 1 := ez_1.trans (by decide)
  refine va_sld hx hb hX hbl hbA hS (vp_in_nI (n := 1) (N := 7) (by decide) (by decide)) dL_law_505 ?_
  refine lv_aload_n hx hb dL_law_506 rfl (lv_at hl 3 rfl) ?_
  refine lv_iload_n hx hb dL_law_507 rfl (lv_at hl 0 rfl) ?_
  refine lv_iconst (v := 2) hx hb dL_law_508 (by decide) ?_
  refine lv_iadd hx hb dL_law_509 ?_
  refine lv_topi (fun z_2 ez_2 => ?_)
  obtain rfl : z_2 = 2 := ez_2.trans (by decide)
  refine va_sld hx hb hX hbl hbA hS (vp_in_nI (n := 2) (N := 7) (by decide) (by decide)) dL_law_510 ?_
  refine lv_aload_n hx hb dL_law_511 rfl (lv_at hl 3 rfl) ?_
  refine lv_iload_n hx hb dL_law_512 rfl (lv_at hl 0 rfl) ?_
  refine lv_iconst (v := 3) hx hb dL_law_513 (by decide) ?_
  refine lv_iadd hx hb dL_law_514 ?_
  refine lv_topi (fun z_3 ez_3 => ?_)
  obtain rfl : z_3 = 3 := ez_3.trans (by decide)
  refine va_sld hx hb hX hbl hbA hS (vp_in_nI (n := 3) (N := 7) (by decide) (by decide)) dL_law_515 ?_
  have hPc := hP.sub (ws' := [(q0, .inr (8, [.ref (a 1), .ref (a 2), .ref (a 3), .ref (a 4), .ref (a 5), .ref (a 6), .ref (a 7), .null, .int 0, .int 0, .int 0, .int 0])), (a 3, .inl (cI, 48, .inl (fun _ => 0)))]) [0, 3] rfl
  have hDc := hD.sub (ws' := [(q0, .inr (8, [.ref (a 1), .ref (a 2), .ref (a 3), .ref (a 4), .ref (a 5), .ref (a 6), .ref (a 7), .null, .int 0, .int 0, .int 0, .int 0])), (a 3, .inl (cI, 48, .inl (fun _ => 0)))]) [0, 3] (by decide) rfl
  have hFc := va_free (wc := [(q0, .inr (8, [.ref (a 1), .ref (a 2), .ref (a 3), .ref (a 4), .ref (a 5), .ref (a 6), .ref (a 7), .null, .int 0, .int 0, .int 0, .int 0])), (a 3, .inl (cI, 48, .inl (fun _ => 0)))]) hD hS hA [0, 3] rfl
  refine va_calli (va_runV (As := [.int (xs (1 : Int32).toNatClampNeg), .int (xs (2 : Int32).toNatClampNeg), .int (xs (3 : Int32).toNatClampNeg)]) (rest := []) ⟨hx, hb, hml, hown, hts⟩ (k_X8_wear l D cI cJ cZ cM q0 a (xs (1 : Int32).toNatClampNeg) (xs (2 : Int32).toNatClampNeg) (xs (3 : Int32).toNatClampNeg) _) (cwV 3 hts gL_law_X8_wear rfl rfl rfl (by decide +kernel) ⟨Nat.le_of_ble_eq_true rfl, Nat.le_of_ble_eq_true rfl⟩) (rw_V hG hPc hDc (va_recv hK hPc (ci := 8) (q0 := 0) rfl rfl)) rfl rfl hl.1 rfl (lv_room (Nat.le_of_ble_eq_true rfl)) dL_law_516 ⟨Nat.le_of_ble_eq_true rfl, Nat.le_of_ble_eq_true rfl⟩) hS (fun q _ h => hFc q h) hFc (fun r_4 u_4 t_4 H1 locs ht hvm h_4 hB hz1 hk1 hS => ?_)
  obtain ⟨hP, hD⟩ := va_join (wr := [(q1, .inr (9, [.ref (n 0), .int 0, .ref (n 2), .ref (n 3), .ref (n 4), .ref (n 5), .ref (n 6), .int 0, .ref (n 8), .ref (n 9), .ref (n 10), .ref (n 11), .ref (n 12), .ref (n 13), .ref (n 14), .int 0, .int 0, .ref (n 17), .ref (n 18), .ref (n 19), .ref (n 20), .ref (n 21), .ref (n 22), .ref (n 23), .ref (n 24), .ref (n 25), .int 1, .int 0, .int 12, .int 0, .int 0, .int 0, .int 0, .int 1440, .ref (n 34), .ref (n 35), .int 0, .int 0, .int 0, .ref (n 39), .ref (n 40), .ref (n 41), .ref (n 42), .int 0, .int 0, .int 0])), (n 12, .inl (cI, 48, .inl (fun _ => 0)))]) (w1 := []) hP hD [0, 3] [15, 26] rfl rfl (by decide) (by decide) hk1 hFc (fun k q h => by simp at h) ⟨fun i j p q h => by simp at h, fun k q h => by simp at h⟩
  generalize H1 = H at hP hS ⊢
  have hP : va_P D vwCl [(q1, .inr (9, [.ref (n 0), .int 0, .ref (n 2), .ref (n 3), .ref (n 4), .ref (n 5), .ref (n 6), .int 0, .ref (n 8), .ref (n 9), .ref (n 10), .ref (n 11), .ref (n 12), .ref (n 13), .ref (n 14), .int 0, .int 0, .ref (n 17), .ref (n 18), .ref (n 19), .ref (n 20), .ref (n 21), .ref (n 22), .ref (n 23), .ref (n 24), .ref (n 25), .int 1, .int 0, .int 12, .int 0, .int 0, .int 0, .int 0, .int 1440, .ref (n 34), .ref (n 35), .int 0, .int 0, .int 0, .ref (n 39), .ref (n 40), .ref (n 41), .ref (n 42), .int 0, .int 0, .int 0])), (n 12, .inl (cI, 48, .inl (fun _ => 0)))] H := hP
  have hD : va_D A [(q1, .inr (9, [.ref (n 0), .int 0, .ref (n 2), .ref (n 3), .ref (n 4), .ref (n 5), .ref (n 6), .int 0, .ref (n 8), .ref (n 9), .ref (n 10), .ref (n 11), .ref (n 12), .ref (n 13), .ref (n 14), .int 0, .int 0, .ref (n 17), .ref (n 18), .ref (n 19), .ref (n 20), .ref (n 21), .ref (n 22), .ref (n 23), .ref (n 24), .ref (n 25), .int 1, .int 0, .int 12, .int 0, .int 0, .int 0, .int 0, .int 1440, .ref (n 34), .ref (n 35), .int 0, .int 0, .int 0, .ref (n 39), .ref (n 40), .ref (n 41), .ref (n 42), .int 0, .int 0, .int 0])), (n 12, .inl (cI, 48, .inl (fun _ => 0)))] := hD
  refine W.widen (k := 44) (n := 32807) (by decide) (by decide) ?_
  rcases h_4 with ⟨rfl, h_4⟩ | ⟨rfl, h_4⟩
  · refine lv_aload_n hx hb dL_law_519 rfl (lv_at hl 1 rfl) ?_
    refine lv_aload_n hx hb dL_law_520 rfl (lv_at hl 3 rfl) ?_
    refine lv_iload_n hx hb dL_law_521 rfl (lv_at hl 0 rfl) ?_
    refine lv_iconst (v := 1) hx hb dL_law_522 (by decide) ?_
    refine lv_iadd hx hb dL_law_523 ?_
    refine lv_topi (fun z_5 ez_5 => ?_)
    obtain rfl : z_5 = 1 := ez_5.trans (by decide)
    refine va_sld hx hb hX hbl hbA hS (vp_in_nI (n := 1) (N := 7) (by decide) (by decide)) dL_law_524 ?_
    refine lv_aload_n hx hb dL_law_525 rfl (lv_at hl 3 rfl) ?_
    refine lv_iload_n hx hb dL_law_526 rfl (lv_at hl 0 rfl) ?_
    refine lv_iconst (v := 2) hx hb dL_law_527 (by decide) ?_
    refine lv_iadd hx hb dL_law_528 ?_
    refine lv_topi (fun z_6 ez_6 => ?_)
    obtain rfl : z_6 = 2 := ez_6.trans (by decide)
    refine va_sld hx hb hX hbl hbA hS (vp_in_nI (n := 2) (N := 7) (by decide) (by decide)) dL_law_529 ?_
    refine lv_aload_n hx hb dL_law_530 rfl (lv_at hl 3 rfl) ?_
    refine lv_iload_n hx hb dL_law_531 rfl (lv_at hl 0 rfl) ?_
    refine lv_iconst (v := 3) hx hb dL_law_532 (by decide) ?_
    refine lv_iadd hx hb dL_law_533 ?_
    refine lv_topi (fun z_7 ez_7 => ?_)
    obtain rfl : z_7 = 3 := ez_7.trans (by decide)
    refine va_sld hx hb hX hbl hbA hS (vp_in_nI (n := 3) (N := 7) (by decide) (by decide)) dL_law_534 ?_
    have hPc := hP.sub (ws' := [(q1, .inr (9, [.ref (n 0), .int 0, .ref (n 2), .ref (n 3), .ref (n 4), .ref (n 5), .ref (n 6), .int 0, .ref (n 8), .ref (n 9), .ref (n 10), .ref (n 11), .ref (n 12), .ref (n 13), .ref (n 14), .int 0, .int 0, .ref (n 17), .ref (n 18), .ref (n 19), .ref (n 20), .ref (n 21), .ref (n 22), .ref (n 23), .ref (n 24), .ref (n 25), .int 1, .int 0, .int 12, .int 0, .int 0, .int 0, .int 0, .int 1440, .ref (n 34), .ref (n 35), .int 0, .int 0, .int 0, .ref (n 39), .ref (n 40), .ref (n 41), .ref (n 42), .int 0, .int 0, .int 0])), (n 12, .inl (cI, 48, .inl (fun _ => 0)))]) [0, 1] rfl
    have hDc := hD.sub (ws' := [(q1, .inr (9, [.ref (n 0), .int 0, .ref (n 2), .ref (n 3), .ref (n 4), .ref (n 5), .ref (n 6), .int 0, .ref (n 8), .ref (n 9), .ref (n 10), .ref (n 11), .ref (n 12), .ref (n 13), .ref (n 14), .int 0, .int 0, .ref (n 17), .ref (n 18), .ref (n 19), .ref (n 20), .ref (n 21), .ref (n 22), .ref (n 23), .ref (n 24), .ref (n 25), .int 1, .int 0, .int 12, .int 0, .int 0, .int 0, .int 0, .int 1440, .ref (n 34), .ref (n 35), .int 0, .int 0, .int 0, .ref (n 39), .ref (n 40), .ref (n 41), .ref (n 42), .int 0, .int 0, .int 0])), (n 12, .inl (cI, 48, .inl (fun _ => 0)))]) [0, 1] (by decide) rfl
    have hFc := va_free (wc := [(q1, .inr (9, [.ref (n 0), .int 0, .ref (n 2), .ref (n 3), .ref (n 4), .ref (n 5), .ref (n 6), .int 0, .ref (n 8), .ref (n 9), .ref (n 10), .ref (n 11), .ref (n 12), .ref (n 13), .ref (n 14), .int 0, .int 0, .ref (n 17), .ref (n 18), .ref (n 19), .ref (n 20), .ref (n 21), .ref (n 22), .ref (n 23), .ref (n 24), .ref (n 25), .int 1, .int 0, .int 12, .int 0, .int 0, .int 0, .int 0, .int 1440, .ref (n 34), .ref (n 35), .int 0, .int 0, .int 0, .ref (n 39), .ref (n 40), .ref (n 41), .ref (n 42), .int 0, .int 0, .int 0])), (n 12, .inl (cI, 48, .inl (fun _ => 0)))]) hD hS hA [0, 1] rfl
    refine va_calli (va_runV (As := [.int (xs (1 : Int32).toNatClampNeg), .int (xs (2 : Int32).toNatClampNeg), .int (xs (3 : Int32).toNatClampNeg)]) (rest := [.int 1]) ⟨hx, hb, hml, hown, hts⟩ (k_X9_wear l D cI cJ cZ cM q1 n (xs (1 : Int32).toNatClampNeg) (xs (2 : Int32).toNatClampNeg) (xs (3 : Int32).toNatClampNeg) _) (cwV 3 hts gL_law_X9_wear rfl rfl rfl (by decide +kernel) ⟨Nat.le_of_ble_eq_true rfl, Nat.le_of_ble_eq_true rfl⟩) (rw_V hG hPc hDc (va_recv hK hPc (ci := 9) (q0 := 0) rfl rfl)) rfl rfl hl.1 rfl (lv_room (Nat.le_of_ble_eq_true rfl)) dL_law_535 ⟨Nat.le_of_ble_eq_true rfl, Nat.le_of_ble_eq_true rfl⟩) hS (fun q _ h => hFc q h) hFc (fun r_8 u_8 t_8 H1 locs ht hvm h_8 hB hz1 hk1 hS => ?_)
    obtain ⟨hP, hD⟩ := va_join (wr := []) (w1 := []) hP hD [0, 1] [] rfl rfl (by decide) (by decide) hk1 hFc (fun k q h => by simp at h) ⟨fun i j p q h => by simp at h, fun k q h => by simp at h⟩
    generalize H1 = H at hP hS ⊢
    have hP : va_P D vwCl [] H := hP
    have hD : va_D A [] := hD
    refine W.widen (k := 44) (n := 32807) (by decide) (by decide) ?_
    rcases h_8 with ⟨rfl, h_8⟩ | ⟨rfl, h_8⟩
    · refine lv_icmp_eq (tgt := 1068) hx hb dL_law_538 (by decide) (fun _ => ?_) (fun c_9 => False.elim (by revert c_9; decide))
      exact law_end C0 hG hA hA2 hS (by decide) (by decide) (lv_sub hl [3, 0] rfl)
    exact absurd h_4 h_8
  refine lv_aload_n hx hb dL_law_519 rfl (lv_at hl 1 rfl) ?_
  refine lv_aload_n hx hb dL_law_520 rfl (lv_at hl 3 rfl) ?_
  refine lv_iload_n hx hb dL_law_521 rfl (lv_at hl 0 rfl) ?_
  refine lv_iconst (v := 1) hx hb dL_law_522 (by decide) ?_
  refine lv_iadd hx hb dL_law_523 ?_
  refine lv_topi (fun z_10 ez_10 => ?_)
  obtain rfl : z_10 = 1 := ez_10.trans (by decide)
  refine va_sld hx hb hX hbl hbA hS (vp_in_nI (n := 1) (N := 7) (by decide) (by decide)) dL_law_524 ?_
  refine lv_aload_n hx hb dL_law_525 rfl (lv_at hl 3 rfl) ?_
  refine lv_iload_n hx hb dL_law_526 rfl (lv_at hl 0 rfl) ?_
  refine lv_iconst (v := 2) hx hb dL_law_527 (by decide) ?_
  refine lv_iadd hx hb dL_law_528 ?_
  refine lv_topi (fun z_11 ez_11 => ?_)
  obtain rfl : z_11 = 2 := ez_11.trans (by decide)
  refine va_sld hx hb hX hbl hbA hS (vp_in_nI (n := 2) (N := 7) (by decide) (by decide)) dL_law_529 ?_
  refine lv_aload_n hx hb dL_law_530 rfl (lv_at hl 3 rfl) ?_
  refine lv_iload_n hx hb dL_law_531 rfl (lv_at hl 0 rfl) ?_
  refine lv_iconst (v := 3) hx hb dL_law_532 (by decide) ?_
  refine lv_iadd hx hb dL_law_533 ?_
  refine lv_topi (fun z_12 ez_12 => ?_)
  obtain rfl : z_12 = 3 := ez_12.trans (by decide)
  refine va_sld hx hb hX hbl hbA hS (vp_in_nI (n := 3) (N := 7) (by decide) (by decide)) dL_law_534 ?_
  have hPc := hP.sub (ws' := [(q1, .inr (9, [.ref (n 0), .int 0, .ref (n 2), .ref (n 3), .ref (n 4), .ref (n 5), .ref (n 6), .int 0, .ref (n 8), .ref (n 9), .ref (n 10), .ref (n 11), .ref (n 12), .ref (n 13), .ref (n 14), .int 0, .int 0, .ref (n 17), .ref (n 18), .ref (n 19), .ref (n 20), .ref (n 21), .ref (n 22), .ref (n 23), .ref (n 24), .ref (n 25), .int 1, .int 0, .int 12, .int 0, .int 0, .int 0, .int 0, .int 1440, .ref (n 34), .ref (n 35), .int 0, .int 0, .int 0, .ref (n 39), .ref (n 40), .ref (n 41), .ref (n 42), .int 0, .int 0, .int 0])), (n 12, .inl (cI, 48, .inl (fun _ => 0)))]) [0, 1] rfl
  have hDc := hD.sub (ws' := [(q1, .inr (9, [.ref (n 0), .int 0, .ref (n 2), .ref (n 3), .ref (n 4), .ref (n 5), .ref (n 6), .int 0, .ref (n 8), .ref (n 9), .ref (n 10), .ref (n 11), .ref (n 12), .ref (n 13), .ref (n 14), .int 0, .int 0, .ref (n 17), .ref (n 18), .ref (n 19), .ref (n 20), .ref (n 21), .ref (n 22), .ref (n 23), .ref (n 24), .ref (n 25), .int 1, .int 0, .int 12, .int 0, .int 0, .int 0, .int 0, .int 1440, .ref (n 34), .ref (n 35), .int 0, .int 0, .int 0, .ref (n 39), .ref (n 40), .ref (n 41), .ref (n 42), .int 0, .int 0, .int 0])), (n 12, .inl (cI, 48, .inl (fun _ => 0)))]) [0, 1] (by decide) rfl
  have hFc := va_free (wc := [(q1, .inr (9, [.ref (n 0), .int 0, .ref (n 2), .ref (n 3), .ref (n 4), .ref (n 5), .ref (n 6), .int 0, .ref (n 8), .ref (n 9), .ref (n 10), .ref (n 11), .ref (n 12), .ref (n 13), .ref (n 14), .int 0, .int 0, .ref (n 17), .ref (n 18), .ref (n 19), .ref (n 20), .ref (n 21), .ref (n 22), .ref (n 23), .ref (n 24), .ref (n 25), .int 1, .int 0, .int 12, .int 0, .int 0, .int 0, .int 0, .int 1440, .ref (n 34), .ref (n 35), .int 0, .int 0, .int 0, .ref (n 39), .ref (n 40), .ref (n 41), .ref (n 42), .int 0, .int 0, .int 0])), (n 12, .inl (cI, 48, .inl (fun _ => 0)))]) hD hS hA [0, 1] rfl
  refine va_calli (va_runV (As := [.int (xs (1 : Int32).toNatClampNeg), .int (xs (2 : Int32).toNatClampNeg), .int (xs (3 : Int32).toNatClampNeg)]) (rest := [.int 0]) ⟨hx, hb, hml, hown, hts⟩ (k_X9_wear l D cI cJ cZ cM q1 n (xs (1 : Int32).toNatClampNeg) (xs (2 : Int32).toNatClampNeg) (xs (3 : Int32).toNatClampNeg) _) (cwV 3 hts gL_law_X9_wear rfl rfl rfl (by decide +kernel) ⟨Nat.le_of_ble_eq_true rfl, Nat.le_of_ble_eq_true rfl⟩) (rw_V hG hPc hDc (va_recv hK hPc (ci := 9) (q0 := 0) rfl rfl)) rfl rfl hl.1 rfl (lv_room (Nat.le_of_ble_eq_true rfl)) dL_law_535 ⟨Nat.le_of_ble_eq_true rfl, Nat.le_of_ble_eq_true rfl⟩) hS (fun q _ h => hFc q h) hFc (fun r_13 u_13 t_13 H1 locs ht hvm h_13 hB hz1 hk1 hS => ?_)
  obtain ⟨hP, hD⟩ := va_join (wr := []) (w1 := []) hP hD [0, 1] [] rfl rfl (by decide) (by decide) hk1 hFc (fun k q h => by simp at h) ⟨fun i j p q h => by simp at h, fun k q h => by simp at h⟩
  generalize H1 = H at hP hS ⊢
  have hP : va_P D vwCl [] H := hP
  have hD : va_D A [] := hD
  refine W.widen (k := 44) (n := 32807) (by decide) (by decide) ?_
  rcases h_13 with ⟨rfl, h_13⟩ | ⟨rfl, h_13⟩
  · exact absurd h_13 h_4
  refine lv_icmp_eq (tgt := 1068) hx hb dL_law_538 (by decide) (fun _ => ?_) (fun c_14 => False.elim (by revert c_14; decide))
  exact law_end C0 hG hA hA2 hS (by decide) (by decide) (lv_sub hl [3, 0] rfl)
set_option maxHeartbeats 4000000 in
set_option maxRecDepth 100000 in
/-- the call of chainOf, and the answers' likeness -/
theorem law_9 {p : Program} {l : Launch} {e : Env} {s : State} {m : MethodId} {below : List Frame} {meth : Method} {c : Code} {b : Nat} {xs : Nat → Int32} {D : va_G} {cI cJ cZ cM : Nat} {A : Nat → Prop} {q0 q1 : Nat} {a n : Nat → Nat} {fc : Nat → Int32} {H : Heap} {locs : List Loc} {ls : Array Slot} (C0 : lw_At p s m meth c b 7 xs) (hG : GK D cI cJ cZ cM s) (hA : ∀ q : Nat, s.heap.size ≤ q → A q) (hA2 : ∀ q : Nat, A q → s.heap.size ≤ q) (hP : va_P D vwCl [(q0, .inr (8, [.ref (a 1), .ref (a 2), .ref (a 3), .ref (a 4), .ref (a 5), .ref (a 6), .ref (a 7), .null, .int 0, .int 0, .int 0, .int 0])), (a 1, .inl (cI, 1600, .inl (fun _ => 0))), (a 2, .inl (cM, 10, .inr (.inr (.inr (.inr (fun _ => none)))))), (a 3, .inl (cI, 48, .inl (fun _ => 0))), (a 4, .inr (7, [.ref (a 8), .ref (a 9), .ref (a 10), .ref (a 11), .int 0])), (a 8, .inl (cI, 100, .inl (fun _ => 0))), (a 9, .inl (cI, 100, .inl (fun _ => 0))), (a 10, .inl (cI, 100, .inl (fun _ => 0))), (a 11, .inl (cI, 100, .inl (fun _ => 0))), (a 5, .inr (4, [.ref (a 12), .ref (a 13), .int 0, .int 0, .int 0, .int 1440, .int 1, .int 0, .int 12, .int 0])), (a 12, .inl (cI, 24, .inl (fun _ => 0))), (a 13, .inl (cI, 24, .inl (fun _ => 0))), (a 6, .inr (6, [.int 0, .int 0, .int 0, .int 0, .int 0, .int 0])), (a 7, .inr (3, [.ref (a 14), .int 0])), (a 14, .inl (cI, 8, .inl (fun _ => 0))), (q1, .inr (9, [.ref (n 0), .int 0, .ref (n 2), .ref (n 3), .ref (n 4), .ref (n 5), .ref (n 6), .int 0, .ref (n 8), .ref (n 9), .ref (n 10), .ref (n 11), .ref (n 12), .ref (n 13), .ref (n 14), .int 0, .int 0, .ref (n 17), .ref (n 18), .ref (n 19), .ref (n 20), .ref (n 21), .ref (n 22), .ref (n 23), .ref (n 24), .ref (n 25), .int 1, .int 0, .int 12, .int 0, .int 0, .int 0, .int 0, .int 1440, .ref (n 34), .ref (n 35), .int 0, .int 0, .int 0, .ref (n 39), .ref (n 40), .ref (n 41), .ref (n 42), .int 0, .int 0, .int 0])), (n 0, .inl (cI, 1600, .inl (fun _ => 0))), (n 2, .inl (cI, 10, .inl (fun _ => 0))), (n 3, .inl (cI, 10, .inl (fun _ => 0))), (n 4, .inl (cI, 10, .inl (fun _ => 0))), (n 5, .inl (cZ, 16000, .inl (fun _ => 0))), (n 6, .inl (cZ, 10, .inl (fun _ => 0))), (n 8, .inl (cI, 10, .inl fc)), (n 9, .inl (cI, 10, .inl (fun _ => 0))), (n 10, .inl (cI, 10, .inl (fun _ => 0))), (n 11, .inl (cI, 10, .inl (fun _ => 0))), (n 12, .inl (cI, 48, .inl (fun _ => 0))), (n 13, .inl (cI, 10, .inl (fun _ => 0))), (n 14, .inl (cI, 80, .inl (fun _ => 0))), (n 17, .inl (cI, 100, .inl (fun _ => 0))), (n 18, .inl (cI, 100, .inl (fun _ => 0))), (n 19, .inl (cI, 100, .inl (fun _ => 0))), (n 20, .inl (cI, 100, .inl (fun _ => 0))), (n 21, .inl (cI, 10, .inl (fun _ => 0))), (n 22, .inl (cI, 10, .inl (fun _ => 0))), (n 23, .inl (cI, 10, .inl (fun _ => 0))), (n 24, .inl (cI, 24, .inl (fun _ => 0))), (n 25, .inl (cI, 24, .inl (fun _ => 0))), (n 34, .inl (cI, 8, .inl (fun _ => 0))), (n 35, .inl (cI, 10240, .inl (fun _ => 0))), (n 39, .inl (cI, 10, .inl (fun _ => 0))), (n 40, .inl (cI, 10, .inl (fun _ => 0))), (n 41, .inl (cI, 1024, .inl (fun _ => 0))), (n 42, .inl (cI, 1024, .inl (fun _ => 0)))] H) (hD : va_D A [(q0, .inr (8, [.ref (a 1), .ref (a 2), .ref (a 3), .ref (a 4), .ref (a 5), .ref (a 6), .ref (a 7), .null, .int 0, .int 0, .int 0, .int 0])), (a 1, .inl (cI, 1600, .inl (fun _ => 0))), (a 2, .inl (cM, 10, .inr (.inr (.inr (.inr (fun _ => none)))))), (a 3, .inl (cI, 48, .inl (fun _ => 0))), (a 4, .inr (7, [.ref (a 8), .ref (a 9), .ref (a 10), .ref (a 11), .int 0])), (a 8, .inl (cI, 100, .inl (fun _ => 0))), (a 9, .inl (cI, 100, .inl (fun _ => 0))), (a 10, .inl (cI, 100, .inl (fun _ => 0))), (a 11, .inl (cI, 100, .inl (fun _ => 0))), (a 5, .inr (4, [.ref (a 12), .ref (a 13), .int 0, .int 0, .int 0, .int 1440, .int 1, .int 0, .int 12, .int 0])), (a 12, .inl (cI, 24, .inl (fun _ => 0))), (a 13, .inl (cI, 24, .inl (fun _ => 0))), (a 6, .inr (6, [.int 0, .int 0, .int 0, .int 0, .int 0, .int 0])), (a 7, .inr (3, [.ref (a 14), .int 0])), (a 14, .inl (cI, 8, .inl (fun _ => 0))), (q1, .inr (9, [.ref (n 0), .int 0, .ref (n 2), .ref (n 3), .ref (n 4), .ref (n 5), .ref (n 6), .int 0, .ref (n 8), .ref (n 9), .ref (n 10), .ref (n 11), .ref (n 12), .ref (n 13), .ref (n 14), .int 0, .int 0, .ref (n 17), .ref (n 18), .ref (n 19), .ref (n 20), .ref (n 21), .ref (n 22), .ref (n 23), .ref (n 24), .ref (n 25), .int 1, .int 0, .int 12, .int 0, .int 0, .int 0, .int 0, .int 1440, .ref (n 34), .ref (n 35), .int 0, .int 0, .int 0, .ref (n 39), .ref (n 40), .ref (n 41), .ref (n 42), .int 0, .int 0, .int 0])), (n 0, .inl (cI, 1600, .inl (fun _ => 0))), (n 2, .inl (cI, 10, .inl (fun _ => 0))), (n 3, .inl (cI, 10, .inl (fun _ => 0))), (n 4, .inl (cI, 10, .inl (fun _ => 0))), (n 5, .inl (cZ, 16000, .inl (fun _ => 0))), (n 6, .inl (cZ, 10, .inl (fun _ => 0))), (n 8, .inl (cI, 10, .inl fc)), (n 9, .inl (cI, 10, .inl (fun _ => 0))), (n 10, .inl (cI, 10, .inl (fun _ => 0))), (n 11, .inl (cI, 10, .inl (fun _ => 0))), (n 12, .inl (cI, 48, .inl (fun _ => 0))), (n 13, .inl (cI, 10, .inl (fun _ => 0))), (n 14, .inl (cI, 80, .inl (fun _ => 0))), (n 17, .inl (cI, 100, .inl (fun _ => 0))), (n 18, .inl (cI, 100, .inl (fun _ => 0))), (n 19, .inl (cI, 100, .inl (fun _ => 0))), (n 20, .inl (cI, 100, .inl (fun _ => 0))), (n 21, .inl (cI, 10, .inl (fun _ => 0))), (n 22, .inl (cI, 10, .inl (fun _ => 0))), (n 23, .inl (cI, 10, .inl (fun _ => 0))), (n 24, .inl (cI, 24, .inl (fun _ => 0))), (n 25, .inl (cI, 24, .inl (fun _ => 0))), (n 34, .inl (cI, 8, .inl (fun _ => 0))), (n 35, .inl (cI, 10240, .inl (fun _ => 0))), (n 39, .inl (cI, 10, .inl (fun _ => 0))), (n 40, .inl (cI, 10, .inl (fun _ => 0))), (n 41, .inl (cI, 1024, .inl (fun _ => 0))), (n 42, .inl (cI, 1024, .inl (fun _ => 0)))]) (hS : va_S A s.heap H locs) (hl : lv_has ls 4 [(3, .int 0), (2, .ref q1), (1, .ref q0), (0, .ref b)]) : W p l e room_1 s m #[Value.ref b] below meth c H locs 44 32807 (lw_Z below #[Value.ref b] s) (F0 m 543 ls []) := by
  obtain ⟨hx, hb, hr, hml, hown, hts0, hX, hbl, hlocks, hgv⟩ := id C0
  have hts := fun w h => hts0 w (wsL_law_in w h)
  have hbA : ¬ A b := fun h => Nat.not_le.mpr hbl (hA2 _ h)
  have hK := hG.1
  have hN := hG.2
  refine lv_aload_n hx hb dL_law_543 rfl (lv_at hl 2 rfl) ?_
  refine lv_aload_n hx hb dL_law_544 rfl (lv_at hl 3 rfl) ?_
  refine lv_iload_n hx hb dL_law_545 rfl (lv_at hl 0 rfl) ?_
  refine lv_iconst (v := 1) hx hb dL_law_546 (by decide) ?_
  refine lv_iadd hx hb dL_law_547 ?_
  refine lv_topi (fun z_1 ez_1 => ?_)
  obtain rfl : z_1 = 1 := ez_1.trans (by decide)
  refine va_sld hx hb hX hbl hbA hS (vp_in_nI (n := 1) (N := 7) (by decide) (by decide)) dL_law_548 ?_
  refine lv_aload_n hx hb dL_law_549 rfl (lv_at hl 3 rfl) ?_
  refine lv_iload_n hx hb dL_law_550 rfl (lv_at hl 0 rfl) ?_
  refine lv_iconst (v := 2) hx hb dL_law_551 (by decide) ?_
  refine lv_iadd hx hb dL_law_552 ?_
  refine lv_topi (fun z_2 ez_2 => ?_)
  obtain rfl : z_2 = 2 := ez_2.trans (by decide)
  refine va_sld hx hb hX hbl hbA hS (vp_in_nI (n := 2) (N := 7) (by decide) (by decide)) dL_law_553 ?_
  have hPc := hP.sub (ws' := [(q0, .inr (8, [.ref (a 1), .ref (a 2), .ref (a 3), .ref (a 4), .ref (a 5), .ref (a 6), .ref (a 7), .null, .int 0, .int 0, .int 0, .int 0])), (a 1, .inl (cI, 1600, .inl (fun _ => 0))), (a 2, .inl (cM, 10, .inr (.inr (.inr (.inr (fun _ => none)))))), (a 3, .inl (cI, 48, .inl (fun _ => 0))), (a 4, .inr (7, [.ref (a 8), .ref (a 9), .ref (a 10), .ref (a 11), .int 0])), (a 8, .inl (cI, 100, .inl (fun _ => 0))), (a 9, .inl (cI, 100, .inl (fun _ => 0))), (a 10, .inl (cI, 100, .inl (fun _ => 0))), (a 11, .inl (cI, 100, .inl (fun _ => 0))), (a 5, .inr (4, [.ref (a 12), .ref (a 13), .int 0, .int 0, .int 0, .int 1440, .int 1, .int 0, .int 12, .int 0])), (a 12, .inl (cI, 24, .inl (fun _ => 0))), (a 13, .inl (cI, 24, .inl (fun _ => 0))), (a 6, .inr (6, [.int 0, .int 0, .int 0, .int 0, .int 0, .int 0])), (a 7, .inr (3, [.ref (a 14), .int 0])), (a 14, .inl (cI, 8, .inl (fun _ => 0)))]) [0, 1, 2, 3, 4, 5, 6, 7, 8, 9, 10, 11, 12, 13, 14] rfl
  refine vp_callSi (va_Run.run (va_runV (As := [.int (xs (1 : Int32).toNatClampNeg), .int (xs (2 : Int32).toNatClampNeg)]) (rest := []) ⟨hx, hb, hml, hown, hts⟩ (k_X8_chainOf l D cI cJ cZ cM q0 a (xs (1 : Int32).toNatClampNeg) (xs (2 : Int32).toNatClampNeg)) (cwV 2 hts gL_law_X8_chainOf rfl rfl rfl (by decide +kernel) ⟨Nat.le_of_ble_eq_true rfl, Nat.le_of_ble_eq_true rfl⟩) (ro_V hG hPc (va_recv hK hPc (ci := 8) (q0 := 0) rfl rfl)) rfl rfl hl.1 rfl (lv_room (Nat.le_of_ble_eq_true rfl)) dL_law_554 ⟨Nat.le_of_ble_eq_true rfl, Nat.le_of_ble_eq_true rfl⟩)) (fun r_3 h_3 => ?_)
  obtain rfl : r_3 = (-1) := h_3
  refine lv_aload_n hx hb dL_law_557 rfl (lv_at hl 1 rfl) ?_
  refine lv_aload_n hx hb dL_law_558 rfl (lv_at hl 3 rfl) ?_
  refine lv_iload_n hx hb dL_law_559 rfl (lv_at hl 0 rfl) ?_
  refine lv_iconst (v := 1) hx hb dL_law_560 (by decide) ?_
  refine lv_iadd hx hb dL_law_561 ?_
  refine lv_topi (fun z_4 ez_4 => ?_)
  obtain rfl : z_4 = 1 := ez_4.trans (by decide)
  refine va_sld hx hb hX hbl hbA hS (vp_in_nI (n := 1) (N := 7) (by decide) (by decide)) dL_law_562 ?_
  refine lv_aload_n hx hb dL_law_563 rfl (lv_at hl 3 rfl) ?_
  refine lv_iload_n hx hb dL_law_564 rfl (lv_at hl 0 rfl) ?_
  refine lv_iconst (v := 2) hx hb dL_law_565 (by decide) ?_
  refine lv_iadd hx hb dL_law_566 ?_
  refine lv_topi (fun z_5 ez_5 => ?_)
  obtain rfl : z_5 = 2 := ez_5.trans (by decide)
  refine va_sld hx hb hX hbl hbA hS (vp_in_nI (n := 2) (N := 7) (by decide) (by decide)) dL_law_567 ?_
  have hPc := hP.sub (ws' := [(q1, .inr (9, [.ref (n 0), .int 0, .ref (n 2), .ref (n 3), .ref (n 4), .ref (n 5), .ref (n 6), .int 0, .ref (n 8), .ref (n 9), .ref (n 10), .ref (n 11), .ref (n 12), .ref (n 13), .ref (n 14), .int 0, .int 0, .ref (n 17), .ref (n 18), .ref (n 19), .ref (n 20), .ref (n 21), .ref (n 22), .ref (n 23), .ref (n 24), .ref (n 25), .int 1, .int 0, .int 12, .int 0, .int 0, .int 0, .int 0, .int 1440, .ref (n 34), .ref (n 35), .int 0, .int 0, .int 0, .ref (n 39), .ref (n 40), .ref (n 41), .ref (n 42), .int 0, .int 0, .int 0]))]) [15] rfl
  refine vp_callSi (va_Run.run (va_runV (As := [.int (xs (1 : Int32).toNatClampNeg), .int (xs (2 : Int32).toNatClampNeg)]) (rest := [.int (-1)]) ⟨hx, hb, hml, hown, hts⟩ (k_X9_chainOf l D cI cJ cZ cM q1 n (xs (1 : Int32).toNatClampNeg) (xs (2 : Int32).toNatClampNeg)) (cwV 2 hts gL_law_X9_chainOf rfl rfl rfl (by decide +kernel) ⟨Nat.le_of_ble_eq_true rfl, Nat.le_of_ble_eq_true rfl⟩) (ro_V hG hPc (va_recv hK hPc (ci := 9) (q0 := 0) rfl rfl)) rfl rfl hl.1 rfl (lv_room (Nat.le_of_ble_eq_true rfl)) dL_law_568 ⟨Nat.le_of_ble_eq_true rfl, Nat.le_of_ble_eq_true rfl⟩)) (fun r_6 h_6 => ?_)
  obtain rfl : r_6 = (-1) := h_6
  refine lv_icmp_eq (tgt := 1068) hx hb dL_law_571 (by decide) (fun _ => ?_) (fun c_7 => False.elim (by revert c_7; decide))
  exact law_end C0 hG hA hA2 hS (by decide) (by decide) (lv_sub hl [3, 0] rfl)
set_option maxHeartbeats 4000000 in
set_option maxRecDepth 100000 in
/-- the call of light, and the answers' likeness -/
theorem law_10 {p : Program} {l : Launch} {e : Env} {s : State} {m : MethodId} {below : List Frame} {meth : Method} {c : Code} {b : Nat} {xs : Nat → Int32} {D : va_G} {cI cJ cZ cM : Nat} {A : Nat → Prop} {q0 q1 : Nat} {a n : Nat → Nat} {fc : Nat → Int32} {H : Heap} {locs : List Loc} {ls : Array Slot} (C0 : lw_At p s m meth c b 7 xs) (hG : GK D cI cJ cZ cM s) (hA : ∀ q : Nat, s.heap.size ≤ q → A q) (hA2 : ∀ q : Nat, A q → s.heap.size ≤ q) (hP : va_P D vwCl [(q0, .inr (8, [.ref (a 1), .ref (a 2), .ref (a 3), .ref (a 4), .ref (a 5), .ref (a 6), .ref (a 7), .null, .int 0, .int 0, .int 0, .int 0])), (a 1, .inl (cI, 1600, .inl (fun _ => 0))), (a 2, .inl (cM, 10, .inr (.inr (.inr (.inr (fun _ => none)))))), (a 3, .inl (cI, 48, .inl (fun _ => 0))), (a 4, .inr (7, [.ref (a 8), .ref (a 9), .ref (a 10), .ref (a 11), .int 0])), (a 8, .inl (cI, 100, .inl (fun _ => 0))), (a 9, .inl (cI, 100, .inl (fun _ => 0))), (a 10, .inl (cI, 100, .inl (fun _ => 0))), (a 11, .inl (cI, 100, .inl (fun _ => 0))), (a 5, .inr (4, [.ref (a 12), .ref (a 13), .int 0, .int 0, .int 0, .int 1440, .int 1, .int 0, .int 12, .int 0])), (a 12, .inl (cI, 24, .inl (fun _ => 0))), (a 13, .inl (cI, 24, .inl (fun _ => 0))), (a 6, .inr (6, [.int 0, .int 0, .int 0, .int 0, .int 0, .int 0])), (a 7, .inr (3, [.ref (a 14), .int 0])), (a 14, .inl (cI, 8, .inl (fun _ => 0))), (q1, .inr (9, [.ref (n 0), .int 0, .ref (n 2), .ref (n 3), .ref (n 4), .ref (n 5), .ref (n 6), .int 0, .ref (n 8), .ref (n 9), .ref (n 10), .ref (n 11), .ref (n 12), .ref (n 13), .ref (n 14), .int 0, .int 0, .ref (n 17), .ref (n 18), .ref (n 19), .ref (n 20), .ref (n 21), .ref (n 22), .ref (n 23), .ref (n 24), .ref (n 25), .int 1, .int 0, .int 12, .int 0, .int 0, .int 0, .int 0, .int 1440, .ref (n 34), .ref (n 35), .int 0, .int 0, .int 0, .ref (n 39), .ref (n 40), .ref (n 41), .ref (n 42), .int 0, .int 0, .int 0])), (n 0, .inl (cI, 1600, .inl (fun _ => 0))), (n 2, .inl (cI, 10, .inl (fun _ => 0))), (n 3, .inl (cI, 10, .inl (fun _ => 0))), (n 4, .inl (cI, 10, .inl (fun _ => 0))), (n 5, .inl (cZ, 16000, .inl (fun _ => 0))), (n 6, .inl (cZ, 10, .inl (fun _ => 0))), (n 8, .inl (cI, 10, .inl fc)), (n 9, .inl (cI, 10, .inl (fun _ => 0))), (n 10, .inl (cI, 10, .inl (fun _ => 0))), (n 11, .inl (cI, 10, .inl (fun _ => 0))), (n 12, .inl (cI, 48, .inl (fun _ => 0))), (n 13, .inl (cI, 10, .inl (fun _ => 0))), (n 14, .inl (cI, 80, .inl (fun _ => 0))), (n 17, .inl (cI, 100, .inl (fun _ => 0))), (n 18, .inl (cI, 100, .inl (fun _ => 0))), (n 19, .inl (cI, 100, .inl (fun _ => 0))), (n 20, .inl (cI, 100, .inl (fun _ => 0))), (n 21, .inl (cI, 10, .inl (fun _ => 0))), (n 22, .inl (cI, 10, .inl (fun _ => 0))), (n 23, .inl (cI, 10, .inl (fun _ => 0))), (n 24, .inl (cI, 24, .inl (fun _ => 0))), (n 25, .inl (cI, 24, .inl (fun _ => 0))), (n 34, .inl (cI, 8, .inl (fun _ => 0))), (n 35, .inl (cI, 10240, .inl (fun _ => 0))), (n 39, .inl (cI, 10, .inl (fun _ => 0))), (n 40, .inl (cI, 10, .inl (fun _ => 0))), (n 41, .inl (cI, 1024, .inl (fun _ => 0))), (n 42, .inl (cI, 1024, .inl (fun _ => 0)))] H) (hD : va_D A [(q0, .inr (8, [.ref (a 1), .ref (a 2), .ref (a 3), .ref (a 4), .ref (a 5), .ref (a 6), .ref (a 7), .null, .int 0, .int 0, .int 0, .int 0])), (a 1, .inl (cI, 1600, .inl (fun _ => 0))), (a 2, .inl (cM, 10, .inr (.inr (.inr (.inr (fun _ => none)))))), (a 3, .inl (cI, 48, .inl (fun _ => 0))), (a 4, .inr (7, [.ref (a 8), .ref (a 9), .ref (a 10), .ref (a 11), .int 0])), (a 8, .inl (cI, 100, .inl (fun _ => 0))), (a 9, .inl (cI, 100, .inl (fun _ => 0))), (a 10, .inl (cI, 100, .inl (fun _ => 0))), (a 11, .inl (cI, 100, .inl (fun _ => 0))), (a 5, .inr (4, [.ref (a 12), .ref (a 13), .int 0, .int 0, .int 0, .int 1440, .int 1, .int 0, .int 12, .int 0])), (a 12, .inl (cI, 24, .inl (fun _ => 0))), (a 13, .inl (cI, 24, .inl (fun _ => 0))), (a 6, .inr (6, [.int 0, .int 0, .int 0, .int 0, .int 0, .int 0])), (a 7, .inr (3, [.ref (a 14), .int 0])), (a 14, .inl (cI, 8, .inl (fun _ => 0))), (q1, .inr (9, [.ref (n 0), .int 0, .ref (n 2), .ref (n 3), .ref (n 4), .ref (n 5), .ref (n 6), .int 0, .ref (n 8), .ref (n 9), .ref (n 10), .ref (n 11), .ref (n 12), .ref (n 13), .ref (n 14), .int 0, .int 0, .ref (n 17), .ref (n 18), .ref (n 19), .ref (n 20), .ref (n 21), .ref (n 22), .ref (n 23), .ref (n 24), .ref (n 25), .int 1, .int 0, .int 12, .int 0, .int 0, .int 0, .int 0, .int 1440, .ref (n 34), .ref (n 35), .int 0, .int 0, .int 0, .ref (n 39), .ref (n 40), .ref (n 41), .ref (n 42), .int 0, .int 0, .int 0])), (n 0, .inl (cI, 1600, .inl (fun _ => 0))), (n 2, .inl (cI, 10, .inl (fun _ => 0))), (n 3, .inl (cI, 10, .inl (fun _ => 0))), (n 4, .inl (cI, 10, .inl (fun _ => 0))), (n 5, .inl (cZ, 16000, .inl (fun _ => 0))), (n 6, .inl (cZ, 10, .inl (fun _ => 0))), (n 8, .inl (cI, 10, .inl fc)), (n 9, .inl (cI, 10, .inl (fun _ => 0))), (n 10, .inl (cI, 10, .inl (fun _ => 0))), (n 11, .inl (cI, 10, .inl (fun _ => 0))), (n 12, .inl (cI, 48, .inl (fun _ => 0))), (n 13, .inl (cI, 10, .inl (fun _ => 0))), (n 14, .inl (cI, 80, .inl (fun _ => 0))), (n 17, .inl (cI, 100, .inl (fun _ => 0))), (n 18, .inl (cI, 100, .inl (fun _ => 0))), (n 19, .inl (cI, 100, .inl (fun _ => 0))), (n 20, .inl (cI, 100, .inl (fun _ => 0))), (n 21, .inl (cI, 10, .inl (fun _ => 0))), (n 22, .inl (cI, 10, .inl (fun _ => 0))), (n 23, .inl (cI, 10, .inl (fun _ => 0))), (n 24, .inl (cI, 24, .inl (fun _ => 0))), (n 25, .inl (cI, 24, .inl (fun _ => 0))), (n 34, .inl (cI, 8, .inl (fun _ => 0))), (n 35, .inl (cI, 10240, .inl (fun _ => 0))), (n 39, .inl (cI, 10, .inl (fun _ => 0))), (n 40, .inl (cI, 10, .inl (fun _ => 0))), (n 41, .inl (cI, 1024, .inl (fun _ => 0))), (n 42, .inl (cI, 1024, .inl (fun _ => 0)))]) (hS : va_S A s.heap H locs) (hl : lv_has ls 4 [(3, .int 0), (2, .ref q1), (1, .ref q0), (0, .ref b)]) : W p l e room_1 s m #[Value.ref b] below meth c H locs 44 32807 (lw_Z below #[Value.ref b] s) (F0 m 576 ls []) := by
  obtain ⟨hx, hb, hr, hml, hown, hts0, hX, hbl, hlocks, hgv⟩ := id C0
  have hts := fun w h => hts0 w (wsL_law_in w h)
  have hbA : ¬ A b := fun h => Nat.not_le.mpr hbl (hA2 _ h)
  have hK := hG.1
  have hN := hG.2
  refine lv_aload_n hx hb dL_law_576 rfl (lv_at hl 2 rfl) ?_
  refine lv_aload_n hx hb dL_law_577 rfl (lv_at hl 3 rfl) ?_
  refine lv_iload_n hx hb dL_law_578 rfl (lv_at hl 0 rfl) ?_
  refine lv_iconst (v := 1) hx hb dL_law_579 (by decide) ?_
  refine lv_iadd hx hb dL_law_580 ?_
  refine lv_topi (fun z_1 ez_1 => ?_)
  obtain rfl : z_1 = 1 := ez_1.trans (by decide)
  refine va_sld hx hb hX hbl hbA hS (vp_in_nI (n := 1) (N := 7) (by decide) (by decide)) dL_law_581 ?_
  refine lv_aload_n hx hb dL_law_582 rfl (lv_at hl 3 rfl) ?_
  refine lv_iload_n hx hb dL_law_583 rfl (lv_at hl 0 rfl) ?_
  refine lv_iconst (v := 2) hx hb dL_law_584 (by decide) ?_
  refine lv_iadd hx hb dL_law_585 ?_
  refine lv_topi (fun z_2 ez_2 => ?_)
  obtain rfl : z_2 = 2 := ez_2.trans (by decide)
  refine va_sld hx hb hX hbl hbA hS (vp_in_nI (n := 2) (N := 7) (by decide) (by decide)) dL_law_586 ?_
  refine lv_aload_n hx hb dL_law_587 rfl (lv_at hl 3 rfl) ?_
  refine lv_iload_n hx hb dL_law_588 rfl (lv_at hl 0 rfl) ?_
  refine lv_iconst (v := 3) hx hb dL_law_589 (by decide) ?_
  refine lv_iadd hx hb dL_law_590 ?_
  refine lv_topi (fun z_3 ez_3 => ?_)
  obtain rfl : z_3 = 3 := ez_3.trans (by decide)
  refine va_sld hx hb hX hbl hbA hS (vp_in_nI (n := 3) (N := 7) (by decide) (by decide)) dL_law_591 ?_
  have hPc := hP.sub (ws' := [(q0, .inr (8, [.ref (a 1), .ref (a 2), .ref (a 3), .ref (a 4), .ref (a 5), .ref (a 6), .ref (a 7), .null, .int 0, .int 0, .int 0, .int 0])), (a 1, .inl (cI, 1600, .inl (fun _ => 0))), (a 2, .inl (cM, 10, .inr (.inr (.inr (.inr (fun _ => none)))))), (a 3, .inl (cI, 48, .inl (fun _ => 0))), (a 4, .inr (7, [.ref (a 8), .ref (a 9), .ref (a 10), .ref (a 11), .int 0])), (a 8, .inl (cI, 100, .inl (fun _ => 0))), (a 9, .inl (cI, 100, .inl (fun _ => 0))), (a 10, .inl (cI, 100, .inl (fun _ => 0))), (a 11, .inl (cI, 100, .inl (fun _ => 0))), (a 5, .inr (4, [.ref (a 12), .ref (a 13), .int 0, .int 0, .int 0, .int 1440, .int 1, .int 0, .int 12, .int 0])), (a 12, .inl (cI, 24, .inl (fun _ => 0))), (a 13, .inl (cI, 24, .inl (fun _ => 0))), (a 6, .inr (6, [.int 0, .int 0, .int 0, .int 0, .int 0, .int 0])), (a 7, .inr (3, [.ref (a 14), .int 0])), (a 14, .inl (cI, 8, .inl (fun _ => 0)))]) [0, 1, 2, 3, 4, 5, 6, 7, 8, 9, 10, 11, 12, 13, 14] rfl
  refine vp_callSi (va_Run.run (va_runV (As := [.int (xs (1 : Int32).toNatClampNeg), .int (xs (2 : Int32).toNatClampNeg), .int (xs (3 : Int32).toNatClampNeg)]) (rest := []) ⟨hx, hb, hml, hown, hts⟩ (k_X8_light l D cI cJ cZ cM q0 a (xs (1 : Int32).toNatClampNeg) (xs (2 : Int32).toNatClampNeg) (xs (3 : Int32).toNatClampNeg)) (cwV 3 hts gL_law_X8_light rfl rfl rfl (by decide +kernel) ⟨Nat.le_of_ble_eq_true rfl, Nat.le_of_ble_eq_true rfl⟩) (ro_V hG hPc (va_recv hK hPc (ci := 8) (q0 := 0) rfl rfl)) rfl rfl hl.1 rfl (lv_room (Nat.le_of_ble_eq_true rfl)) dL_law_592 ⟨Nat.le_of_ble_eq_true rfl, Nat.le_of_ble_eq_true rfl⟩)) (fun r_4 h_4 => ?_)
  obtain rfl : r_4 = 0 := h_4
  refine lv_aload_n hx hb dL_law_595 rfl (lv_at hl 1 rfl) ?_
  refine lv_aload_n hx hb dL_law_596 rfl (lv_at hl 3 rfl) ?_
  refine lv_iload_n hx hb dL_law_597 rfl (lv_at hl 0 rfl) ?_
  refine lv_iconst (v := 1) hx hb dL_law_598 (by decide) ?_
  refine lv_iadd hx hb dL_law_599 ?_
  refine lv_topi (fun z_5 ez_5 => ?_)
  obtain rfl : z_5 = 1 := ez_5.trans (by decide)
  refine va_sld hx hb hX hbl hbA hS (vp_in_nI (n := 1) (N := 7) (by decide) (by decide)) dL_law_600 ?_
  refine lv_aload_n hx hb dL_law_601 rfl (lv_at hl 3 rfl) ?_
  refine lv_iload_n hx hb dL_law_602 rfl (lv_at hl 0 rfl) ?_
  refine lv_iconst (v := 2) hx hb dL_law_603 (by decide) ?_
  refine lv_iadd hx hb dL_law_604 ?_
  refine lv_topi (fun z_6 ez_6 => ?_)
  obtain rfl : z_6 = 2 := ez_6.trans (by decide)
  refine va_sld hx hb hX hbl hbA hS (vp_in_nI (n := 2) (N := 7) (by decide) (by decide)) dL_law_605 ?_
  refine lv_aload_n hx hb dL_law_606 rfl (lv_at hl 3 rfl) ?_
  refine lv_iload_n hx hb dL_law_607 rfl (lv_at hl 0 rfl) ?_
  refine lv_iconst (v := 3) hx hb dL_law_608 (by decide) ?_
  refine lv_iadd hx hb dL_law_609 ?_
  refine lv_topi (fun z_7 ez_7 => ?_)
  obtain rfl : z_7 = 3 := ez_7.trans (by decide)
  refine va_sld hx hb hX hbl hbA hS (vp_in_nI (n := 3) (N := 7) (by decide) (by decide)) dL_law_610 ?_
  have hPc := hP.sub (ws' := [(q1, .inr (9, [.ref (n 0), .int 0, .ref (n 2), .ref (n 3), .ref (n 4), .ref (n 5), .ref (n 6), .int 0, .ref (n 8), .ref (n 9), .ref (n 10), .ref (n 11), .ref (n 12), .ref (n 13), .ref (n 14), .int 0, .int 0, .ref (n 17), .ref (n 18), .ref (n 19), .ref (n 20), .ref (n 21), .ref (n 22), .ref (n 23), .ref (n 24), .ref (n 25), .int 1, .int 0, .int 12, .int 0, .int 0, .int 0, .int 0, .int 1440, .ref (n 34), .ref (n 35), .int 0, .int 0, .int 0, .ref (n 39), .ref (n 40), .ref (n 41), .ref (n 42), .int 0, .int 0, .int 0]))]) [15] rfl
  refine vp_callSi (va_Run.run (va_runV (As := [.int (xs (1 : Int32).toNatClampNeg), .int (xs (2 : Int32).toNatClampNeg), .int (xs (3 : Int32).toNatClampNeg)]) (rest := [.int 0]) ⟨hx, hb, hml, hown, hts⟩ (k_X9_light l D cI cJ cZ cM q1 n (xs (1 : Int32).toNatClampNeg) (xs (2 : Int32).toNatClampNeg) (xs (3 : Int32).toNatClampNeg)) (cwV 3 hts gL_law_X9_light rfl rfl rfl (by decide +kernel) ⟨Nat.le_of_ble_eq_true rfl, Nat.le_of_ble_eq_true rfl⟩) (ro_V hG hPc (va_recv hK hPc (ci := 9) (q0 := 0) rfl rfl)) rfl rfl hl.1 rfl (lv_room (Nat.le_of_ble_eq_true rfl)) dL_law_611 ⟨Nat.le_of_ble_eq_true rfl, Nat.le_of_ble_eq_true rfl⟩)) (fun r_8 h_8 => ?_)
  obtain rfl : r_8 = 0 := h_8
  refine lv_icmp_eq (tgt := 1068) hx hb dL_law_614 (by decide) (fun _ => ?_) (fun c_9 => False.elim (by revert c_9; decide))
  exact law_end C0 hG hA hA2 hS (by decide) (by decide) (lv_sub hl [3, 0] rfl)
set_option maxHeartbeats 4000000 in
set_option maxRecDepth 100000 in
/-- the call of near, and the answers' likeness -/
theorem law_11 {p : Program} {l : Launch} {e : Env} {s : State} {m : MethodId} {below : List Frame} {meth : Method} {c : Code} {b : Nat} {xs : Nat → Int32} {D : va_G} {cI cJ cZ cM : Nat} {A : Nat → Prop} {q0 q1 : Nat} {a n : Nat → Nat} {fc : Nat → Int32} {H : Heap} {locs : List Loc} {ls : Array Slot} (C0 : lw_At p s m meth c b 7 xs) (hG : GK D cI cJ cZ cM s) (hA : ∀ q : Nat, s.heap.size ≤ q → A q) (hA2 : ∀ q : Nat, A q → s.heap.size ≤ q) (hP : va_P D vwCl [(q0, .inr (8, [.ref (a 1), .ref (a 2), .ref (a 3), .ref (a 4), .ref (a 5), .ref (a 6), .ref (a 7), .null, .int 0, .int 0, .int 0, .int 0])), (a 1, .inl (cI, 1600, .inl (fun _ => 0))), (a 2, .inl (cM, 10, .inr (.inr (.inr (.inr (fun _ => none)))))), (a 3, .inl (cI, 48, .inl (fun _ => 0))), (a 4, .inr (7, [.ref (a 8), .ref (a 9), .ref (a 10), .ref (a 11), .int 0])), (a 8, .inl (cI, 100, .inl (fun _ => 0))), (a 9, .inl (cI, 100, .inl (fun _ => 0))), (a 10, .inl (cI, 100, .inl (fun _ => 0))), (a 11, .inl (cI, 100, .inl (fun _ => 0))), (a 5, .inr (4, [.ref (a 12), .ref (a 13), .int 0, .int 0, .int 0, .int 1440, .int 1, .int 0, .int 12, .int 0])), (a 12, .inl (cI, 24, .inl (fun _ => 0))), (a 13, .inl (cI, 24, .inl (fun _ => 0))), (a 6, .inr (6, [.int 0, .int 0, .int 0, .int 0, .int 0, .int 0])), (a 7, .inr (3, [.ref (a 14), .int 0])), (a 14, .inl (cI, 8, .inl (fun _ => 0))), (q1, .inr (9, [.ref (n 0), .int 0, .ref (n 2), .ref (n 3), .ref (n 4), .ref (n 5), .ref (n 6), .int 0, .ref (n 8), .ref (n 9), .ref (n 10), .ref (n 11), .ref (n 12), .ref (n 13), .ref (n 14), .int 0, .int 0, .ref (n 17), .ref (n 18), .ref (n 19), .ref (n 20), .ref (n 21), .ref (n 22), .ref (n 23), .ref (n 24), .ref (n 25), .int 1, .int 0, .int 12, .int 0, .int 0, .int 0, .int 0, .int 1440, .ref (n 34), .ref (n 35), .int 0, .int 0, .int 0, .ref (n 39), .ref (n 40), .ref (n 41), .ref (n 42), .int 0, .int 0, .int 0])), (n 0, .inl (cI, 1600, .inl (fun _ => 0))), (n 2, .inl (cI, 10, .inl (fun _ => 0))), (n 3, .inl (cI, 10, .inl (fun _ => 0))), (n 4, .inl (cI, 10, .inl (fun _ => 0))), (n 5, .inl (cZ, 16000, .inl (fun _ => 0))), (n 6, .inl (cZ, 10, .inl (fun _ => 0))), (n 8, .inl (cI, 10, .inl fc)), (n 9, .inl (cI, 10, .inl (fun _ => 0))), (n 10, .inl (cI, 10, .inl (fun _ => 0))), (n 11, .inl (cI, 10, .inl (fun _ => 0))), (n 12, .inl (cI, 48, .inl (fun _ => 0))), (n 13, .inl (cI, 10, .inl (fun _ => 0))), (n 14, .inl (cI, 80, .inl (fun _ => 0))), (n 17, .inl (cI, 100, .inl (fun _ => 0))), (n 18, .inl (cI, 100, .inl (fun _ => 0))), (n 19, .inl (cI, 100, .inl (fun _ => 0))), (n 20, .inl (cI, 100, .inl (fun _ => 0))), (n 21, .inl (cI, 10, .inl (fun _ => 0))), (n 22, .inl (cI, 10, .inl (fun _ => 0))), (n 23, .inl (cI, 10, .inl (fun _ => 0))), (n 24, .inl (cI, 24, .inl (fun _ => 0))), (n 25, .inl (cI, 24, .inl (fun _ => 0))), (n 34, .inl (cI, 8, .inl (fun _ => 0))), (n 35, .inl (cI, 10240, .inl (fun _ => 0))), (n 39, .inl (cI, 10, .inl (fun _ => 0))), (n 40, .inl (cI, 10, .inl (fun _ => 0))), (n 41, .inl (cI, 1024, .inl (fun _ => 0))), (n 42, .inl (cI, 1024, .inl (fun _ => 0)))] H) (hD : va_D A [(q0, .inr (8, [.ref (a 1), .ref (a 2), .ref (a 3), .ref (a 4), .ref (a 5), .ref (a 6), .ref (a 7), .null, .int 0, .int 0, .int 0, .int 0])), (a 1, .inl (cI, 1600, .inl (fun _ => 0))), (a 2, .inl (cM, 10, .inr (.inr (.inr (.inr (fun _ => none)))))), (a 3, .inl (cI, 48, .inl (fun _ => 0))), (a 4, .inr (7, [.ref (a 8), .ref (a 9), .ref (a 10), .ref (a 11), .int 0])), (a 8, .inl (cI, 100, .inl (fun _ => 0))), (a 9, .inl (cI, 100, .inl (fun _ => 0))), (a 10, .inl (cI, 100, .inl (fun _ => 0))), (a 11, .inl (cI, 100, .inl (fun _ => 0))), (a 5, .inr (4, [.ref (a 12), .ref (a 13), .int 0, .int 0, .int 0, .int 1440, .int 1, .int 0, .int 12, .int 0])), (a 12, .inl (cI, 24, .inl (fun _ => 0))), (a 13, .inl (cI, 24, .inl (fun _ => 0))), (a 6, .inr (6, [.int 0, .int 0, .int 0, .int 0, .int 0, .int 0])), (a 7, .inr (3, [.ref (a 14), .int 0])), (a 14, .inl (cI, 8, .inl (fun _ => 0))), (q1, .inr (9, [.ref (n 0), .int 0, .ref (n 2), .ref (n 3), .ref (n 4), .ref (n 5), .ref (n 6), .int 0, .ref (n 8), .ref (n 9), .ref (n 10), .ref (n 11), .ref (n 12), .ref (n 13), .ref (n 14), .int 0, .int 0, .ref (n 17), .ref (n 18), .ref (n 19), .ref (n 20), .ref (n 21), .ref (n 22), .ref (n 23), .ref (n 24), .ref (n 25), .int 1, .int 0, .int 12, .int 0, .int 0, .int 0, .int 0, .int 1440, .ref (n 34), .ref (n 35), .int 0, .int 0, .int 0, .ref (n 39), .ref (n 40), .ref (n 41), .ref (n 42), .int 0, .int 0, .int 0])), (n 0, .inl (cI, 1600, .inl (fun _ => 0))), (n 2, .inl (cI, 10, .inl (fun _ => 0))), (n 3, .inl (cI, 10, .inl (fun _ => 0))), (n 4, .inl (cI, 10, .inl (fun _ => 0))), (n 5, .inl (cZ, 16000, .inl (fun _ => 0))), (n 6, .inl (cZ, 10, .inl (fun _ => 0))), (n 8, .inl (cI, 10, .inl fc)), (n 9, .inl (cI, 10, .inl (fun _ => 0))), (n 10, .inl (cI, 10, .inl (fun _ => 0))), (n 11, .inl (cI, 10, .inl (fun _ => 0))), (n 12, .inl (cI, 48, .inl (fun _ => 0))), (n 13, .inl (cI, 10, .inl (fun _ => 0))), (n 14, .inl (cI, 80, .inl (fun _ => 0))), (n 17, .inl (cI, 100, .inl (fun _ => 0))), (n 18, .inl (cI, 100, .inl (fun _ => 0))), (n 19, .inl (cI, 100, .inl (fun _ => 0))), (n 20, .inl (cI, 100, .inl (fun _ => 0))), (n 21, .inl (cI, 10, .inl (fun _ => 0))), (n 22, .inl (cI, 10, .inl (fun _ => 0))), (n 23, .inl (cI, 10, .inl (fun _ => 0))), (n 24, .inl (cI, 24, .inl (fun _ => 0))), (n 25, .inl (cI, 24, .inl (fun _ => 0))), (n 34, .inl (cI, 8, .inl (fun _ => 0))), (n 35, .inl (cI, 10240, .inl (fun _ => 0))), (n 39, .inl (cI, 10, .inl (fun _ => 0))), (n 40, .inl (cI, 10, .inl (fun _ => 0))), (n 41, .inl (cI, 1024, .inl (fun _ => 0))), (n 42, .inl (cI, 1024, .inl (fun _ => 0)))]) (hS : va_S A s.heap H locs) (hl : lv_has ls 4 [(3, .int 0), (2, .ref q1), (1, .ref q0), (0, .ref b)]) : W p l e room_1 s m #[Value.ref b] below meth c H locs 44 32807 (lw_Z below #[Value.ref b] s) (F0 m 619 ls []) := by
  obtain ⟨hx, hb, hr, hml, hown, hts0, hX, hbl, hlocks, hgv⟩ := id C0
  have hts := fun w h => hts0 w (wsL_law_in w h)
  have hbA : ¬ A b := fun h => Nat.not_le.mpr hbl (hA2 _ h)
  have hK := hG.1
  have hN := hG.2
  refine lv_aload_n hx hb dL_law_619 rfl (lv_at hl 2 rfl) ?_
  refine lv_aload_n hx hb dL_law_620 rfl (lv_at hl 3 rfl) ?_
  refine lv_iload_n hx hb dL_law_621 rfl (lv_at hl 0 rfl) ?_
  refine lv_iconst (v := 1) hx hb dL_law_622 (by decide) ?_
  refine lv_iadd hx hb dL_law_623 ?_
  refine lv_topi (fun z_1 ez_1 => ?_)
  obtain rfl : z_1 = 1 := ez_1.trans (by decide)
  refine va_sld hx hb hX hbl hbA hS (vp_in_nI (n := 1) (N := 7) (by decide) (by decide)) dL_law_624 ?_
  have hPc := hP.sub (ws' := [(q0, .inr (8, [.ref (a 1), .ref (a 2), .ref (a 3), .ref (a 4), .ref (a 5), .ref (a 6), .ref (a 7), .null, .int 0, .int 0, .int 0, .int 0]))]) [0] rfl
  have hDc := hD.sub (ws' := [(q0, .inr (8, [.ref (a 1), .ref (a 2), .ref (a 3), .ref (a 4), .ref (a 5), .ref (a 6), .ref (a 7), .null, .int 0, .int 0, .int 0, .int 0]))]) [0] (by decide) rfl
  have hFc := va_free (wc := [(q0, .inr (8, [.ref (a 1), .ref (a 2), .ref (a 3), .ref (a 4), .ref (a 5), .ref (a 6), .ref (a 7), .null, .int 0, .int 0, .int 0, .int 0]))]) hD hS hA [0] rfl
  refine va_calli (va_runV (As := [.int (xs (1 : Int32).toNatClampNeg)]) (rest := []) ⟨hx, hb, hml, hown, hts⟩ (k_X8_near l D cI cJ cZ cM q0 a (xs (1 : Int32).toNatClampNeg) _) (cwV 1 hts gL_law_X8_near rfl rfl rfl (by decide +kernel) ⟨Nat.le_of_ble_eq_true rfl, Nat.le_of_ble_eq_true rfl⟩) (rw_V hG hPc hDc (va_recv hK hPc (ci := 8) (q0 := 0) rfl rfl)) rfl rfl hl.1 rfl (lv_room (Nat.le_of_ble_eq_true rfl)) dL_law_625 ⟨Nat.le_of_ble_eq_true rfl, Nat.le_of_ble_eq_true rfl⟩) hS (fun q _ h => hFc q h) hFc (fun r_2 u_2 t_2 H1 locs ht hvm h_2 hB hz1 hk1 hS => ?_)
  obtain ⟨hP, hD⟩ := va_join (wr := [(q1, .inr (9, [.ref (n 0), .int 0, .ref (n 2), .ref (n 3), .ref (n 4), .ref (n 5), .ref (n 6), .int 0, .ref (n 8), .ref (n 9), .ref (n 10), .ref (n 11), .ref (n 12), .ref (n 13), .ref (n 14), .int 0, .int 0, .ref (n 17), .ref (n 18), .ref (n 19), .ref (n 20), .ref (n 21), .ref (n 22), .ref (n 23), .ref (n 24), .ref (n 25), .int 1, .int 0, .int 12, .int 0, .int 0, .int 0, .int 0, .int 1440, .ref (n 34), .ref (n 35), .int 0, .int 0, .int 0, .ref (n 39), .ref (n 40), .ref (n 41), .ref (n 42), .int 0, .int 0, .int 0]))]) (w1 := []) hP hD [0] [15] rfl rfl (by decide) (by decide) hk1 hFc (fun k q h => by simp at h) ⟨fun i j p q h => by simp at h, fun k q h => by simp at h⟩
  generalize H1 = H at hP hS ⊢
  have hP : va_P D vwCl [(q1, .inr (9, [.ref (n 0), .int 0, .ref (n 2), .ref (n 3), .ref (n 4), .ref (n 5), .ref (n 6), .int 0, .ref (n 8), .ref (n 9), .ref (n 10), .ref (n 11), .ref (n 12), .ref (n 13), .ref (n 14), .int 0, .int 0, .ref (n 17), .ref (n 18), .ref (n 19), .ref (n 20), .ref (n 21), .ref (n 22), .ref (n 23), .ref (n 24), .ref (n 25), .int 1, .int 0, .int 12, .int 0, .int 0, .int 0, .int 0, .int 1440, .ref (n 34), .ref (n 35), .int 0, .int 0, .int 0, .ref (n 39), .ref (n 40), .ref (n 41), .ref (n 42), .int 0, .int 0, .int 0]))] H := hP
  have hD : va_D A [(q1, .inr (9, [.ref (n 0), .int 0, .ref (n 2), .ref (n 3), .ref (n 4), .ref (n 5), .ref (n 6), .int 0, .ref (n 8), .ref (n 9), .ref (n 10), .ref (n 11), .ref (n 12), .ref (n 13), .ref (n 14), .int 0, .int 0, .ref (n 17), .ref (n 18), .ref (n 19), .ref (n 20), .ref (n 21), .ref (n 22), .ref (n 23), .ref (n 24), .ref (n 25), .int 1, .int 0, .int 12, .int 0, .int 0, .int 0, .int 0, .int 1440, .ref (n 34), .ref (n 35), .int 0, .int 0, .int 0, .ref (n 39), .ref (n 40), .ref (n 41), .ref (n 42), .int 0, .int 0, .int 0]))] := hD
  refine W.widen (k := 44) (n := 32807) (by decide) (by decide) ?_
  rcases h_2 with ⟨rfl, h_2⟩ | ⟨rfl, h_2⟩
  · refine lv_aload_n hx hb dL_law_628 rfl (lv_at hl 1 rfl) ?_
    refine lv_aload_n hx hb dL_law_629 rfl (lv_at hl 3 rfl) ?_
    refine lv_iload_n hx hb dL_law_630 rfl (lv_at hl 0 rfl) ?_
    refine lv_iconst (v := 1) hx hb dL_law_631 (by decide) ?_
    refine lv_iadd hx hb dL_law_632 ?_
    refine lv_topi (fun z_3 ez_3 => ?_)
    obtain rfl : z_3 = 1 := ez_3.trans (by decide)
    refine va_sld hx hb hX hbl hbA hS (vp_in_nI (n := 1) (N := 7) (by decide) (by decide)) dL_law_633 ?_
    have hPc := hP.sub (ws' := [(q1, .inr (9, [.ref (n 0), .int 0, .ref (n 2), .ref (n 3), .ref (n 4), .ref (n 5), .ref (n 6), .int 0, .ref (n 8), .ref (n 9), .ref (n 10), .ref (n 11), .ref (n 12), .ref (n 13), .ref (n 14), .int 0, .int 0, .ref (n 17), .ref (n 18), .ref (n 19), .ref (n 20), .ref (n 21), .ref (n 22), .ref (n 23), .ref (n 24), .ref (n 25), .int 1, .int 0, .int 12, .int 0, .int 0, .int 0, .int 0, .int 1440, .ref (n 34), .ref (n 35), .int 0, .int 0, .int 0, .ref (n 39), .ref (n 40), .ref (n 41), .ref (n 42), .int 0, .int 0, .int 0]))]) [0] rfl
    have hDc := hD.sub (ws' := [(q1, .inr (9, [.ref (n 0), .int 0, .ref (n 2), .ref (n 3), .ref (n 4), .ref (n 5), .ref (n 6), .int 0, .ref (n 8), .ref (n 9), .ref (n 10), .ref (n 11), .ref (n 12), .ref (n 13), .ref (n 14), .int 0, .int 0, .ref (n 17), .ref (n 18), .ref (n 19), .ref (n 20), .ref (n 21), .ref (n 22), .ref (n 23), .ref (n 24), .ref (n 25), .int 1, .int 0, .int 12, .int 0, .int 0, .int 0, .int 0, .int 1440, .ref (n 34), .ref (n 35), .int 0, .int 0, .int 0, .ref (n 39), .ref (n 40), .ref (n 41), .ref (n 42), .int 0, .int 0, .int 0]))]) [0] (by decide) rfl
    have hFc := va_free (wc := [(q1, .inr (9, [.ref (n 0), .int 0, .ref (n 2), .ref (n 3), .ref (n 4), .ref (n 5), .ref (n 6), .int 0, .ref (n 8), .ref (n 9), .ref (n 10), .ref (n 11), .ref (n 12), .ref (n 13), .ref (n 14), .int 0, .int 0, .ref (n 17), .ref (n 18), .ref (n 19), .ref (n 20), .ref (n 21), .ref (n 22), .ref (n 23), .ref (n 24), .ref (n 25), .int 1, .int 0, .int 12, .int 0, .int 0, .int 0, .int 0, .int 1440, .ref (n 34), .ref (n 35), .int 0, .int 0, .int 0, .ref (n 39), .ref (n 40), .ref (n 41), .ref (n 42), .int 0, .int 0, .int 0]))]) hD hS hA [0] rfl
    refine va_calli (va_runV (As := [.int (xs (1 : Int32).toNatClampNeg)]) (rest := [.int 1]) ⟨hx, hb, hml, hown, hts⟩ (k_X9_near l D cI cJ cZ cM q1 n (xs (1 : Int32).toNatClampNeg) _) (cwV 1 hts gL_law_X9_near rfl rfl rfl (by decide +kernel) ⟨Nat.le_of_ble_eq_true rfl, Nat.le_of_ble_eq_true rfl⟩) (rw_V hG hPc hDc (va_recv hK hPc (ci := 9) (q0 := 0) rfl rfl)) rfl rfl hl.1 rfl (lv_room (Nat.le_of_ble_eq_true rfl)) dL_law_634 ⟨Nat.le_of_ble_eq_true rfl, Nat.le_of_ble_eq_true rfl⟩) hS (fun q _ h => hFc q h) hFc (fun r_4 u_4 t_4 H1 locs ht hvm h_4 hB hz1 hk1 hS => ?_)
    obtain ⟨hP, hD⟩ := va_join (wr := []) (w1 := []) hP hD [0] [] rfl rfl (by decide) (by decide) hk1 hFc (fun k q h => by simp at h) ⟨fun i j p q h => by simp at h, fun k q h => by simp at h⟩
    generalize H1 = H at hP hS ⊢
    have hP : va_P D vwCl [] H := hP
    have hD : va_D A [] := hD
    refine W.widen (k := 44) (n := 32807) (by decide) (by decide) ?_
    rcases h_4 with ⟨rfl, h_4⟩ | ⟨rfl, h_4⟩
    · refine lv_icmp_eq (tgt := 1068) hx hb dL_law_637 (by decide) (fun _ => ?_) (fun c_5 => False.elim (by revert c_5; decide))
      exact law_end C0 hG hA hA2 hS (by decide) (by decide) (lv_sub hl [3, 0] rfl)
    exact absurd h_2 h_4
  refine lv_aload_n hx hb dL_law_628 rfl (lv_at hl 1 rfl) ?_
  refine lv_aload_n hx hb dL_law_629 rfl (lv_at hl 3 rfl) ?_
  refine lv_iload_n hx hb dL_law_630 rfl (lv_at hl 0 rfl) ?_
  refine lv_iconst (v := 1) hx hb dL_law_631 (by decide) ?_
  refine lv_iadd hx hb dL_law_632 ?_
  refine lv_topi (fun z_6 ez_6 => ?_)
  obtain rfl : z_6 = 1 := ez_6.trans (by decide)
  refine va_sld hx hb hX hbl hbA hS (vp_in_nI (n := 1) (N := 7) (by decide) (by decide)) dL_law_633 ?_
  have hPc := hP.sub (ws' := [(q1, .inr (9, [.ref (n 0), .int 0, .ref (n 2), .ref (n 3), .ref (n 4), .ref (n 5), .ref (n 6), .int 0, .ref (n 8), .ref (n 9), .ref (n 10), .ref (n 11), .ref (n 12), .ref (n 13), .ref (n 14), .int 0, .int 0, .ref (n 17), .ref (n 18), .ref (n 19), .ref (n 20), .ref (n 21), .ref (n 22), .ref (n 23), .ref (n 24), .ref (n 25), .int 1, .int 0, .int 12, .int 0, .int 0, .int 0, .int 0, .int 1440, .ref (n 34), .ref (n 35), .int 0, .int 0, .int 0, .ref (n 39), .ref (n 40), .ref (n 41), .ref (n 42), .int 0, .int 0, .int 0]))]) [0] rfl
  have hDc := hD.sub (ws' := [(q1, .inr (9, [.ref (n 0), .int 0, .ref (n 2), .ref (n 3), .ref (n 4), .ref (n 5), .ref (n 6), .int 0, .ref (n 8), .ref (n 9), .ref (n 10), .ref (n 11), .ref (n 12), .ref (n 13), .ref (n 14), .int 0, .int 0, .ref (n 17), .ref (n 18), .ref (n 19), .ref (n 20), .ref (n 21), .ref (n 22), .ref (n 23), .ref (n 24), .ref (n 25), .int 1, .int 0, .int 12, .int 0, .int 0, .int 0, .int 0, .int 1440, .ref (n 34), .ref (n 35), .int 0, .int 0, .int 0, .ref (n 39), .ref (n 40), .ref (n 41), .ref (n 42), .int 0, .int 0, .int 0]))]) [0] (by decide) rfl
  have hFc := va_free (wc := [(q1, .inr (9, [.ref (n 0), .int 0, .ref (n 2), .ref (n 3), .ref (n 4), .ref (n 5), .ref (n 6), .int 0, .ref (n 8), .ref (n 9), .ref (n 10), .ref (n 11), .ref (n 12), .ref (n 13), .ref (n 14), .int 0, .int 0, .ref (n 17), .ref (n 18), .ref (n 19), .ref (n 20), .ref (n 21), .ref (n 22), .ref (n 23), .ref (n 24), .ref (n 25), .int 1, .int 0, .int 12, .int 0, .int 0, .int 0, .int 0, .int 1440, .ref (n 34), .ref (n 35), .int 0, .int 0, .int 0, .ref (n 39), .ref (n 40), .ref (n 41), .ref (n 42), .int 0, .int 0, .int 0]))]) hD hS hA [0] rfl
  refine va_calli (va_runV (As := [.int (xs (1 : Int32).toNatClampNeg)]) (rest := [.int 0]) ⟨hx, hb, hml, hown, hts⟩ (k_X9_near l D cI cJ cZ cM q1 n (xs (1 : Int32).toNatClampNeg) _) (cwV 1 hts gL_law_X9_near rfl rfl rfl (by decide +kernel) ⟨Nat.le_of_ble_eq_true rfl, Nat.le_of_ble_eq_true rfl⟩) (rw_V hG hPc hDc (va_recv hK hPc (ci := 9) (q0 := 0) rfl rfl)) rfl rfl hl.1 rfl (lv_room (Nat.le_of_ble_eq_true rfl)) dL_law_634 ⟨Nat.le_of_ble_eq_true rfl, Nat.le_of_ble_eq_true rfl⟩) hS (fun q _ h => hFc q h) hFc (fun r_7 u_7 t_7 H1 locs ht hvm h_7 hB hz1 hk1 hS => ?_)
  obtain ⟨hP, hD⟩ := va_join (wr := []) (w1 := []) hP hD [0] [] rfl rfl (by decide) (by decide) hk1 hFc (fun k q h => by simp at h) ⟨fun i j p q h => by simp at h, fun k q h => by simp at h⟩
  generalize H1 = H at hP hS ⊢
  have hP : va_P D vwCl [] H := hP
  have hD : va_D A [] := hD
  refine W.widen (k := 44) (n := 32807) (by decide) (by decide) ?_
  rcases h_7 with ⟨rfl, h_7⟩ | ⟨rfl, h_7⟩
  · exact absurd h_7 h_2
  refine lv_icmp_eq (tgt := 1068) hx hb dL_law_637 (by decide) (fun _ => ?_) (fun c_8 => False.elim (by revert c_8; decide))
  exact law_end C0 hG hA hA2 hS (by decide) (by decide) (lv_sub hl [3, 0] rfl)
set_option maxHeartbeats 4000000 in
set_option maxRecDepth 100000 in
/-- the call of alike, and the answers' likeness -/
theorem law_12 {p : Program} {l : Launch} {e : Env} {s : State} {m : MethodId} {below : List Frame} {meth : Method} {c : Code} {b : Nat} {xs : Nat → Int32} {D : va_G} {cI cJ cZ cM : Nat} {A : Nat → Prop} {q0 q1 : Nat} {a n : Nat → Nat} {fc : Nat → Int32} {H : Heap} {locs : List Loc} {ls : Array Slot} (C0 : lw_At p s m meth c b 7 xs) (hG : GK D cI cJ cZ cM s) (hA : ∀ q : Nat, s.heap.size ≤ q → A q) (hA2 : ∀ q : Nat, A q → s.heap.size ≤ q) (hP : va_P D vwCl [(q0, .inr (8, [.ref (a 1), .ref (a 2), .ref (a 3), .ref (a 4), .ref (a 5), .ref (a 6), .ref (a 7), .null, .int 0, .int 0, .int 0, .int 0])), (a 1, .inl (cI, 1600, .inl (fun _ => 0))), (a 2, .inl (cM, 10, .inr (.inr (.inr (.inr (fun _ => none)))))), (a 3, .inl (cI, 48, .inl (fun _ => 0))), (a 4, .inr (7, [.ref (a 8), .ref (a 9), .ref (a 10), .ref (a 11), .int 0])), (a 8, .inl (cI, 100, .inl (fun _ => 0))), (a 9, .inl (cI, 100, .inl (fun _ => 0))), (a 10, .inl (cI, 100, .inl (fun _ => 0))), (a 11, .inl (cI, 100, .inl (fun _ => 0))), (a 5, .inr (4, [.ref (a 12), .ref (a 13), .int 0, .int 0, .int 0, .int 1440, .int 1, .int 0, .int 12, .int 0])), (a 12, .inl (cI, 24, .inl (fun _ => 0))), (a 13, .inl (cI, 24, .inl (fun _ => 0))), (a 6, .inr (6, [.int 0, .int 0, .int 0, .int 0, .int 0, .int 0])), (a 7, .inr (3, [.ref (a 14), .int 0])), (a 14, .inl (cI, 8, .inl (fun _ => 0))), (q1, .inr (9, [.ref (n 0), .int 0, .ref (n 2), .ref (n 3), .ref (n 4), .ref (n 5), .ref (n 6), .int 0, .ref (n 8), .ref (n 9), .ref (n 10), .ref (n 11), .ref (n 12), .ref (n 13), .ref (n 14), .int 0, .int 0, .ref (n 17), .ref (n 18), .ref (n 19), .ref (n 20), .ref (n 21), .ref (n 22), .ref (n 23), .ref (n 24), .ref (n 25), .int 1, .int 0, .int 12, .int 0, .int 0, .int 0, .int 0, .int 1440, .ref (n 34), .ref (n 35), .int 0, .int 0, .int 0, .ref (n 39), .ref (n 40), .ref (n 41), .ref (n 42), .int 0, .int 0, .int 0])), (n 0, .inl (cI, 1600, .inl (fun _ => 0))), (n 2, .inl (cI, 10, .inl (fun _ => 0))), (n 3, .inl (cI, 10, .inl (fun _ => 0))), (n 4, .inl (cI, 10, .inl (fun _ => 0))), (n 5, .inl (cZ, 16000, .inl (fun _ => 0))), (n 6, .inl (cZ, 10, .inl (fun _ => 0))), (n 8, .inl (cI, 10, .inl fc)), (n 9, .inl (cI, 10, .inl (fun _ => 0))), (n 10, .inl (cI, 10, .inl (fun _ => 0))), (n 11, .inl (cI, 10, .inl (fun _ => 0))), (n 12, .inl (cI, 48, .inl (fun _ => 0))), (n 13, .inl (cI, 10, .inl (fun _ => 0))), (n 14, .inl (cI, 80, .inl (fun _ => 0))), (n 17, .inl (cI, 100, .inl (fun _ => 0))), (n 18, .inl (cI, 100, .inl (fun _ => 0))), (n 19, .inl (cI, 100, .inl (fun _ => 0))), (n 20, .inl (cI, 100, .inl (fun _ => 0))), (n 21, .inl (cI, 10, .inl (fun _ => 0))), (n 22, .inl (cI, 10, .inl (fun _ => 0))), (n 23, .inl (cI, 10, .inl (fun _ => 0))), (n 24, .inl (cI, 24, .inl (fun _ => 0))), (n 25, .inl (cI, 24, .inl (fun _ => 0))), (n 34, .inl (cI, 8, .inl (fun _ => 0))), (n 35, .inl (cI, 10240, .inl (fun _ => 0))), (n 39, .inl (cI, 10, .inl (fun _ => 0))), (n 40, .inl (cI, 10, .inl (fun _ => 0))), (n 41, .inl (cI, 1024, .inl (fun _ => 0))), (n 42, .inl (cI, 1024, .inl (fun _ => 0)))] H) (hD : va_D A [(q0, .inr (8, [.ref (a 1), .ref (a 2), .ref (a 3), .ref (a 4), .ref (a 5), .ref (a 6), .ref (a 7), .null, .int 0, .int 0, .int 0, .int 0])), (a 1, .inl (cI, 1600, .inl (fun _ => 0))), (a 2, .inl (cM, 10, .inr (.inr (.inr (.inr (fun _ => none)))))), (a 3, .inl (cI, 48, .inl (fun _ => 0))), (a 4, .inr (7, [.ref (a 8), .ref (a 9), .ref (a 10), .ref (a 11), .int 0])), (a 8, .inl (cI, 100, .inl (fun _ => 0))), (a 9, .inl (cI, 100, .inl (fun _ => 0))), (a 10, .inl (cI, 100, .inl (fun _ => 0))), (a 11, .inl (cI, 100, .inl (fun _ => 0))), (a 5, .inr (4, [.ref (a 12), .ref (a 13), .int 0, .int 0, .int 0, .int 1440, .int 1, .int 0, .int 12, .int 0])), (a 12, .inl (cI, 24, .inl (fun _ => 0))), (a 13, .inl (cI, 24, .inl (fun _ => 0))), (a 6, .inr (6, [.int 0, .int 0, .int 0, .int 0, .int 0, .int 0])), (a 7, .inr (3, [.ref (a 14), .int 0])), (a 14, .inl (cI, 8, .inl (fun _ => 0))), (q1, .inr (9, [.ref (n 0), .int 0, .ref (n 2), .ref (n 3), .ref (n 4), .ref (n 5), .ref (n 6), .int 0, .ref (n 8), .ref (n 9), .ref (n 10), .ref (n 11), .ref (n 12), .ref (n 13), .ref (n 14), .int 0, .int 0, .ref (n 17), .ref (n 18), .ref (n 19), .ref (n 20), .ref (n 21), .ref (n 22), .ref (n 23), .ref (n 24), .ref (n 25), .int 1, .int 0, .int 12, .int 0, .int 0, .int 0, .int 0, .int 1440, .ref (n 34), .ref (n 35), .int 0, .int 0, .int 0, .ref (n 39), .ref (n 40), .ref (n 41), .ref (n 42), .int 0, .int 0, .int 0])), (n 0, .inl (cI, 1600, .inl (fun _ => 0))), (n 2, .inl (cI, 10, .inl (fun _ => 0))), (n 3, .inl (cI, 10, .inl (fun _ => 0))), (n 4, .inl (cI, 10, .inl (fun _ => 0))), (n 5, .inl (cZ, 16000, .inl (fun _ => 0))), (n 6, .inl (cZ, 10, .inl (fun _ => 0))), (n 8, .inl (cI, 10, .inl fc)), (n 9, .inl (cI, 10, .inl (fun _ => 0))), (n 10, .inl (cI, 10, .inl (fun _ => 0))), (n 11, .inl (cI, 10, .inl (fun _ => 0))), (n 12, .inl (cI, 48, .inl (fun _ => 0))), (n 13, .inl (cI, 10, .inl (fun _ => 0))), (n 14, .inl (cI, 80, .inl (fun _ => 0))), (n 17, .inl (cI, 100, .inl (fun _ => 0))), (n 18, .inl (cI, 100, .inl (fun _ => 0))), (n 19, .inl (cI, 100, .inl (fun _ => 0))), (n 20, .inl (cI, 100, .inl (fun _ => 0))), (n 21, .inl (cI, 10, .inl (fun _ => 0))), (n 22, .inl (cI, 10, .inl (fun _ => 0))), (n 23, .inl (cI, 10, .inl (fun _ => 0))), (n 24, .inl (cI, 24, .inl (fun _ => 0))), (n 25, .inl (cI, 24, .inl (fun _ => 0))), (n 34, .inl (cI, 8, .inl (fun _ => 0))), (n 35, .inl (cI, 10240, .inl (fun _ => 0))), (n 39, .inl (cI, 10, .inl (fun _ => 0))), (n 40, .inl (cI, 10, .inl (fun _ => 0))), (n 41, .inl (cI, 1024, .inl (fun _ => 0))), (n 42, .inl (cI, 1024, .inl (fun _ => 0)))]) (hS : va_S A s.heap H locs) (hl : lv_has ls 4 [(3, .int 0), (2, .ref q1), (1, .ref q0), (0, .ref b)]) : W p l e room_1 s m #[Value.ref b] below meth c H locs 44 32807 (lw_Z below #[Value.ref b] s) (F0 m 642 ls []) := by
  obtain ⟨hx, hb, hr, hml, hown, hts0, hX, hbl, hlocks, hgv⟩ := id C0
  have hts := fun w h => hts0 w (wsL_law_in w h)
  have hbA : ¬ A b := fun h => Nat.not_le.mpr hbl (hA2 _ h)
  have hK := hG.1
  have hN := hG.2
  refine lv_aload_n hx hb dL_law_642 rfl (lv_at hl 2 rfl) ?_
  refine lv_aload_n hx hb dL_law_643 rfl (lv_at hl 3 rfl) ?_
  refine lv_iload_n hx hb dL_law_644 rfl (lv_at hl 0 rfl) ?_
  refine lv_iconst (v := 1) hx hb dL_law_645 (by decide) ?_
  refine lv_iadd hx hb dL_law_646 ?_
  refine lv_topi (fun z_1 ez_1 => ?_)
  obtain rfl : z_1 = 1 := ez_1.trans (by decide)
  refine va_sld hx hb hX hbl hbA hS (vp_in_nI (n := 1) (N := 7) (by decide) (by decide)) dL_law_647 ?_
  refine lv_aload_n hx hb dL_law_648 rfl (lv_at hl 3 rfl) ?_
  refine lv_iload_n hx hb dL_law_649 rfl (lv_at hl 0 rfl) ?_
  refine lv_iconst (v := 2) hx hb dL_law_650 (by decide) ?_
  refine lv_iadd hx hb dL_law_651 ?_
  refine lv_topi (fun z_2 ez_2 => ?_)
  obtain rfl : z_2 = 2 := ez_2.trans (by decide)
  refine va_sld hx hb hX hbl hbA hS (vp_in_nI (n := 2) (N := 7) (by decide) (by decide)) dL_law_652 ?_
  have hPc := hP.sub (ws' := [(q0, .inr (8, [.ref (a 1), .ref (a 2), .ref (a 3), .ref (a 4), .ref (a 5), .ref (a 6), .ref (a 7), .null, .int 0, .int 0, .int 0, .int 0])), (a 1, .inl (cI, 1600, .inl (fun _ => 0))), (a 2, .inl (cM, 10, .inr (.inr (.inr (.inr (fun _ => none)))))), (a 3, .inl (cI, 48, .inl (fun _ => 0))), (a 4, .inr (7, [.ref (a 8), .ref (a 9), .ref (a 10), .ref (a 11), .int 0])), (a 8, .inl (cI, 100, .inl (fun _ => 0))), (a 9, .inl (cI, 100, .inl (fun _ => 0))), (a 10, .inl (cI, 100, .inl (fun _ => 0))), (a 11, .inl (cI, 100, .inl (fun _ => 0))), (a 5, .inr (4, [.ref (a 12), .ref (a 13), .int 0, .int 0, .int 0, .int 1440, .int 1, .int 0, .int 12, .int 0])), (a 12, .inl (cI, 24, .inl (fun _ => 0))), (a 13, .inl (cI, 24, .inl (fun _ => 0))), (a 6, .inr (6, [.int 0, .int 0, .int 0, .int 0, .int 0, .int 0])), (a 7, .inr (3, [.ref (a 14), .int 0])), (a 14, .inl (cI, 8, .inl (fun _ => 0)))]) [0, 1, 2, 3, 4, 5, 6, 7, 8, 9, 10, 11, 12, 13, 14] rfl
  refine vp_callSi (va_Run.run (va_runV (As := [.int (xs (1 : Int32).toNatClampNeg), .int (xs (2 : Int32).toNatClampNeg)]) (rest := []) ⟨hx, hb, hml, hown, hts⟩ (k_X8_alike l D cI cJ cZ cM q0 a (xs (1 : Int32).toNatClampNeg) (xs (2 : Int32).toNatClampNeg)) (cwV 2 hts gL_law_X8_alike rfl rfl rfl (by decide +kernel) ⟨Nat.le_of_ble_eq_true rfl, Nat.le_of_ble_eq_true rfl⟩) (ro_V hG hPc (va_recv hK hPc (ci := 8) (q0 := 0) rfl rfl)) rfl rfl hl.1 rfl (lv_room (Nat.le_of_ble_eq_true rfl)) dL_law_653 ⟨Nat.le_of_ble_eq_true rfl, Nat.le_of_ble_eq_true rfl⟩)) (fun r_3 h_3 => ?_)
  obtain rfl : r_3 = (-1) := h_3
  refine lv_aload_n hx hb dL_law_656 rfl (lv_at hl 1 rfl) ?_
  refine lv_aload_n hx hb dL_law_657 rfl (lv_at hl 3 rfl) ?_
  refine lv_iload_n hx hb dL_law_658 rfl (lv_at hl 0 rfl) ?_
  refine lv_iconst (v := 1) hx hb dL_law_659 (by decide) ?_
  refine lv_iadd hx hb dL_law_660 ?_
  refine lv_topi (fun z_4 ez_4 => ?_)
  obtain rfl : z_4 = 1 := ez_4.trans (by decide)
  refine va_sld hx hb hX hbl hbA hS (vp_in_nI (n := 1) (N := 7) (by decide) (by decide)) dL_law_661 ?_
  refine lv_aload_n hx hb dL_law_662 rfl (lv_at hl 3 rfl) ?_
  refine lv_iload_n hx hb dL_law_663 rfl (lv_at hl 0 rfl) ?_
  refine lv_iconst (v := 2) hx hb dL_law_664 (by decide) ?_
  refine lv_iadd hx hb dL_law_665 ?_
  refine lv_topi (fun z_5 ez_5 => ?_)
  obtain rfl : z_5 = 2 := ez_5.trans (by decide)
  refine va_sld hx hb hX hbl hbA hS (vp_in_nI (n := 2) (N := 7) (by decide) (by decide)) dL_law_666 ?_
  have hPc := hP.sub (ws' := [(q1, .inr (9, [.ref (n 0), .int 0, .ref (n 2), .ref (n 3), .ref (n 4), .ref (n 5), .ref (n 6), .int 0, .ref (n 8), .ref (n 9), .ref (n 10), .ref (n 11), .ref (n 12), .ref (n 13), .ref (n 14), .int 0, .int 0, .ref (n 17), .ref (n 18), .ref (n 19), .ref (n 20), .ref (n 21), .ref (n 22), .ref (n 23), .ref (n 24), .ref (n 25), .int 1, .int 0, .int 12, .int 0, .int 0, .int 0, .int 0, .int 1440, .ref (n 34), .ref (n 35), .int 0, .int 0, .int 0, .ref (n 39), .ref (n 40), .ref (n 41), .ref (n 42), .int 0, .int 0, .int 0]))]) [15] rfl
  refine vp_callSi (va_Run.run (va_runV (As := [.int (xs (1 : Int32).toNatClampNeg), .int (xs (2 : Int32).toNatClampNeg)]) (rest := [.int (-1)]) ⟨hx, hb, hml, hown, hts⟩ (k_X9_alike l D cI cJ cZ cM q1 n (xs (1 : Int32).toNatClampNeg) (xs (2 : Int32).toNatClampNeg)) (cwV 2 hts gL_law_X9_alike rfl rfl rfl (by decide +kernel) ⟨Nat.le_of_ble_eq_true rfl, Nat.le_of_ble_eq_true rfl⟩) (ro_V hG hPc (va_recv hK hPc (ci := 9) (q0 := 0) rfl rfl)) rfl rfl hl.1 rfl (lv_room (Nat.le_of_ble_eq_true rfl)) dL_law_667 ⟨Nat.le_of_ble_eq_true rfl, Nat.le_of_ble_eq_true rfl⟩)) (fun r_6 h_6 => ?_)
  obtain rfl : r_6 = (-1) := h_6
  refine lv_icmp_eq (tgt := 1068) hx hb dL_law_670 (by decide) (fun _ => ?_) (fun c_7 => False.elim (by revert c_7; decide))
  exact law_end C0 hG hA hA2 hS (by decide) (by decide) (lv_sub hl [3, 0] rfl)
set_option maxHeartbeats 4000000 in
set_option maxRecDepth 100000 in
/-- the call of warn, and the answers' likeness -/
theorem law_13 {p : Program} {l : Launch} {e : Env} {s : State} {m : MethodId} {below : List Frame} {meth : Method} {c : Code} {b : Nat} {xs : Nat → Int32} {D : va_G} {cI cJ cZ cM : Nat} {A : Nat → Prop} {q0 q1 : Nat} {a n : Nat → Nat} {fc : Nat → Int32} {H : Heap} {locs : List Loc} {ls : Array Slot} (C0 : lw_At p s m meth c b 7 xs) (hG : GK D cI cJ cZ cM s) (hA : ∀ q : Nat, s.heap.size ≤ q → A q) (hA2 : ∀ q : Nat, A q → s.heap.size ≤ q) (hP : va_P D vwCl [(q0, .inr (8, [.ref (a 1), .ref (a 2), .ref (a 3), .ref (a 4), .ref (a 5), .ref (a 6), .ref (a 7), .null, .int 0, .int 0, .int 0, .int 0])), (a 1, .inl (cI, 1600, .inl (fun _ => 0))), (a 2, .inl (cM, 10, .inr (.inr (.inr (.inr (fun _ => none)))))), (a 3, .inl (cI, 48, .inl (fun _ => 0))), (a 4, .inr (7, [.ref (a 8), .ref (a 9), .ref (a 10), .ref (a 11), .int 0])), (a 8, .inl (cI, 100, .inl (fun _ => 0))), (a 9, .inl (cI, 100, .inl (fun _ => 0))), (a 10, .inl (cI, 100, .inl (fun _ => 0))), (a 11, .inl (cI, 100, .inl (fun _ => 0))), (a 5, .inr (4, [.ref (a 12), .ref (a 13), .int 0, .int 0, .int 0, .int 1440, .int 1, .int 0, .int 12, .int 0])), (a 12, .inl (cI, 24, .inl (fun _ => 0))), (a 13, .inl (cI, 24, .inl (fun _ => 0))), (a 6, .inr (6, [.int 0, .int 0, .int 0, .int 0, .int 0, .int 0])), (a 7, .inr (3, [.ref (a 14), .int 0])), (a 14, .inl (cI, 8, .inl (fun _ => 0))), (q1, .inr (9, [.ref (n 0), .int 0, .ref (n 2), .ref (n 3), .ref (n 4), .ref (n 5), .ref (n 6), .int 0, .ref (n 8), .ref (n 9), .ref (n 10), .ref (n 11), .ref (n 12), .ref (n 13), .ref (n 14), .int 0, .int 0, .ref (n 17), .ref (n 18), .ref (n 19), .ref (n 20), .ref (n 21), .ref (n 22), .ref (n 23), .ref (n 24), .ref (n 25), .int 1, .int 0, .int 12, .int 0, .int 0, .int 0, .int 0, .int 1440, .ref (n 34), .ref (n 35), .int 0, .int 0, .int 0, .ref (n 39), .ref (n 40), .ref (n 41), .ref (n 42), .int 0, .int 0, .int 0])), (n 0, .inl (cI, 1600, .inl (fun _ => 0))), (n 2, .inl (cI, 10, .inl (fun _ => 0))), (n 3, .inl (cI, 10, .inl (fun _ => 0))), (n 4, .inl (cI, 10, .inl (fun _ => 0))), (n 5, .inl (cZ, 16000, .inl (fun _ => 0))), (n 6, .inl (cZ, 10, .inl (fun _ => 0))), (n 8, .inl (cI, 10, .inl fc)), (n 9, .inl (cI, 10, .inl (fun _ => 0))), (n 10, .inl (cI, 10, .inl (fun _ => 0))), (n 11, .inl (cI, 10, .inl (fun _ => 0))), (n 12, .inl (cI, 48, .inl (fun _ => 0))), (n 13, .inl (cI, 10, .inl (fun _ => 0))), (n 14, .inl (cI, 80, .inl (fun _ => 0))), (n 17, .inl (cI, 100, .inl (fun _ => 0))), (n 18, .inl (cI, 100, .inl (fun _ => 0))), (n 19, .inl (cI, 100, .inl (fun _ => 0))), (n 20, .inl (cI, 100, .inl (fun _ => 0))), (n 21, .inl (cI, 10, .inl (fun _ => 0))), (n 22, .inl (cI, 10, .inl (fun _ => 0))), (n 23, .inl (cI, 10, .inl (fun _ => 0))), (n 24, .inl (cI, 24, .inl (fun _ => 0))), (n 25, .inl (cI, 24, .inl (fun _ => 0))), (n 34, .inl (cI, 8, .inl (fun _ => 0))), (n 35, .inl (cI, 10240, .inl (fun _ => 0))), (n 39, .inl (cI, 10, .inl (fun _ => 0))), (n 40, .inl (cI, 10, .inl (fun _ => 0))), (n 41, .inl (cI, 1024, .inl (fun _ => 0))), (n 42, .inl (cI, 1024, .inl (fun _ => 0)))] H) (hD : va_D A [(q0, .inr (8, [.ref (a 1), .ref (a 2), .ref (a 3), .ref (a 4), .ref (a 5), .ref (a 6), .ref (a 7), .null, .int 0, .int 0, .int 0, .int 0])), (a 1, .inl (cI, 1600, .inl (fun _ => 0))), (a 2, .inl (cM, 10, .inr (.inr (.inr (.inr (fun _ => none)))))), (a 3, .inl (cI, 48, .inl (fun _ => 0))), (a 4, .inr (7, [.ref (a 8), .ref (a 9), .ref (a 10), .ref (a 11), .int 0])), (a 8, .inl (cI, 100, .inl (fun _ => 0))), (a 9, .inl (cI, 100, .inl (fun _ => 0))), (a 10, .inl (cI, 100, .inl (fun _ => 0))), (a 11, .inl (cI, 100, .inl (fun _ => 0))), (a 5, .inr (4, [.ref (a 12), .ref (a 13), .int 0, .int 0, .int 0, .int 1440, .int 1, .int 0, .int 12, .int 0])), (a 12, .inl (cI, 24, .inl (fun _ => 0))), (a 13, .inl (cI, 24, .inl (fun _ => 0))), (a 6, .inr (6, [.int 0, .int 0, .int 0, .int 0, .int 0, .int 0])), (a 7, .inr (3, [.ref (a 14), .int 0])), (a 14, .inl (cI, 8, .inl (fun _ => 0))), (q1, .inr (9, [.ref (n 0), .int 0, .ref (n 2), .ref (n 3), .ref (n 4), .ref (n 5), .ref (n 6), .int 0, .ref (n 8), .ref (n 9), .ref (n 10), .ref (n 11), .ref (n 12), .ref (n 13), .ref (n 14), .int 0, .int 0, .ref (n 17), .ref (n 18), .ref (n 19), .ref (n 20), .ref (n 21), .ref (n 22), .ref (n 23), .ref (n 24), .ref (n 25), .int 1, .int 0, .int 12, .int 0, .int 0, .int 0, .int 0, .int 1440, .ref (n 34), .ref (n 35), .int 0, .int 0, .int 0, .ref (n 39), .ref (n 40), .ref (n 41), .ref (n 42), .int 0, .int 0, .int 0])), (n 0, .inl (cI, 1600, .inl (fun _ => 0))), (n 2, .inl (cI, 10, .inl (fun _ => 0))), (n 3, .inl (cI, 10, .inl (fun _ => 0))), (n 4, .inl (cI, 10, .inl (fun _ => 0))), (n 5, .inl (cZ, 16000, .inl (fun _ => 0))), (n 6, .inl (cZ, 10, .inl (fun _ => 0))), (n 8, .inl (cI, 10, .inl fc)), (n 9, .inl (cI, 10, .inl (fun _ => 0))), (n 10, .inl (cI, 10, .inl (fun _ => 0))), (n 11, .inl (cI, 10, .inl (fun _ => 0))), (n 12, .inl (cI, 48, .inl (fun _ => 0))), (n 13, .inl (cI, 10, .inl (fun _ => 0))), (n 14, .inl (cI, 80, .inl (fun _ => 0))), (n 17, .inl (cI, 100, .inl (fun _ => 0))), (n 18, .inl (cI, 100, .inl (fun _ => 0))), (n 19, .inl (cI, 100, .inl (fun _ => 0))), (n 20, .inl (cI, 100, .inl (fun _ => 0))), (n 21, .inl (cI, 10, .inl (fun _ => 0))), (n 22, .inl (cI, 10, .inl (fun _ => 0))), (n 23, .inl (cI, 10, .inl (fun _ => 0))), (n 24, .inl (cI, 24, .inl (fun _ => 0))), (n 25, .inl (cI, 24, .inl (fun _ => 0))), (n 34, .inl (cI, 8, .inl (fun _ => 0))), (n 35, .inl (cI, 10240, .inl (fun _ => 0))), (n 39, .inl (cI, 10, .inl (fun _ => 0))), (n 40, .inl (cI, 10, .inl (fun _ => 0))), (n 41, .inl (cI, 1024, .inl (fun _ => 0))), (n 42, .inl (cI, 1024, .inl (fun _ => 0)))]) (hS : va_S A s.heap H locs) (hl : lv_has ls 4 [(3, .int 0), (2, .ref q1), (1, .ref q0), (0, .ref b)]) : W p l e room_1 s m #[Value.ref b] below meth c H locs 44 32807 (lw_Z below #[Value.ref b] s) (F0 m 675 ls []) := by
  obtain ⟨hx, hb, hr, hml, hown, hts0, hX, hbl, hlocks, hgv⟩ := id C0
  have hts := fun w h => hts0 w (wsL_law_in w h)
  have hbA : ¬ A b := fun h => Nat.not_le.mpr hbl (hA2 _ h)
  have hK := hG.1
  have hN := hG.2
  refine lv_aload_n hx hb dL_law_675 rfl (lv_at hl 2 rfl) ?_
  refine lv_aload_n hx hb dL_law_676 rfl (lv_at hl 3 rfl) ?_
  refine lv_iload_n hx hb dL_law_677 rfl (lv_at hl 0 rfl) ?_
  refine lv_iconst (v := 1) hx hb dL_law_678 (by decide) ?_
  refine lv_iadd hx hb dL_law_679 ?_
  refine lv_topi (fun z_1 ez_1 => ?_)
  obtain rfl : z_1 = 1 := ez_1.trans (by decide)
  refine va_sld hx hb hX hbl hbA hS (vp_in_nI (n := 1) (N := 7) (by decide) (by decide)) dL_law_680 ?_
  refine lv_aload_n hx hb dL_law_681 rfl (lv_at hl 3 rfl) ?_
  refine lv_iload_n hx hb dL_law_682 rfl (lv_at hl 0 rfl) ?_
  refine lv_iconst (v := 2) hx hb dL_law_683 (by decide) ?_
  refine lv_iadd hx hb dL_law_684 ?_
  refine lv_topi (fun z_2 ez_2 => ?_)
  obtain rfl : z_2 = 2 := ez_2.trans (by decide)
  refine va_sld hx hb hX hbl hbA hS (vp_in_nI (n := 2) (N := 7) (by decide) (by decide)) dL_law_685 ?_
  have hPc := hP.sub (ws' := [(q0, .inr (8, [.ref (a 1), .ref (a 2), .ref (a 3), .ref (a 4), .ref (a 5), .ref (a 6), .ref (a 7), .null, .int 0, .int 0, .int 0, .int 0])), (a 1, .inl (cI, 1600, .inl (fun _ => 0))), (a 2, .inl (cM, 10, .inr (.inr (.inr (.inr (fun _ => none)))))), (a 3, .inl (cI, 48, .inl (fun _ => 0))), (a 4, .inr (7, [.ref (a 8), .ref (a 9), .ref (a 10), .ref (a 11), .int 0])), (a 8, .inl (cI, 100, .inl (fun _ => 0))), (a 9, .inl (cI, 100, .inl (fun _ => 0))), (a 10, .inl (cI, 100, .inl (fun _ => 0))), (a 11, .inl (cI, 100, .inl (fun _ => 0))), (a 5, .inr (4, [.ref (a 12), .ref (a 13), .int 0, .int 0, .int 0, .int 1440, .int 1, .int 0, .int 12, .int 0])), (a 12, .inl (cI, 24, .inl (fun _ => 0))), (a 13, .inl (cI, 24, .inl (fun _ => 0))), (a 6, .inr (6, [.int 0, .int 0, .int 0, .int 0, .int 0, .int 0])), (a 7, .inr (3, [.ref (a 14), .int 0])), (a 14, .inl (cI, 8, .inl (fun _ => 0)))]) [0, 1, 2, 3, 4, 5, 6, 7, 8, 9, 10, 11, 12, 13, 14] rfl
  refine vp_callSi (va_Run.run (va_runV (As := [.int (xs (1 : Int32).toNatClampNeg), .int (xs (2 : Int32).toNatClampNeg)]) (rest := []) ⟨hx, hb, hml, hown, hts⟩ (k_X8_warn l D cI cJ cZ cM q0 a (xs (1 : Int32).toNatClampNeg) (xs (2 : Int32).toNatClampNeg)) (cwV 2 hts gL_law_X8_warn rfl rfl rfl (by decide +kernel) ⟨Nat.le_of_ble_eq_true rfl, Nat.le_of_ble_eq_true rfl⟩) (ro_V hG hPc (va_recv hK hPc (ci := 8) (q0 := 0) rfl rfl)) rfl rfl hl.1 rfl (lv_room (Nat.le_of_ble_eq_true rfl)) dL_law_686 ⟨Nat.le_of_ble_eq_true rfl, Nat.le_of_ble_eq_true rfl⟩)) (fun r_3 h_3 => ?_)
  obtain rfl : r_3 = (-1) := h_3
  refine lv_aload_n hx hb dL_law_689 rfl (lv_at hl 1 rfl) ?_
  refine lv_aload_n hx hb dL_law_690 rfl (lv_at hl 3 rfl) ?_
  refine lv_iload_n hx hb dL_law_691 rfl (lv_at hl 0 rfl) ?_
  refine lv_iconst (v := 1) hx hb dL_law_692 (by decide) ?_
  refine lv_iadd hx hb dL_law_693 ?_
  refine lv_topi (fun z_4 ez_4 => ?_)
  obtain rfl : z_4 = 1 := ez_4.trans (by decide)
  refine va_sld hx hb hX hbl hbA hS (vp_in_nI (n := 1) (N := 7) (by decide) (by decide)) dL_law_694 ?_
  refine lv_aload_n hx hb dL_law_695 rfl (lv_at hl 3 rfl) ?_
  refine lv_iload_n hx hb dL_law_696 rfl (lv_at hl 0 rfl) ?_
  refine lv_iconst (v := 2) hx hb dL_law_697 (by decide) ?_
  refine lv_iadd hx hb dL_law_698 ?_
  refine lv_topi (fun z_5 ez_5 => ?_)
  obtain rfl : z_5 = 2 := ez_5.trans (by decide)
  refine va_sld hx hb hX hbl hbA hS (vp_in_nI (n := 2) (N := 7) (by decide) (by decide)) dL_law_699 ?_
  have hPc := hP.sub (ws' := [(q1, .inr (9, [.ref (n 0), .int 0, .ref (n 2), .ref (n 3), .ref (n 4), .ref (n 5), .ref (n 6), .int 0, .ref (n 8), .ref (n 9), .ref (n 10), .ref (n 11), .ref (n 12), .ref (n 13), .ref (n 14), .int 0, .int 0, .ref (n 17), .ref (n 18), .ref (n 19), .ref (n 20), .ref (n 21), .ref (n 22), .ref (n 23), .ref (n 24), .ref (n 25), .int 1, .int 0, .int 12, .int 0, .int 0, .int 0, .int 0, .int 1440, .ref (n 34), .ref (n 35), .int 0, .int 0, .int 0, .ref (n 39), .ref (n 40), .ref (n 41), .ref (n 42), .int 0, .int 0, .int 0]))]) [15] rfl
  refine vp_callSi (va_Run.run (va_runV (As := [.int (xs (1 : Int32).toNatClampNeg), .int (xs (2 : Int32).toNatClampNeg)]) (rest := [.int (-1)]) ⟨hx, hb, hml, hown, hts⟩ (k_X9_warn l D cI cJ cZ cM q1 n (xs (1 : Int32).toNatClampNeg) (xs (2 : Int32).toNatClampNeg)) (cwV 2 hts gL_law_X9_warn rfl rfl rfl (by decide +kernel) ⟨Nat.le_of_ble_eq_true rfl, Nat.le_of_ble_eq_true rfl⟩) (ro_V hG hPc (va_recv hK hPc (ci := 9) (q0 := 0) rfl rfl)) rfl rfl hl.1 rfl (lv_room (Nat.le_of_ble_eq_true rfl)) dL_law_700 ⟨Nat.le_of_ble_eq_true rfl, Nat.le_of_ble_eq_true rfl⟩)) (fun r_6 h_6 => ?_)
  obtain rfl : r_6 = (-1) := h_6
  refine lv_icmp_eq (tgt := 1068) hx hb dL_law_703 (by decide) (fun _ => ?_) (fun c_7 => False.elim (by revert c_7; decide))
  exact law_end C0 hG hA hA2 hS (by decide) (by decide) (lv_sub hl [3, 0] rfl)
set_option maxHeartbeats 4000000 in
set_option maxRecDepth 100000 in
/-- the call of cancel, and the answers' likeness -/
theorem law_14 {p : Program} {l : Launch} {e : Env} {s : State} {m : MethodId} {below : List Frame} {meth : Method} {c : Code} {b : Nat} {xs : Nat → Int32} {D : va_G} {cI cJ cZ cM : Nat} {A : Nat → Prop} {q0 q1 : Nat} {a n : Nat → Nat} {fc : Nat → Int32} {H : Heap} {locs : List Loc} {ls : Array Slot} (C0 : lw_At p s m meth c b 7 xs) (hG : GK D cI cJ cZ cM s) (hA : ∀ q : Nat, s.heap.size ≤ q → A q) (hA2 : ∀ q : Nat, A q → s.heap.size ≤ q) (hP : va_P D vwCl [(q0, .inr (8, [.ref (a 1), .ref (a 2), .ref (a 3), .ref (a 4), .ref (a 5), .ref (a 6), .ref (a 7), .null, .int 0, .int 0, .int 0, .int 0])), (a 1, .inl (cI, 1600, .inl (fun _ => 0))), (a 2, .inl (cM, 10, .inr (.inr (.inr (.inr (fun _ => none)))))), (a 3, .inl (cI, 48, .inl (fun _ => 0))), (a 4, .inr (7, [.ref (a 8), .ref (a 9), .ref (a 10), .ref (a 11), .int 0])), (a 8, .inl (cI, 100, .inl (fun _ => 0))), (a 9, .inl (cI, 100, .inl (fun _ => 0))), (a 10, .inl (cI, 100, .inl (fun _ => 0))), (a 11, .inl (cI, 100, .inl (fun _ => 0))), (a 5, .inr (4, [.ref (a 12), .ref (a 13), .int 0, .int 0, .int 0, .int 1440, .int 1, .int 0, .int 12, .int 0])), (a 12, .inl (cI, 24, .inl (fun _ => 0))), (a 13, .inl (cI, 24, .inl (fun _ => 0))), (a 6, .inr (6, [.int 0, .int 0, .int 0, .int 0, .int 0, .int 0])), (a 7, .inr (3, [.ref (a 14), .int 0])), (a 14, .inl (cI, 8, .inl (fun _ => 0))), (q1, .inr (9, [.ref (n 0), .int 0, .ref (n 2), .ref (n 3), .ref (n 4), .ref (n 5), .ref (n 6), .int 0, .ref (n 8), .ref (n 9), .ref (n 10), .ref (n 11), .ref (n 12), .ref (n 13), .ref (n 14), .int 0, .int 0, .ref (n 17), .ref (n 18), .ref (n 19), .ref (n 20), .ref (n 21), .ref (n 22), .ref (n 23), .ref (n 24), .ref (n 25), .int 1, .int 0, .int 12, .int 0, .int 0, .int 0, .int 0, .int 1440, .ref (n 34), .ref (n 35), .int 0, .int 0, .int 0, .ref (n 39), .ref (n 40), .ref (n 41), .ref (n 42), .int 0, .int 0, .int 0])), (n 0, .inl (cI, 1600, .inl (fun _ => 0))), (n 2, .inl (cI, 10, .inl (fun _ => 0))), (n 3, .inl (cI, 10, .inl (fun _ => 0))), (n 4, .inl (cI, 10, .inl (fun _ => 0))), (n 5, .inl (cZ, 16000, .inl (fun _ => 0))), (n 6, .inl (cZ, 10, .inl (fun _ => 0))), (n 8, .inl (cI, 10, .inl fc)), (n 9, .inl (cI, 10, .inl (fun _ => 0))), (n 10, .inl (cI, 10, .inl (fun _ => 0))), (n 11, .inl (cI, 10, .inl (fun _ => 0))), (n 12, .inl (cI, 48, .inl (fun _ => 0))), (n 13, .inl (cI, 10, .inl (fun _ => 0))), (n 14, .inl (cI, 80, .inl (fun _ => 0))), (n 17, .inl (cI, 100, .inl (fun _ => 0))), (n 18, .inl (cI, 100, .inl (fun _ => 0))), (n 19, .inl (cI, 100, .inl (fun _ => 0))), (n 20, .inl (cI, 100, .inl (fun _ => 0))), (n 21, .inl (cI, 10, .inl (fun _ => 0))), (n 22, .inl (cI, 10, .inl (fun _ => 0))), (n 23, .inl (cI, 10, .inl (fun _ => 0))), (n 24, .inl (cI, 24, .inl (fun _ => 0))), (n 25, .inl (cI, 24, .inl (fun _ => 0))), (n 34, .inl (cI, 8, .inl (fun _ => 0))), (n 35, .inl (cI, 10240, .inl (fun _ => 0))), (n 39, .inl (cI, 10, .inl (fun _ => 0))), (n 40, .inl (cI, 10, .inl (fun _ => 0))), (n 41, .inl (cI, 1024, .inl (fun _ => 0))), (n 42, .inl (cI, 1024, .inl (fun _ => 0)))] H) (hD : va_D A [(q0, .inr (8, [.ref (a 1), .ref (a 2), .ref (a 3), .ref (a 4), .ref (a 5), .ref (a 6), .ref (a 7), .null, .int 0, .int 0, .int 0, .int 0])), (a 1, .inl (cI, 1600, .inl (fun _ => 0))), (a 2, .inl (cM, 10, .inr (.inr (.inr (.inr (fun _ => none)))))), (a 3, .inl (cI, 48, .inl (fun _ => 0))), (a 4, .inr (7, [.ref (a 8), .ref (a 9), .ref (a 10), .ref (a 11), .int 0])), (a 8, .inl (cI, 100, .inl (fun _ => 0))), (a 9, .inl (cI, 100, .inl (fun _ => 0))), (a 10, .inl (cI, 100, .inl (fun _ => 0))), (a 11, .inl (cI, 100, .inl (fun _ => 0))), (a 5, .inr (4, [.ref (a 12), .ref (a 13), .int 0, .int 0, .int 0, .int 1440, .int 1, .int 0, .int 12, .int 0])), (a 12, .inl (cI, 24, .inl (fun _ => 0))), (a 13, .inl (cI, 24, .inl (fun _ => 0))), (a 6, .inr (6, [.int 0, .int 0, .int 0, .int 0, .int 0, .int 0])), (a 7, .inr (3, [.ref (a 14), .int 0])), (a 14, .inl (cI, 8, .inl (fun _ => 0))), (q1, .inr (9, [.ref (n 0), .int 0, .ref (n 2), .ref (n 3), .ref (n 4), .ref (n 5), .ref (n 6), .int 0, .ref (n 8), .ref (n 9), .ref (n 10), .ref (n 11), .ref (n 12), .ref (n 13), .ref (n 14), .int 0, .int 0, .ref (n 17), .ref (n 18), .ref (n 19), .ref (n 20), .ref (n 21), .ref (n 22), .ref (n 23), .ref (n 24), .ref (n 25), .int 1, .int 0, .int 12, .int 0, .int 0, .int 0, .int 0, .int 1440, .ref (n 34), .ref (n 35), .int 0, .int 0, .int 0, .ref (n 39), .ref (n 40), .ref (n 41), .ref (n 42), .int 0, .int 0, .int 0])), (n 0, .inl (cI, 1600, .inl (fun _ => 0))), (n 2, .inl (cI, 10, .inl (fun _ => 0))), (n 3, .inl (cI, 10, .inl (fun _ => 0))), (n 4, .inl (cI, 10, .inl (fun _ => 0))), (n 5, .inl (cZ, 16000, .inl (fun _ => 0))), (n 6, .inl (cZ, 10, .inl (fun _ => 0))), (n 8, .inl (cI, 10, .inl fc)), (n 9, .inl (cI, 10, .inl (fun _ => 0))), (n 10, .inl (cI, 10, .inl (fun _ => 0))), (n 11, .inl (cI, 10, .inl (fun _ => 0))), (n 12, .inl (cI, 48, .inl (fun _ => 0))), (n 13, .inl (cI, 10, .inl (fun _ => 0))), (n 14, .inl (cI, 80, .inl (fun _ => 0))), (n 17, .inl (cI, 100, .inl (fun _ => 0))), (n 18, .inl (cI, 100, .inl (fun _ => 0))), (n 19, .inl (cI, 100, .inl (fun _ => 0))), (n 20, .inl (cI, 100, .inl (fun _ => 0))), (n 21, .inl (cI, 10, .inl (fun _ => 0))), (n 22, .inl (cI, 10, .inl (fun _ => 0))), (n 23, .inl (cI, 10, .inl (fun _ => 0))), (n 24, .inl (cI, 24, .inl (fun _ => 0))), (n 25, .inl (cI, 24, .inl (fun _ => 0))), (n 34, .inl (cI, 8, .inl (fun _ => 0))), (n 35, .inl (cI, 10240, .inl (fun _ => 0))), (n 39, .inl (cI, 10, .inl (fun _ => 0))), (n 40, .inl (cI, 10, .inl (fun _ => 0))), (n 41, .inl (cI, 1024, .inl (fun _ => 0))), (n 42, .inl (cI, 1024, .inl (fun _ => 0)))]) (hS : va_S A s.heap H locs) (hl : lv_has ls 4 [(3, .int 0), (2, .ref q1), (1, .ref q0), (0, .ref b)]) : W p l e room_1 s m #[Value.ref b] below meth c H locs 44 32807 (lw_Z below #[Value.ref b] s) (F0 m 708 ls []) := by
  obtain ⟨hx, hb, hr, hml, hown, hts0, hX, hbl, hlocks, hgv⟩ := id C0
  have hts := fun w h => hts0 w (wsL_law_in w h)
  have hbA : ¬ A b := fun h => Nat.not_le.mpr hbl (hA2 _ h)
  have hK := hG.1
  have hN := hG.2
  refine lv_aload_n hx hb dL_law_708 rfl (lv_at hl 2 rfl) ?_
  refine lv_aload_n hx hb dL_law_709 rfl (lv_at hl 3 rfl) ?_
  refine lv_iload_n hx hb dL_law_710 rfl (lv_at hl 0 rfl) ?_
  refine lv_iconst (v := 1) hx hb dL_law_711 (by decide) ?_
  refine lv_iadd hx hb dL_law_712 ?_
  refine lv_topi (fun z_1 ez_1 => ?_)
  obtain rfl : z_1 = 1 := ez_1.trans (by decide)
  refine va_sld hx hb hX hbl hbA hS (vp_in_nI (n := 1) (N := 7) (by decide) (by decide)) dL_law_713 ?_
  have hPc := hP.sub (ws' := [(q0, .inr (8, [.ref (a 1), .ref (a 2), .ref (a 3), .ref (a 4), .ref (a 5), .ref (a 6), .ref (a 7), .null, .int 0, .int 0, .int 0, .int 0])), (a 1, .inl (cI, 1600, .inl (fun _ => 0))), (a 2, .inl (cM, 10, .inr (.inr (.inr (.inr (fun _ => none)))))), (a 3, .inl (cI, 48, .inl (fun _ => 0))), (a 4, .inr (7, [.ref (a 8), .ref (a 9), .ref (a 10), .ref (a 11), .int 0])), (a 8, .inl (cI, 100, .inl (fun _ => 0))), (a 9, .inl (cI, 100, .inl (fun _ => 0))), (a 10, .inl (cI, 100, .inl (fun _ => 0))), (a 11, .inl (cI, 100, .inl (fun _ => 0))), (a 5, .inr (4, [.ref (a 12), .ref (a 13), .int 0, .int 0, .int 0, .int 1440, .int 1, .int 0, .int 12, .int 0])), (a 12, .inl (cI, 24, .inl (fun _ => 0))), (a 13, .inl (cI, 24, .inl (fun _ => 0))), (a 6, .inr (6, [.int 0, .int 0, .int 0, .int 0, .int 0, .int 0])), (a 7, .inr (3, [.ref (a 14), .int 0])), (a 14, .inl (cI, 8, .inl (fun _ => 0)))]) [0, 1, 2, 3, 4, 5, 6, 7, 8, 9, 10, 11, 12, 13, 14] rfl
  refine vp_callSi (va_Run.run (va_runV (As := [.int (xs (1 : Int32).toNatClampNeg)]) (rest := []) ⟨hx, hb, hml, hown, hts⟩ (k_X8_cancel l D cI cJ cZ cM q0 a (xs (1 : Int32).toNatClampNeg)) (cwV 1 hts gL_law_X8_cancel rfl rfl rfl (by decide +kernel) ⟨Nat.le_of_ble_eq_true rfl, Nat.le_of_ble_eq_true rfl⟩) (ro_V hG hPc (va_recv hK hPc (ci := 8) (q0 := 0) rfl rfl)) rfl rfl hl.1 rfl (lv_room (Nat.le_of_ble_eq_true rfl)) dL_law_714 ⟨Nat.le_of_ble_eq_true rfl, Nat.le_of_ble_eq_true rfl⟩)) (fun r_2 h_2 => ?_)
  obtain rfl : r_2 = 0 := h_2
  refine lv_aload_n hx hb dL_law_717 rfl (lv_at hl 1 rfl) ?_
  refine lv_aload_n hx hb dL_law_718 rfl (lv_at hl 3 rfl) ?_
  refine lv_iload_n hx hb dL_law_719 rfl (lv_at hl 0 rfl) ?_
  refine lv_iconst (v := 1) hx hb dL_law_720 (by decide) ?_
  refine lv_iadd hx hb dL_law_721 ?_
  refine lv_topi (fun z_3 ez_3 => ?_)
  obtain rfl : z_3 = 1 := ez_3.trans (by decide)
  refine va_sld hx hb hX hbl hbA hS (vp_in_nI (n := 1) (N := 7) (by decide) (by decide)) dL_law_722 ?_
  have hPc := hP.sub (ws' := [(q1, .inr (9, [.ref (n 0), .int 0, .ref (n 2), .ref (n 3), .ref (n 4), .ref (n 5), .ref (n 6), .int 0, .ref (n 8), .ref (n 9), .ref (n 10), .ref (n 11), .ref (n 12), .ref (n 13), .ref (n 14), .int 0, .int 0, .ref (n 17), .ref (n 18), .ref (n 19), .ref (n 20), .ref (n 21), .ref (n 22), .ref (n 23), .ref (n 24), .ref (n 25), .int 1, .int 0, .int 12, .int 0, .int 0, .int 0, .int 0, .int 1440, .ref (n 34), .ref (n 35), .int 0, .int 0, .int 0, .ref (n 39), .ref (n 40), .ref (n 41), .ref (n 42), .int 0, .int 0, .int 0]))]) [15] rfl
  refine vp_callSi (va_Run.run (va_runV (As := [.int (xs (1 : Int32).toNatClampNeg)]) (rest := [.int 0]) ⟨hx, hb, hml, hown, hts⟩ (k_X9_cancel l D cI cJ cZ cM q1 n (xs (1 : Int32).toNatClampNeg)) (cwV 1 hts gL_law_X9_cancel rfl rfl rfl (by decide +kernel) ⟨Nat.le_of_ble_eq_true rfl, Nat.le_of_ble_eq_true rfl⟩) (ro_V hG hPc (va_recv hK hPc (ci := 9) (q0 := 0) rfl rfl)) rfl rfl hl.1 rfl (lv_room (Nat.le_of_ble_eq_true rfl)) dL_law_723 ⟨Nat.le_of_ble_eq_true rfl, Nat.le_of_ble_eq_true rfl⟩)) (fun r_4 h_4 => ?_)
  obtain rfl : r_4 = 0 := h_4
  refine lv_icmp_eq (tgt := 1068) hx hb dL_law_726 (by decide) (fun _ => ?_) (fun c_5 => False.elim (by revert c_5; decide))
  exact law_end C0 hG hA hA2 hS (by decide) (by decide) (lv_sub hl [3, 0] rfl)
set_option maxHeartbeats 4000000 in
set_option maxRecDepth 100000 in
/-- the call of list, and the answers' likeness -/
theorem law_15 {p : Program} {l : Launch} {e : Env} {s : State} {m : MethodId} {below : List Frame} {meth : Method} {c : Code} {b : Nat} {xs : Nat → Int32} {D : va_G} {cI cJ cZ cM : Nat} {A : Nat → Prop} {q0 q1 : Nat} {a n : Nat → Nat} {fc : Nat → Int32} {H : Heap} {locs : List Loc} {ls : Array Slot} (C0 : lw_At p s m meth c b 7 xs) (hG : GK D cI cJ cZ cM s) (hA : ∀ q : Nat, s.heap.size ≤ q → A q) (hA2 : ∀ q : Nat, A q → s.heap.size ≤ q) (hP : va_P D vwCl [(q0, .inr (8, [.ref (a 1), .ref (a 2), .ref (a 3), .ref (a 4), .ref (a 5), .ref (a 6), .ref (a 7), .null, .int 0, .int 0, .int 0, .int 0])), (a 1, .inl (cI, 1600, .inl (fun _ => 0))), (a 2, .inl (cM, 10, .inr (.inr (.inr (.inr (fun _ => none)))))), (a 3, .inl (cI, 48, .inl (fun _ => 0))), (a 4, .inr (7, [.ref (a 8), .ref (a 9), .ref (a 10), .ref (a 11), .int 0])), (a 8, .inl (cI, 100, .inl (fun _ => 0))), (a 9, .inl (cI, 100, .inl (fun _ => 0))), (a 10, .inl (cI, 100, .inl (fun _ => 0))), (a 11, .inl (cI, 100, .inl (fun _ => 0))), (a 5, .inr (4, [.ref (a 12), .ref (a 13), .int 0, .int 0, .int 0, .int 1440, .int 1, .int 0, .int 12, .int 0])), (a 12, .inl (cI, 24, .inl (fun _ => 0))), (a 13, .inl (cI, 24, .inl (fun _ => 0))), (a 6, .inr (6, [.int 0, .int 0, .int 0, .int 0, .int 0, .int 0])), (a 7, .inr (3, [.ref (a 14), .int 0])), (a 14, .inl (cI, 8, .inl (fun _ => 0))), (q1, .inr (9, [.ref (n 0), .int 0, .ref (n 2), .ref (n 3), .ref (n 4), .ref (n 5), .ref (n 6), .int 0, .ref (n 8), .ref (n 9), .ref (n 10), .ref (n 11), .ref (n 12), .ref (n 13), .ref (n 14), .int 0, .int 0, .ref (n 17), .ref (n 18), .ref (n 19), .ref (n 20), .ref (n 21), .ref (n 22), .ref (n 23), .ref (n 24), .ref (n 25), .int 1, .int 0, .int 12, .int 0, .int 0, .int 0, .int 0, .int 1440, .ref (n 34), .ref (n 35), .int 0, .int 0, .int 0, .ref (n 39), .ref (n 40), .ref (n 41), .ref (n 42), .int 0, .int 0, .int 0])), (n 0, .inl (cI, 1600, .inl (fun _ => 0))), (n 2, .inl (cI, 10, .inl (fun _ => 0))), (n 3, .inl (cI, 10, .inl (fun _ => 0))), (n 4, .inl (cI, 10, .inl (fun _ => 0))), (n 5, .inl (cZ, 16000, .inl (fun _ => 0))), (n 6, .inl (cZ, 10, .inl (fun _ => 0))), (n 8, .inl (cI, 10, .inl fc)), (n 9, .inl (cI, 10, .inl (fun _ => 0))), (n 10, .inl (cI, 10, .inl (fun _ => 0))), (n 11, .inl (cI, 10, .inl (fun _ => 0))), (n 12, .inl (cI, 48, .inl (fun _ => 0))), (n 13, .inl (cI, 10, .inl (fun _ => 0))), (n 14, .inl (cI, 80, .inl (fun _ => 0))), (n 17, .inl (cI, 100, .inl (fun _ => 0))), (n 18, .inl (cI, 100, .inl (fun _ => 0))), (n 19, .inl (cI, 100, .inl (fun _ => 0))), (n 20, .inl (cI, 100, .inl (fun _ => 0))), (n 21, .inl (cI, 10, .inl (fun _ => 0))), (n 22, .inl (cI, 10, .inl (fun _ => 0))), (n 23, .inl (cI, 10, .inl (fun _ => 0))), (n 24, .inl (cI, 24, .inl (fun _ => 0))), (n 25, .inl (cI, 24, .inl (fun _ => 0))), (n 34, .inl (cI, 8, .inl (fun _ => 0))), (n 35, .inl (cI, 10240, .inl (fun _ => 0))), (n 39, .inl (cI, 10, .inl (fun _ => 0))), (n 40, .inl (cI, 10, .inl (fun _ => 0))), (n 41, .inl (cI, 1024, .inl (fun _ => 0))), (n 42, .inl (cI, 1024, .inl (fun _ => 0)))] H) (hD : va_D A [(q0, .inr (8, [.ref (a 1), .ref (a 2), .ref (a 3), .ref (a 4), .ref (a 5), .ref (a 6), .ref (a 7), .null, .int 0, .int 0, .int 0, .int 0])), (a 1, .inl (cI, 1600, .inl (fun _ => 0))), (a 2, .inl (cM, 10, .inr (.inr (.inr (.inr (fun _ => none)))))), (a 3, .inl (cI, 48, .inl (fun _ => 0))), (a 4, .inr (7, [.ref (a 8), .ref (a 9), .ref (a 10), .ref (a 11), .int 0])), (a 8, .inl (cI, 100, .inl (fun _ => 0))), (a 9, .inl (cI, 100, .inl (fun _ => 0))), (a 10, .inl (cI, 100, .inl (fun _ => 0))), (a 11, .inl (cI, 100, .inl (fun _ => 0))), (a 5, .inr (4, [.ref (a 12), .ref (a 13), .int 0, .int 0, .int 0, .int 1440, .int 1, .int 0, .int 12, .int 0])), (a 12, .inl (cI, 24, .inl (fun _ => 0))), (a 13, .inl (cI, 24, .inl (fun _ => 0))), (a 6, .inr (6, [.int 0, .int 0, .int 0, .int 0, .int 0, .int 0])), (a 7, .inr (3, [.ref (a 14), .int 0])), (a 14, .inl (cI, 8, .inl (fun _ => 0))), (q1, .inr (9, [.ref (n 0), .int 0, .ref (n 2), .ref (n 3), .ref (n 4), .ref (n 5), .ref (n 6), .int 0, .ref (n 8), .ref (n 9), .ref (n 10), .ref (n 11), .ref (n 12), .ref (n 13), .ref (n 14), .int 0, .int 0, .ref (n 17), .ref (n 18), .ref (n 19), .ref (n 20), .ref (n 21), .ref (n 22), .ref (n 23), .ref (n 24), .ref (n 25), .int 1, .int 0, .int 12, .int 0, .int 0, .int 0, .int 0, .int 1440, .ref (n 34), .ref (n 35), .int 0, .int 0, .int 0, .ref (n 39), .ref (n 40), .ref (n 41), .ref (n 42), .int 0, .int 0, .int 0])), (n 0, .inl (cI, 1600, .inl (fun _ => 0))), (n 2, .inl (cI, 10, .inl (fun _ => 0))), (n 3, .inl (cI, 10, .inl (fun _ => 0))), (n 4, .inl (cI, 10, .inl (fun _ => 0))), (n 5, .inl (cZ, 16000, .inl (fun _ => 0))), (n 6, .inl (cZ, 10, .inl (fun _ => 0))), (n 8, .inl (cI, 10, .inl fc)), (n 9, .inl (cI, 10, .inl (fun _ => 0))), (n 10, .inl (cI, 10, .inl (fun _ => 0))), (n 11, .inl (cI, 10, .inl (fun _ => 0))), (n 12, .inl (cI, 48, .inl (fun _ => 0))), (n 13, .inl (cI, 10, .inl (fun _ => 0))), (n 14, .inl (cI, 80, .inl (fun _ => 0))), (n 17, .inl (cI, 100, .inl (fun _ => 0))), (n 18, .inl (cI, 100, .inl (fun _ => 0))), (n 19, .inl (cI, 100, .inl (fun _ => 0))), (n 20, .inl (cI, 100, .inl (fun _ => 0))), (n 21, .inl (cI, 10, .inl (fun _ => 0))), (n 22, .inl (cI, 10, .inl (fun _ => 0))), (n 23, .inl (cI, 10, .inl (fun _ => 0))), (n 24, .inl (cI, 24, .inl (fun _ => 0))), (n 25, .inl (cI, 24, .inl (fun _ => 0))), (n 34, .inl (cI, 8, .inl (fun _ => 0))), (n 35, .inl (cI, 10240, .inl (fun _ => 0))), (n 39, .inl (cI, 10, .inl (fun _ => 0))), (n 40, .inl (cI, 10, .inl (fun _ => 0))), (n 41, .inl (cI, 1024, .inl (fun _ => 0))), (n 42, .inl (cI, 1024, .inl (fun _ => 0)))]) (hS : va_S A s.heap H locs) (hl : lv_has ls 4 [(3, .int 0), (2, .ref q1), (1, .ref q0), (0, .ref b)]) : W p l e room_1 s m #[Value.ref b] below meth c H locs 44 32807 (lw_Z below #[Value.ref b] s) (F0 m 731 ls []) := by
  obtain ⟨hx, hb, hr, hml, hown, hts0, hX, hbl, hlocks, hgv⟩ := id C0
  have hts := fun w h => hts0 w (wsL_law_in w h)
  have hbA : ¬ A b := fun h => Nat.not_le.mpr hbl (hA2 _ h)
  have hK := hG.1
  have hN := hG.2
  refine lv_aload_n hx hb dL_law_731 rfl (lv_at hl 2 rfl) ?_
  refine lv_aload_n hx hb dL_law_732 rfl (lv_at hl 3 rfl) ?_
  refine lv_iload_n hx hb dL_law_733 rfl (lv_at hl 0 rfl) ?_
  refine lv_iconst (v := 1) hx hb dL_law_734 (by decide) ?_
  refine lv_iadd hx hb dL_law_735 ?_
  refine lv_topi (fun z_1 ez_1 => ?_)
  obtain rfl : z_1 = 1 := ez_1.trans (by decide)
  refine va_sld hx hb hX hbl hbA hS (vp_in_nI (n := 1) (N := 7) (by decide) (by decide)) dL_law_736 ?_
  have hPc := hP.sub (ws' := [(q0, .inr (8, [.ref (a 1), .ref (a 2), .ref (a 3), .ref (a 4), .ref (a 5), .ref (a 6), .ref (a 7), .null, .int 0, .int 0, .int 0, .int 0])), (a 1, .inl (cI, 1600, .inl (fun _ => 0))), (a 2, .inl (cM, 10, .inr (.inr (.inr (.inr (fun _ => none)))))), (a 3, .inl (cI, 48, .inl (fun _ => 0))), (a 4, .inr (7, [.ref (a 8), .ref (a 9), .ref (a 10), .ref (a 11), .int 0])), (a 8, .inl (cI, 100, .inl (fun _ => 0))), (a 9, .inl (cI, 100, .inl (fun _ => 0))), (a 10, .inl (cI, 100, .inl (fun _ => 0))), (a 11, .inl (cI, 100, .inl (fun _ => 0))), (a 5, .inr (4, [.ref (a 12), .ref (a 13), .int 0, .int 0, .int 0, .int 1440, .int 1, .int 0, .int 12, .int 0])), (a 12, .inl (cI, 24, .inl (fun _ => 0))), (a 13, .inl (cI, 24, .inl (fun _ => 0))), (a 6, .inr (6, [.int 0, .int 0, .int 0, .int 0, .int 0, .int 0])), (a 7, .inr (3, [.ref (a 14), .int 0])), (a 14, .inl (cI, 8, .inl (fun _ => 0)))]) [0, 1, 2, 3, 4, 5, 6, 7, 8, 9, 10, 11, 12, 13, 14] rfl
  refine vp_callSi (va_Run.run (va_runV (As := [.int (xs (1 : Int32).toNatClampNeg)]) (rest := []) ⟨hx, hb, hml, hown, hts⟩ (k_X8_list l D cI cJ cZ cM q0 a (xs (1 : Int32).toNatClampNeg)) (cwV 1 hts gL_law_X8_list rfl rfl rfl (by decide +kernel) ⟨Nat.le_of_ble_eq_true rfl, Nat.le_of_ble_eq_true rfl⟩) (ro_V hG hPc (va_recv hK hPc (ci := 8) (q0 := 0) rfl rfl)) rfl rfl hl.1 rfl (lv_room (Nat.le_of_ble_eq_true rfl)) dL_law_737 ⟨Nat.le_of_ble_eq_true rfl, Nat.le_of_ble_eq_true rfl⟩)) (fun r_2 h_2 => ?_)
  rcases h_2 with ⟨rfl, h_2⟩ | ⟨rfl, h_2⟩
  · refine lv_aload_n hx hb dL_law_740 rfl (lv_at hl 1 rfl) ?_
    refine lv_aload_n hx hb dL_law_741 rfl (lv_at hl 3 rfl) ?_
    refine lv_iload_n hx hb dL_law_742 rfl (lv_at hl 0 rfl) ?_
    refine lv_iconst (v := 1) hx hb dL_law_743 (by decide) ?_
    refine lv_iadd hx hb dL_law_744 ?_
    refine lv_topi (fun z_3 ez_3 => ?_)
    obtain rfl : z_3 = 1 := ez_3.trans (by decide)
    refine va_sld hx hb hX hbl hbA hS (vp_in_nI (n := 1) (N := 7) (by decide) (by decide)) dL_law_745 ?_
    have hPc := hP.sub (ws' := [(q1, .inr (9, [.ref (n 0), .int 0, .ref (n 2), .ref (n 3), .ref (n 4), .ref (n 5), .ref (n 6), .int 0, .ref (n 8), .ref (n 9), .ref (n 10), .ref (n 11), .ref (n 12), .ref (n 13), .ref (n 14), .int 0, .int 0, .ref (n 17), .ref (n 18), .ref (n 19), .ref (n 20), .ref (n 21), .ref (n 22), .ref (n 23), .ref (n 24), .ref (n 25), .int 1, .int 0, .int 12, .int 0, .int 0, .int 0, .int 0, .int 1440, .ref (n 34), .ref (n 35), .int 0, .int 0, .int 0, .ref (n 39), .ref (n 40), .ref (n 41), .ref (n 42), .int 0, .int 0, .int 0]))]) [15] rfl
    refine vp_callSi (va_Run.run (va_runV (As := [.int (xs (1 : Int32).toNatClampNeg)]) (rest := [.int 0]) ⟨hx, hb, hml, hown, hts⟩ (k_X9_list l D cI cJ cZ cM q1 n (xs (1 : Int32).toNatClampNeg)) (cwV 1 hts gL_law_X9_list rfl rfl rfl (by decide +kernel) ⟨Nat.le_of_ble_eq_true rfl, Nat.le_of_ble_eq_true rfl⟩) (ro_V hG hPc (va_recv hK hPc (ci := 9) (q0 := 0) rfl rfl)) rfl rfl hl.1 rfl (lv_room (Nat.le_of_ble_eq_true rfl)) dL_law_746 ⟨Nat.le_of_ble_eq_true rfl, Nat.le_of_ble_eq_true rfl⟩)) (fun r_4 h_4 => ?_)
    rcases h_4 with ⟨rfl, h_4⟩ | ⟨rfl, h_4⟩
    · refine lv_icmp_eq (tgt := 1068) hx hb dL_law_749 (by decide) (fun _ => ?_) (fun c_5 => False.elim (by revert c_5; decide))
      exact law_end C0 hG hA hA2 hS (by decide) (by decide) (lv_sub hl [3, 0] rfl)
    exact absurd h_2 h_4
  refine lv_aload_n hx hb dL_law_740 rfl (lv_at hl 1 rfl) ?_
  refine lv_aload_n hx hb dL_law_741 rfl (lv_at hl 3 rfl) ?_
  refine lv_iload_n hx hb dL_law_742 rfl (lv_at hl 0 rfl) ?_
  refine lv_iconst (v := 1) hx hb dL_law_743 (by decide) ?_
  refine lv_iadd hx hb dL_law_744 ?_
  refine lv_topi (fun z_6 ez_6 => ?_)
  obtain rfl : z_6 = 1 := ez_6.trans (by decide)
  refine va_sld hx hb hX hbl hbA hS (vp_in_nI (n := 1) (N := 7) (by decide) (by decide)) dL_law_745 ?_
  have hPc := hP.sub (ws' := [(q1, .inr (9, [.ref (n 0), .int 0, .ref (n 2), .ref (n 3), .ref (n 4), .ref (n 5), .ref (n 6), .int 0, .ref (n 8), .ref (n 9), .ref (n 10), .ref (n 11), .ref (n 12), .ref (n 13), .ref (n 14), .int 0, .int 0, .ref (n 17), .ref (n 18), .ref (n 19), .ref (n 20), .ref (n 21), .ref (n 22), .ref (n 23), .ref (n 24), .ref (n 25), .int 1, .int 0, .int 12, .int 0, .int 0, .int 0, .int 0, .int 1440, .ref (n 34), .ref (n 35), .int 0, .int 0, .int 0, .ref (n 39), .ref (n 40), .ref (n 41), .ref (n 42), .int 0, .int 0, .int 0]))]) [15] rfl
  refine vp_callSi (va_Run.run (va_runV (As := [.int (xs (1 : Int32).toNatClampNeg)]) (rest := [.int (-1)]) ⟨hx, hb, hml, hown, hts⟩ (k_X9_list l D cI cJ cZ cM q1 n (xs (1 : Int32).toNatClampNeg)) (cwV 1 hts gL_law_X9_list rfl rfl rfl (by decide +kernel) ⟨Nat.le_of_ble_eq_true rfl, Nat.le_of_ble_eq_true rfl⟩) (ro_V hG hPc (va_recv hK hPc (ci := 9) (q0 := 0) rfl rfl)) rfl rfl hl.1 rfl (lv_room (Nat.le_of_ble_eq_true rfl)) dL_law_746 ⟨Nat.le_of_ble_eq_true rfl, Nat.le_of_ble_eq_true rfl⟩)) (fun r_7 h_7 => ?_)
  rcases h_7 with ⟨rfl, h_7⟩ | ⟨rfl, h_7⟩
  · exact absurd h_7 h_2
  refine lv_icmp_eq (tgt := 1068) hx hb dL_law_749 (by decide) (fun _ => ?_) (fun c_8 => False.elim (by revert c_8; decide))
  exact law_end C0 hG hA hA2 hS (by decide) (by decide) (lv_sub hl [3, 0] rfl)
set_option maxHeartbeats 4000000 in
set_option maxRecDepth 100000 in
/-- the call of listed, and the answers' likeness -/
theorem law_16 {p : Program} {l : Launch} {e : Env} {s : State} {m : MethodId} {below : List Frame} {meth : Method} {c : Code} {b : Nat} {xs : Nat → Int32} {D : va_G} {cI cJ cZ cM : Nat} {A : Nat → Prop} {q0 q1 : Nat} {a n : Nat → Nat} {fc : Nat → Int32} {H : Heap} {locs : List Loc} {ls : Array Slot} (C0 : lw_At p s m meth c b 7 xs) (hG : GK D cI cJ cZ cM s) (hA : ∀ q : Nat, s.heap.size ≤ q → A q) (hA2 : ∀ q : Nat, A q → s.heap.size ≤ q) (hP : va_P D vwCl [(q0, .inr (8, [.ref (a 1), .ref (a 2), .ref (a 3), .ref (a 4), .ref (a 5), .ref (a 6), .ref (a 7), .null, .int 0, .int 0, .int 0, .int 0])), (a 1, .inl (cI, 1600, .inl (fun _ => 0))), (a 2, .inl (cM, 10, .inr (.inr (.inr (.inr (fun _ => none)))))), (a 3, .inl (cI, 48, .inl (fun _ => 0))), (a 4, .inr (7, [.ref (a 8), .ref (a 9), .ref (a 10), .ref (a 11), .int 0])), (a 8, .inl (cI, 100, .inl (fun _ => 0))), (a 9, .inl (cI, 100, .inl (fun _ => 0))), (a 10, .inl (cI, 100, .inl (fun _ => 0))), (a 11, .inl (cI, 100, .inl (fun _ => 0))), (a 5, .inr (4, [.ref (a 12), .ref (a 13), .int 0, .int 0, .int 0, .int 1440, .int 1, .int 0, .int 12, .int 0])), (a 12, .inl (cI, 24, .inl (fun _ => 0))), (a 13, .inl (cI, 24, .inl (fun _ => 0))), (a 6, .inr (6, [.int 0, .int 0, .int 0, .int 0, .int 0, .int 0])), (a 7, .inr (3, [.ref (a 14), .int 0])), (a 14, .inl (cI, 8, .inl (fun _ => 0))), (q1, .inr (9, [.ref (n 0), .int 0, .ref (n 2), .ref (n 3), .ref (n 4), .ref (n 5), .ref (n 6), .int 0, .ref (n 8), .ref (n 9), .ref (n 10), .ref (n 11), .ref (n 12), .ref (n 13), .ref (n 14), .int 0, .int 0, .ref (n 17), .ref (n 18), .ref (n 19), .ref (n 20), .ref (n 21), .ref (n 22), .ref (n 23), .ref (n 24), .ref (n 25), .int 1, .int 0, .int 12, .int 0, .int 0, .int 0, .int 0, .int 1440, .ref (n 34), .ref (n 35), .int 0, .int 0, .int 0, .ref (n 39), .ref (n 40), .ref (n 41), .ref (n 42), .int 0, .int 0, .int 0])), (n 0, .inl (cI, 1600, .inl (fun _ => 0))), (n 2, .inl (cI, 10, .inl (fun _ => 0))), (n 3, .inl (cI, 10, .inl (fun _ => 0))), (n 4, .inl (cI, 10, .inl (fun _ => 0))), (n 5, .inl (cZ, 16000, .inl (fun _ => 0))), (n 6, .inl (cZ, 10, .inl (fun _ => 0))), (n 8, .inl (cI, 10, .inl fc)), (n 9, .inl (cI, 10, .inl (fun _ => 0))), (n 10, .inl (cI, 10, .inl (fun _ => 0))), (n 11, .inl (cI, 10, .inl (fun _ => 0))), (n 12, .inl (cI, 48, .inl (fun _ => 0))), (n 13, .inl (cI, 10, .inl (fun _ => 0))), (n 14, .inl (cI, 80, .inl (fun _ => 0))), (n 17, .inl (cI, 100, .inl (fun _ => 0))), (n 18, .inl (cI, 100, .inl (fun _ => 0))), (n 19, .inl (cI, 100, .inl (fun _ => 0))), (n 20, .inl (cI, 100, .inl (fun _ => 0))), (n 21, .inl (cI, 10, .inl (fun _ => 0))), (n 22, .inl (cI, 10, .inl (fun _ => 0))), (n 23, .inl (cI, 10, .inl (fun _ => 0))), (n 24, .inl (cI, 24, .inl (fun _ => 0))), (n 25, .inl (cI, 24, .inl (fun _ => 0))), (n 34, .inl (cI, 8, .inl (fun _ => 0))), (n 35, .inl (cI, 10240, .inl (fun _ => 0))), (n 39, .inl (cI, 10, .inl (fun _ => 0))), (n 40, .inl (cI, 10, .inl (fun _ => 0))), (n 41, .inl (cI, 1024, .inl (fun _ => 0))), (n 42, .inl (cI, 1024, .inl (fun _ => 0)))] H) (hD : va_D A [(q0, .inr (8, [.ref (a 1), .ref (a 2), .ref (a 3), .ref (a 4), .ref (a 5), .ref (a 6), .ref (a 7), .null, .int 0, .int 0, .int 0, .int 0])), (a 1, .inl (cI, 1600, .inl (fun _ => 0))), (a 2, .inl (cM, 10, .inr (.inr (.inr (.inr (fun _ => none)))))), (a 3, .inl (cI, 48, .inl (fun _ => 0))), (a 4, .inr (7, [.ref (a 8), .ref (a 9), .ref (a 10), .ref (a 11), .int 0])), (a 8, .inl (cI, 100, .inl (fun _ => 0))), (a 9, .inl (cI, 100, .inl (fun _ => 0))), (a 10, .inl (cI, 100, .inl (fun _ => 0))), (a 11, .inl (cI, 100, .inl (fun _ => 0))), (a 5, .inr (4, [.ref (a 12), .ref (a 13), .int 0, .int 0, .int 0, .int 1440, .int 1, .int 0, .int 12, .int 0])), (a 12, .inl (cI, 24, .inl (fun _ => 0))), (a 13, .inl (cI, 24, .inl (fun _ => 0))), (a 6, .inr (6, [.int 0, .int 0, .int 0, .int 0, .int 0, .int 0])), (a 7, .inr (3, [.ref (a 14), .int 0])), (a 14, .inl (cI, 8, .inl (fun _ => 0))), (q1, .inr (9, [.ref (n 0), .int 0, .ref (n 2), .ref (n 3), .ref (n 4), .ref (n 5), .ref (n 6), .int 0, .ref (n 8), .ref (n 9), .ref (n 10), .ref (n 11), .ref (n 12), .ref (n 13), .ref (n 14), .int 0, .int 0, .ref (n 17), .ref (n 18), .ref (n 19), .ref (n 20), .ref (n 21), .ref (n 22), .ref (n 23), .ref (n 24), .ref (n 25), .int 1, .int 0, .int 12, .int 0, .int 0, .int 0, .int 0, .int 1440, .ref (n 34), .ref (n 35), .int 0, .int 0, .int 0, .ref (n 39), .ref (n 40), .ref (n 41), .ref (n 42), .int 0, .int 0, .int 0])), (n 0, .inl (cI, 1600, .inl (fun _ => 0))), (n 2, .inl (cI, 10, .inl (fun _ => 0))), (n 3, .inl (cI, 10, .inl (fun _ => 0))), (n 4, .inl (cI, 10, .inl (fun _ => 0))), (n 5, .inl (cZ, 16000, .inl (fun _ => 0))), (n 6, .inl (cZ, 10, .inl (fun _ => 0))), (n 8, .inl (cI, 10, .inl fc)), (n 9, .inl (cI, 10, .inl (fun _ => 0))), (n 10, .inl (cI, 10, .inl (fun _ => 0))), (n 11, .inl (cI, 10, .inl (fun _ => 0))), (n 12, .inl (cI, 48, .inl (fun _ => 0))), (n 13, .inl (cI, 10, .inl (fun _ => 0))), (n 14, .inl (cI, 80, .inl (fun _ => 0))), (n 17, .inl (cI, 100, .inl (fun _ => 0))), (n 18, .inl (cI, 100, .inl (fun _ => 0))), (n 19, .inl (cI, 100, .inl (fun _ => 0))), (n 20, .inl (cI, 100, .inl (fun _ => 0))), (n 21, .inl (cI, 10, .inl (fun _ => 0))), (n 22, .inl (cI, 10, .inl (fun _ => 0))), (n 23, .inl (cI, 10, .inl (fun _ => 0))), (n 24, .inl (cI, 24, .inl (fun _ => 0))), (n 25, .inl (cI, 24, .inl (fun _ => 0))), (n 34, .inl (cI, 8, .inl (fun _ => 0))), (n 35, .inl (cI, 10240, .inl (fun _ => 0))), (n 39, .inl (cI, 10, .inl (fun _ => 0))), (n 40, .inl (cI, 10, .inl (fun _ => 0))), (n 41, .inl (cI, 1024, .inl (fun _ => 0))), (n 42, .inl (cI, 1024, .inl (fun _ => 0)))]) (hS : va_S A s.heap H locs) (hl : lv_has ls 4 [(3, .int 0), (2, .ref q1), (1, .ref q0), (0, .ref b)]) : W p l e room_1 s m #[Value.ref b] below meth c H locs 44 32807 (lw_Z below #[Value.ref b] s) (F0 m 754 ls []) := by
  obtain ⟨hx, hb, hr, hml, hown, hts0, hX, hbl, hlocks, hgv⟩ := id C0
  have hts := fun w h => hts0 w (wsL_law_in w h)
  have hbA : ¬ A b := fun h => Nat.not_le.mpr hbl (hA2 _ h)
  have hK := hG.1
  have hN := hG.2
  refine lv_aload_n hx hb dL_law_754 rfl (lv_at hl 2 rfl) ?_
  refine lv_aload_n hx hb dL_law_755 rfl (lv_at hl 3 rfl) ?_
  refine lv_iload_n hx hb dL_law_756 rfl (lv_at hl 0 rfl) ?_
  refine lv_iconst (v := 1) hx hb dL_law_757 (by decide) ?_
  refine lv_iadd hx hb dL_law_758 ?_
  refine lv_topi (fun z_1 ez_1 => ?_)
  obtain rfl : z_1 = 1 := ez_1.trans (by decide)
  refine va_sld hx hb hX hbl hbA hS (vp_in_nI (n := 1) (N := 7) (by decide) (by decide)) dL_law_759 ?_
  refine lv_aload_n hx hb dL_law_760 rfl (lv_at hl 3 rfl) ?_
  refine lv_iload_n hx hb dL_law_761 rfl (lv_at hl 0 rfl) ?_
  refine lv_iconst (v := 2) hx hb dL_law_762 (by decide) ?_
  refine lv_iadd hx hb dL_law_763 ?_
  refine lv_topi (fun z_2 ez_2 => ?_)
  obtain rfl : z_2 = 2 := ez_2.trans (by decide)
  refine va_sld hx hb hX hbl hbA hS (vp_in_nI (n := 2) (N := 7) (by decide) (by decide)) dL_law_764 ?_
  have hPc := hP.sub (ws' := [(q0, .inr (8, [.ref (a 1), .ref (a 2), .ref (a 3), .ref (a 4), .ref (a 5), .ref (a 6), .ref (a 7), .null, .int 0, .int 0, .int 0, .int 0])), (a 1, .inl (cI, 1600, .inl (fun _ => 0))), (a 2, .inl (cM, 10, .inr (.inr (.inr (.inr (fun _ => none)))))), (a 3, .inl (cI, 48, .inl (fun _ => 0))), (a 4, .inr (7, [.ref (a 8), .ref (a 9), .ref (a 10), .ref (a 11), .int 0])), (a 8, .inl (cI, 100, .inl (fun _ => 0))), (a 9, .inl (cI, 100, .inl (fun _ => 0))), (a 10, .inl (cI, 100, .inl (fun _ => 0))), (a 11, .inl (cI, 100, .inl (fun _ => 0))), (a 5, .inr (4, [.ref (a 12), .ref (a 13), .int 0, .int 0, .int 0, .int 1440, .int 1, .int 0, .int 12, .int 0])), (a 12, .inl (cI, 24, .inl (fun _ => 0))), (a 13, .inl (cI, 24, .inl (fun _ => 0))), (a 6, .inr (6, [.int 0, .int 0, .int 0, .int 0, .int 0, .int 0])), (a 7, .inr (3, [.ref (a 14), .int 0])), (a 14, .inl (cI, 8, .inl (fun _ => 0)))]) [0, 1, 2, 3, 4, 5, 6, 7, 8, 9, 10, 11, 12, 13, 14] rfl
  refine vp_callSi (va_Run.run (va_runV (As := [.int (xs (1 : Int32).toNatClampNeg), .int (xs (2 : Int32).toNatClampNeg)]) (rest := []) ⟨hx, hb, hml, hown, hts⟩ (k_X8_listed l D cI cJ cZ cM q0 a (xs (1 : Int32).toNatClampNeg) (xs (2 : Int32).toNatClampNeg)) (cwV 2 hts gL_law_X8_listed rfl rfl rfl (by decide +kernel) ⟨Nat.le_of_ble_eq_true rfl, Nat.le_of_ble_eq_true rfl⟩) (ro_V hG hPc (va_recv hK hPc (ci := 8) (q0 := 0) rfl rfl)) rfl rfl hl.1 rfl (lv_room (Nat.le_of_ble_eq_true rfl)) dL_law_765 ⟨Nat.le_of_ble_eq_true rfl, Nat.le_of_ble_eq_true rfl⟩)) (fun r_3 h_3 => ?_)
  obtain rfl : r_3 = (-1) := h_3
  refine lv_aload_n hx hb dL_law_768 rfl (lv_at hl 1 rfl) ?_
  refine lv_aload_n hx hb dL_law_769 rfl (lv_at hl 3 rfl) ?_
  refine lv_iload_n hx hb dL_law_770 rfl (lv_at hl 0 rfl) ?_
  refine lv_iconst (v := 1) hx hb dL_law_771 (by decide) ?_
  refine lv_iadd hx hb dL_law_772 ?_
  refine lv_topi (fun z_4 ez_4 => ?_)
  obtain rfl : z_4 = 1 := ez_4.trans (by decide)
  refine va_sld hx hb hX hbl hbA hS (vp_in_nI (n := 1) (N := 7) (by decide) (by decide)) dL_law_773 ?_
  refine lv_aload_n hx hb dL_law_774 rfl (lv_at hl 3 rfl) ?_
  refine lv_iload_n hx hb dL_law_775 rfl (lv_at hl 0 rfl) ?_
  refine lv_iconst (v := 2) hx hb dL_law_776 (by decide) ?_
  refine lv_iadd hx hb dL_law_777 ?_
  refine lv_topi (fun z_5 ez_5 => ?_)
  obtain rfl : z_5 = 2 := ez_5.trans (by decide)
  refine va_sld hx hb hX hbl hbA hS (vp_in_nI (n := 2) (N := 7) (by decide) (by decide)) dL_law_778 ?_
  have hPc := hP.sub (ws' := [(q1, .inr (9, [.ref (n 0), .int 0, .ref (n 2), .ref (n 3), .ref (n 4), .ref (n 5), .ref (n 6), .int 0, .ref (n 8), .ref (n 9), .ref (n 10), .ref (n 11), .ref (n 12), .ref (n 13), .ref (n 14), .int 0, .int 0, .ref (n 17), .ref (n 18), .ref (n 19), .ref (n 20), .ref (n 21), .ref (n 22), .ref (n 23), .ref (n 24), .ref (n 25), .int 1, .int 0, .int 12, .int 0, .int 0, .int 0, .int 0, .int 1440, .ref (n 34), .ref (n 35), .int 0, .int 0, .int 0, .ref (n 39), .ref (n 40), .ref (n 41), .ref (n 42), .int 0, .int 0, .int 0]))]) [15] rfl
  refine vp_callSi (va_Run.run (va_runV (As := [.int (xs (1 : Int32).toNatClampNeg), .int (xs (2 : Int32).toNatClampNeg)]) (rest := [.int (-1)]) ⟨hx, hb, hml, hown, hts⟩ (k_X9_listed l D cI cJ cZ cM q1 n (xs (1 : Int32).toNatClampNeg) (xs (2 : Int32).toNatClampNeg)) (cwV 2 hts gL_law_X9_listed rfl rfl rfl (by decide +kernel) ⟨Nat.le_of_ble_eq_true rfl, Nat.le_of_ble_eq_true rfl⟩) (ro_V hG hPc (va_recv hK hPc (ci := 9) (q0 := 0) rfl rfl)) rfl rfl hl.1 rfl (lv_room (Nat.le_of_ble_eq_true rfl)) dL_law_779 ⟨Nat.le_of_ble_eq_true rfl, Nat.le_of_ble_eq_true rfl⟩)) (fun r_6 h_6 => ?_)
  obtain rfl : r_6 = (-1) := h_6
  refine lv_icmp_eq (tgt := 1068) hx hb dL_law_782 (by decide) (fun _ => ?_) (fun c_7 => False.elim (by revert c_7; decide))
  exact law_end C0 hG hA hA2 hS (by decide) (by decide) (lv_sub hl [3, 0] rfl)
set_option maxHeartbeats 4000000 in
set_option maxRecDepth 100000 in
/-- the call of warning, and the answers' likeness -/
theorem law_17 {p : Program} {l : Launch} {e : Env} {s : State} {m : MethodId} {below : List Frame} {meth : Method} {c : Code} {b : Nat} {xs : Nat → Int32} {D : va_G} {cI cJ cZ cM : Nat} {A : Nat → Prop} {q0 q1 : Nat} {a n : Nat → Nat} {fc : Nat → Int32} {H : Heap} {locs : List Loc} {ls : Array Slot} (C0 : lw_At p s m meth c b 7 xs) (hG : GK D cI cJ cZ cM s) (hA : ∀ q : Nat, s.heap.size ≤ q → A q) (hA2 : ∀ q : Nat, A q → s.heap.size ≤ q) (hP : va_P D vwCl [(q0, .inr (8, [.ref (a 1), .ref (a 2), .ref (a 3), .ref (a 4), .ref (a 5), .ref (a 6), .ref (a 7), .null, .int 0, .int 0, .int 0, .int 0])), (a 1, .inl (cI, 1600, .inl (fun _ => 0))), (a 2, .inl (cM, 10, .inr (.inr (.inr (.inr (fun _ => none)))))), (a 3, .inl (cI, 48, .inl (fun _ => 0))), (a 4, .inr (7, [.ref (a 8), .ref (a 9), .ref (a 10), .ref (a 11), .int 0])), (a 8, .inl (cI, 100, .inl (fun _ => 0))), (a 9, .inl (cI, 100, .inl (fun _ => 0))), (a 10, .inl (cI, 100, .inl (fun _ => 0))), (a 11, .inl (cI, 100, .inl (fun _ => 0))), (a 5, .inr (4, [.ref (a 12), .ref (a 13), .int 0, .int 0, .int 0, .int 1440, .int 1, .int 0, .int 12, .int 0])), (a 12, .inl (cI, 24, .inl (fun _ => 0))), (a 13, .inl (cI, 24, .inl (fun _ => 0))), (a 6, .inr (6, [.int 0, .int 0, .int 0, .int 0, .int 0, .int 0])), (a 7, .inr (3, [.ref (a 14), .int 0])), (a 14, .inl (cI, 8, .inl (fun _ => 0))), (q1, .inr (9, [.ref (n 0), .int 0, .ref (n 2), .ref (n 3), .ref (n 4), .ref (n 5), .ref (n 6), .int 0, .ref (n 8), .ref (n 9), .ref (n 10), .ref (n 11), .ref (n 12), .ref (n 13), .ref (n 14), .int 0, .int 0, .ref (n 17), .ref (n 18), .ref (n 19), .ref (n 20), .ref (n 21), .ref (n 22), .ref (n 23), .ref (n 24), .ref (n 25), .int 1, .int 0, .int 12, .int 0, .int 0, .int 0, .int 0, .int 1440, .ref (n 34), .ref (n 35), .int 0, .int 0, .int 0, .ref (n 39), .ref (n 40), .ref (n 41), .ref (n 42), .int 0, .int 0, .int 0])), (n 0, .inl (cI, 1600, .inl (fun _ => 0))), (n 2, .inl (cI, 10, .inl (fun _ => 0))), (n 3, .inl (cI, 10, .inl (fun _ => 0))), (n 4, .inl (cI, 10, .inl (fun _ => 0))), (n 5, .inl (cZ, 16000, .inl (fun _ => 0))), (n 6, .inl (cZ, 10, .inl (fun _ => 0))), (n 8, .inl (cI, 10, .inl fc)), (n 9, .inl (cI, 10, .inl (fun _ => 0))), (n 10, .inl (cI, 10, .inl (fun _ => 0))), (n 11, .inl (cI, 10, .inl (fun _ => 0))), (n 12, .inl (cI, 48, .inl (fun _ => 0))), (n 13, .inl (cI, 10, .inl (fun _ => 0))), (n 14, .inl (cI, 80, .inl (fun _ => 0))), (n 17, .inl (cI, 100, .inl (fun _ => 0))), (n 18, .inl (cI, 100, .inl (fun _ => 0))), (n 19, .inl (cI, 100, .inl (fun _ => 0))), (n 20, .inl (cI, 100, .inl (fun _ => 0))), (n 21, .inl (cI, 10, .inl (fun _ => 0))), (n 22, .inl (cI, 10, .inl (fun _ => 0))), (n 23, .inl (cI, 10, .inl (fun _ => 0))), (n 24, .inl (cI, 24, .inl (fun _ => 0))), (n 25, .inl (cI, 24, .inl (fun _ => 0))), (n 34, .inl (cI, 8, .inl (fun _ => 0))), (n 35, .inl (cI, 10240, .inl (fun _ => 0))), (n 39, .inl (cI, 10, .inl (fun _ => 0))), (n 40, .inl (cI, 10, .inl (fun _ => 0))), (n 41, .inl (cI, 1024, .inl (fun _ => 0))), (n 42, .inl (cI, 1024, .inl (fun _ => 0)))] H) (hD : va_D A [(q0, .inr (8, [.ref (a 1), .ref (a 2), .ref (a 3), .ref (a 4), .ref (a 5), .ref (a 6), .ref (a 7), .null, .int 0, .int 0, .int 0, .int 0])), (a 1, .inl (cI, 1600, .inl (fun _ => 0))), (a 2, .inl (cM, 10, .inr (.inr (.inr (.inr (fun _ => none)))))), (a 3, .inl (cI, 48, .inl (fun _ => 0))), (a 4, .inr (7, [.ref (a 8), .ref (a 9), .ref (a 10), .ref (a 11), .int 0])), (a 8, .inl (cI, 100, .inl (fun _ => 0))), (a 9, .inl (cI, 100, .inl (fun _ => 0))), (a 10, .inl (cI, 100, .inl (fun _ => 0))), (a 11, .inl (cI, 100, .inl (fun _ => 0))), (a 5, .inr (4, [.ref (a 12), .ref (a 13), .int 0, .int 0, .int 0, .int 1440, .int 1, .int 0, .int 12, .int 0])), (a 12, .inl (cI, 24, .inl (fun _ => 0))), (a 13, .inl (cI, 24, .inl (fun _ => 0))), (a 6, .inr (6, [.int 0, .int 0, .int 0, .int 0, .int 0, .int 0])), (a 7, .inr (3, [.ref (a 14), .int 0])), (a 14, .inl (cI, 8, .inl (fun _ => 0))), (q1, .inr (9, [.ref (n 0), .int 0, .ref (n 2), .ref (n 3), .ref (n 4), .ref (n 5), .ref (n 6), .int 0, .ref (n 8), .ref (n 9), .ref (n 10), .ref (n 11), .ref (n 12), .ref (n 13), .ref (n 14), .int 0, .int 0, .ref (n 17), .ref (n 18), .ref (n 19), .ref (n 20), .ref (n 21), .ref (n 22), .ref (n 23), .ref (n 24), .ref (n 25), .int 1, .int 0, .int 12, .int 0, .int 0, .int 0, .int 0, .int 1440, .ref (n 34), .ref (n 35), .int 0, .int 0, .int 0, .ref (n 39), .ref (n 40), .ref (n 41), .ref (n 42), .int 0, .int 0, .int 0])), (n 0, .inl (cI, 1600, .inl (fun _ => 0))), (n 2, .inl (cI, 10, .inl (fun _ => 0))), (n 3, .inl (cI, 10, .inl (fun _ => 0))), (n 4, .inl (cI, 10, .inl (fun _ => 0))), (n 5, .inl (cZ, 16000, .inl (fun _ => 0))), (n 6, .inl (cZ, 10, .inl (fun _ => 0))), (n 8, .inl (cI, 10, .inl fc)), (n 9, .inl (cI, 10, .inl (fun _ => 0))), (n 10, .inl (cI, 10, .inl (fun _ => 0))), (n 11, .inl (cI, 10, .inl (fun _ => 0))), (n 12, .inl (cI, 48, .inl (fun _ => 0))), (n 13, .inl (cI, 10, .inl (fun _ => 0))), (n 14, .inl (cI, 80, .inl (fun _ => 0))), (n 17, .inl (cI, 100, .inl (fun _ => 0))), (n 18, .inl (cI, 100, .inl (fun _ => 0))), (n 19, .inl (cI, 100, .inl (fun _ => 0))), (n 20, .inl (cI, 100, .inl (fun _ => 0))), (n 21, .inl (cI, 10, .inl (fun _ => 0))), (n 22, .inl (cI, 10, .inl (fun _ => 0))), (n 23, .inl (cI, 10, .inl (fun _ => 0))), (n 24, .inl (cI, 24, .inl (fun _ => 0))), (n 25, .inl (cI, 24, .inl (fun _ => 0))), (n 34, .inl (cI, 8, .inl (fun _ => 0))), (n 35, .inl (cI, 10240, .inl (fun _ => 0))), (n 39, .inl (cI, 10, .inl (fun _ => 0))), (n 40, .inl (cI, 10, .inl (fun _ => 0))), (n 41, .inl (cI, 1024, .inl (fun _ => 0))), (n 42, .inl (cI, 1024, .inl (fun _ => 0)))]) (hS : va_S A s.heap H locs) (hl : lv_has ls 4 [(3, .int 0), (2, .ref q1), (1, .ref q0), (0, .ref b)]) : W p l e room_1 s m #[Value.ref b] below meth c H locs 44 32807 (lw_Z below #[Value.ref b] s) (F0 m 787 ls []) := by
  obtain ⟨hx, hb, hr, hml, hown, hts0, hX, hbl, hlocks, hgv⟩ := id C0
  have hts := fun w h => hts0 w (wsL_law_in w h)
  have hbA : ¬ A b := fun h => Nat.not_le.mpr hbl (hA2 _ h)
  have hK := hG.1
  have hN := hG.2
  refine lv_aload_n hx hb dL_law_787 rfl (lv_at hl 2 rfl) ?_
  refine lv_aload_n hx hb dL_law_788 rfl (lv_at hl 3 rfl) ?_
  refine lv_iload_n hx hb dL_law_789 rfl (lv_at hl 0 rfl) ?_
  refine lv_iconst (v := 1) hx hb dL_law_790 (by decide) ?_
  refine lv_iadd hx hb dL_law_791 ?_
  refine lv_topi (fun z_1 ez_1 => ?_)
  obtain rfl : z_1 = 1 := ez_1.trans (by decide)
  refine va_sld hx hb hX hbl hbA hS (vp_in_nI (n := 1) (N := 7) (by decide) (by decide)) dL_law_792 ?_
  refine lv_aload_n hx hb dL_law_793 rfl (lv_at hl 3 rfl) ?_
  refine lv_iload_n hx hb dL_law_794 rfl (lv_at hl 0 rfl) ?_
  refine lv_iconst (v := 2) hx hb dL_law_795 (by decide) ?_
  refine lv_iadd hx hb dL_law_796 ?_
  refine lv_topi (fun z_2 ez_2 => ?_)
  obtain rfl : z_2 = 2 := ez_2.trans (by decide)
  refine va_sld hx hb hX hbl hbA hS (vp_in_nI (n := 2) (N := 7) (by decide) (by decide)) dL_law_797 ?_
  have hPc := hP.sub (ws' := [(q0, .inr (8, [.ref (a 1), .ref (a 2), .ref (a 3), .ref (a 4), .ref (a 5), .ref (a 6), .ref (a 7), .null, .int 0, .int 0, .int 0, .int 0])), (a 1, .inl (cI, 1600, .inl (fun _ => 0))), (a 2, .inl (cM, 10, .inr (.inr (.inr (.inr (fun _ => none)))))), (a 3, .inl (cI, 48, .inl (fun _ => 0))), (a 4, .inr (7, [.ref (a 8), .ref (a 9), .ref (a 10), .ref (a 11), .int 0])), (a 8, .inl (cI, 100, .inl (fun _ => 0))), (a 9, .inl (cI, 100, .inl (fun _ => 0))), (a 10, .inl (cI, 100, .inl (fun _ => 0))), (a 11, .inl (cI, 100, .inl (fun _ => 0))), (a 5, .inr (4, [.ref (a 12), .ref (a 13), .int 0, .int 0, .int 0, .int 1440, .int 1, .int 0, .int 12, .int 0])), (a 12, .inl (cI, 24, .inl (fun _ => 0))), (a 13, .inl (cI, 24, .inl (fun _ => 0))), (a 6, .inr (6, [.int 0, .int 0, .int 0, .int 0, .int 0, .int 0])), (a 7, .inr (3, [.ref (a 14), .int 0])), (a 14, .inl (cI, 8, .inl (fun _ => 0)))]) [0, 1, 2, 3, 4, 5, 6, 7, 8, 9, 10, 11, 12, 13, 14] rfl
  refine vp_callSi (va_Run.run (va_runV (As := [.int (xs (1 : Int32).toNatClampNeg), .int (xs (2 : Int32).toNatClampNeg)]) (rest := []) ⟨hx, hb, hml, hown, hts⟩ (k_X8_warning l D cI cJ cZ cM q0 a (xs (1 : Int32).toNatClampNeg) (xs (2 : Int32).toNatClampNeg)) (cwV 2 hts gL_law_X8_warning rfl rfl rfl (by decide +kernel) ⟨Nat.le_of_ble_eq_true rfl, Nat.le_of_ble_eq_true rfl⟩) (ro_V hG hPc (va_recv hK hPc (ci := 8) (q0 := 0) rfl rfl)) rfl rfl hl.1 rfl (lv_room (Nat.le_of_ble_eq_true rfl)) dL_law_798 ⟨Nat.le_of_ble_eq_true rfl, Nat.le_of_ble_eq_true rfl⟩)) (fun r_3 h_3 => ?_)
  obtain rfl : r_3 = (-1) := h_3
  refine lv_aload_n hx hb dL_law_801 rfl (lv_at hl 1 rfl) ?_
  refine lv_aload_n hx hb dL_law_802 rfl (lv_at hl 3 rfl) ?_
  refine lv_iload_n hx hb dL_law_803 rfl (lv_at hl 0 rfl) ?_
  refine lv_iconst (v := 1) hx hb dL_law_804 (by decide) ?_
  refine lv_iadd hx hb dL_law_805 ?_
  refine lv_topi (fun z_4 ez_4 => ?_)
  obtain rfl : z_4 = 1 := ez_4.trans (by decide)
  refine va_sld hx hb hX hbl hbA hS (vp_in_nI (n := 1) (N := 7) (by decide) (by decide)) dL_law_806 ?_
  refine lv_aload_n hx hb dL_law_807 rfl (lv_at hl 3 rfl) ?_
  refine lv_iload_n hx hb dL_law_808 rfl (lv_at hl 0 rfl) ?_
  refine lv_iconst (v := 2) hx hb dL_law_809 (by decide) ?_
  refine lv_iadd hx hb dL_law_810 ?_
  refine lv_topi (fun z_5 ez_5 => ?_)
  obtain rfl : z_5 = 2 := ez_5.trans (by decide)
  refine va_sld hx hb hX hbl hbA hS (vp_in_nI (n := 2) (N := 7) (by decide) (by decide)) dL_law_811 ?_
  have hPc := hP.sub (ws' := [(q1, .inr (9, [.ref (n 0), .int 0, .ref (n 2), .ref (n 3), .ref (n 4), .ref (n 5), .ref (n 6), .int 0, .ref (n 8), .ref (n 9), .ref (n 10), .ref (n 11), .ref (n 12), .ref (n 13), .ref (n 14), .int 0, .int 0, .ref (n 17), .ref (n 18), .ref (n 19), .ref (n 20), .ref (n 21), .ref (n 22), .ref (n 23), .ref (n 24), .ref (n 25), .int 1, .int 0, .int 12, .int 0, .int 0, .int 0, .int 0, .int 1440, .ref (n 34), .ref (n 35), .int 0, .int 0, .int 0, .ref (n 39), .ref (n 40), .ref (n 41), .ref (n 42), .int 0, .int 0, .int 0]))]) [15] rfl
  refine vp_callSi (va_Run.run (va_runV (As := [.int (xs (1 : Int32).toNatClampNeg), .int (xs (2 : Int32).toNatClampNeg)]) (rest := [.int (-1)]) ⟨hx, hb, hml, hown, hts⟩ (k_X9_warning l D cI cJ cZ cM q1 n (xs (1 : Int32).toNatClampNeg) (xs (2 : Int32).toNatClampNeg)) (cwV 2 hts gL_law_X9_warning rfl rfl rfl (by decide +kernel) ⟨Nat.le_of_ble_eq_true rfl, Nat.le_of_ble_eq_true rfl⟩) (ro_V hG hPc (va_recv hK hPc (ci := 9) (q0 := 0) rfl rfl)) rfl rfl hl.1 rfl (lv_room (Nat.le_of_ble_eq_true rfl)) dL_law_812 ⟨Nat.le_of_ble_eq_true rfl, Nat.le_of_ble_eq_true rfl⟩)) (fun r_6 h_6 => ?_)
  obtain rfl : r_6 = (-1) := h_6
  refine lv_icmp_eq (tgt := 1068) hx hb dL_law_815 (by decide) (fun _ => ?_) (fun c_7 => False.elim (by revert c_7; decide))
  exact law_end C0 hG hA hA2 hS (by decide) (by decide) (lv_sub hl [3, 0] rfl)
set_option maxHeartbeats 4000000 in
set_option maxRecDepth 100000 in
/-- the call of job, and the answers' likeness -/
theorem law_18 {p : Program} {l : Launch} {e : Env} {s : State} {m : MethodId} {below : List Frame} {meth : Method} {c : Code} {b : Nat} {xs : Nat → Int32} {D : va_G} {cI cJ cZ cM : Nat} {A : Nat → Prop} {q0 q1 : Nat} {a n : Nat → Nat} {fc : Nat → Int32} {H : Heap} {locs : List Loc} {ls : Array Slot} (C0 : lw_At p s m meth c b 7 xs) (hG : GK D cI cJ cZ cM s) (hA : ∀ q : Nat, s.heap.size ≤ q → A q) (hA2 : ∀ q : Nat, A q → s.heap.size ≤ q) (hP : va_P D vwCl [(q0, .inr (8, [.ref (a 1), .ref (a 2), .ref (a 3), .ref (a 4), .ref (a 5), .ref (a 6), .ref (a 7), .null, .int 0, .int 0, .int 0, .int 0])), (a 1, .inl (cI, 1600, .inl (fun _ => 0))), (a 2, .inl (cM, 10, .inr (.inr (.inr (.inr (fun _ => none)))))), (a 3, .inl (cI, 48, .inl (fun _ => 0))), (a 4, .inr (7, [.ref (a 8), .ref (a 9), .ref (a 10), .ref (a 11), .int 0])), (a 8, .inl (cI, 100, .inl (fun _ => 0))), (a 9, .inl (cI, 100, .inl (fun _ => 0))), (a 10, .inl (cI, 100, .inl (fun _ => 0))), (a 11, .inl (cI, 100, .inl (fun _ => 0))), (a 5, .inr (4, [.ref (a 12), .ref (a 13), .int 0, .int 0, .int 0, .int 1440, .int 1, .int 0, .int 12, .int 0])), (a 12, .inl (cI, 24, .inl (fun _ => 0))), (a 13, .inl (cI, 24, .inl (fun _ => 0))), (a 6, .inr (6, [.int 0, .int 0, .int 0, .int 0, .int 0, .int 0])), (a 7, .inr (3, [.ref (a 14), .int 0])), (a 14, .inl (cI, 8, .inl (fun _ => 0))), (q1, .inr (9, [.ref (n 0), .int 0, .ref (n 2), .ref (n 3), .ref (n 4), .ref (n 5), .ref (n 6), .int 0, .ref (n 8), .ref (n 9), .ref (n 10), .ref (n 11), .ref (n 12), .ref (n 13), .ref (n 14), .int 0, .int 0, .ref (n 17), .ref (n 18), .ref (n 19), .ref (n 20), .ref (n 21), .ref (n 22), .ref (n 23), .ref (n 24), .ref (n 25), .int 1, .int 0, .int 12, .int 0, .int 0, .int 0, .int 0, .int 1440, .ref (n 34), .ref (n 35), .int 0, .int 0, .int 0, .ref (n 39), .ref (n 40), .ref (n 41), .ref (n 42), .int 0, .int 0, .int 0])), (n 0, .inl (cI, 1600, .inl (fun _ => 0))), (n 2, .inl (cI, 10, .inl (fun _ => 0))), (n 3, .inl (cI, 10, .inl (fun _ => 0))), (n 4, .inl (cI, 10, .inl (fun _ => 0))), (n 5, .inl (cZ, 16000, .inl (fun _ => 0))), (n 6, .inl (cZ, 10, .inl (fun _ => 0))), (n 8, .inl (cI, 10, .inl fc)), (n 9, .inl (cI, 10, .inl (fun _ => 0))), (n 10, .inl (cI, 10, .inl (fun _ => 0))), (n 11, .inl (cI, 10, .inl (fun _ => 0))), (n 12, .inl (cI, 48, .inl (fun _ => 0))), (n 13, .inl (cI, 10, .inl (fun _ => 0))), (n 14, .inl (cI, 80, .inl (fun _ => 0))), (n 17, .inl (cI, 100, .inl (fun _ => 0))), (n 18, .inl (cI, 100, .inl (fun _ => 0))), (n 19, .inl (cI, 100, .inl (fun _ => 0))), (n 20, .inl (cI, 100, .inl (fun _ => 0))), (n 21, .inl (cI, 10, .inl (fun _ => 0))), (n 22, .inl (cI, 10, .inl (fun _ => 0))), (n 23, .inl (cI, 10, .inl (fun _ => 0))), (n 24, .inl (cI, 24, .inl (fun _ => 0))), (n 25, .inl (cI, 24, .inl (fun _ => 0))), (n 34, .inl (cI, 8, .inl (fun _ => 0))), (n 35, .inl (cI, 10240, .inl (fun _ => 0))), (n 39, .inl (cI, 10, .inl (fun _ => 0))), (n 40, .inl (cI, 10, .inl (fun _ => 0))), (n 41, .inl (cI, 1024, .inl (fun _ => 0))), (n 42, .inl (cI, 1024, .inl (fun _ => 0)))] H) (hD : va_D A [(q0, .inr (8, [.ref (a 1), .ref (a 2), .ref (a 3), .ref (a 4), .ref (a 5), .ref (a 6), .ref (a 7), .null, .int 0, .int 0, .int 0, .int 0])), (a 1, .inl (cI, 1600, .inl (fun _ => 0))), (a 2, .inl (cM, 10, .inr (.inr (.inr (.inr (fun _ => none)))))), (a 3, .inl (cI, 48, .inl (fun _ => 0))), (a 4, .inr (7, [.ref (a 8), .ref (a 9), .ref (a 10), .ref (a 11), .int 0])), (a 8, .inl (cI, 100, .inl (fun _ => 0))), (a 9, .inl (cI, 100, .inl (fun _ => 0))), (a 10, .inl (cI, 100, .inl (fun _ => 0))), (a 11, .inl (cI, 100, .inl (fun _ => 0))), (a 5, .inr (4, [.ref (a 12), .ref (a 13), .int 0, .int 0, .int 0, .int 1440, .int 1, .int 0, .int 12, .int 0])), (a 12, .inl (cI, 24, .inl (fun _ => 0))), (a 13, .inl (cI, 24, .inl (fun _ => 0))), (a 6, .inr (6, [.int 0, .int 0, .int 0, .int 0, .int 0, .int 0])), (a 7, .inr (3, [.ref (a 14), .int 0])), (a 14, .inl (cI, 8, .inl (fun _ => 0))), (q1, .inr (9, [.ref (n 0), .int 0, .ref (n 2), .ref (n 3), .ref (n 4), .ref (n 5), .ref (n 6), .int 0, .ref (n 8), .ref (n 9), .ref (n 10), .ref (n 11), .ref (n 12), .ref (n 13), .ref (n 14), .int 0, .int 0, .ref (n 17), .ref (n 18), .ref (n 19), .ref (n 20), .ref (n 21), .ref (n 22), .ref (n 23), .ref (n 24), .ref (n 25), .int 1, .int 0, .int 12, .int 0, .int 0, .int 0, .int 0, .int 1440, .ref (n 34), .ref (n 35), .int 0, .int 0, .int 0, .ref (n 39), .ref (n 40), .ref (n 41), .ref (n 42), .int 0, .int 0, .int 0])), (n 0, .inl (cI, 1600, .inl (fun _ => 0))), (n 2, .inl (cI, 10, .inl (fun _ => 0))), (n 3, .inl (cI, 10, .inl (fun _ => 0))), (n 4, .inl (cI, 10, .inl (fun _ => 0))), (n 5, .inl (cZ, 16000, .inl (fun _ => 0))), (n 6, .inl (cZ, 10, .inl (fun _ => 0))), (n 8, .inl (cI, 10, .inl fc)), (n 9, .inl (cI, 10, .inl (fun _ => 0))), (n 10, .inl (cI, 10, .inl (fun _ => 0))), (n 11, .inl (cI, 10, .inl (fun _ => 0))), (n 12, .inl (cI, 48, .inl (fun _ => 0))), (n 13, .inl (cI, 10, .inl (fun _ => 0))), (n 14, .inl (cI, 80, .inl (fun _ => 0))), (n 17, .inl (cI, 100, .inl (fun _ => 0))), (n 18, .inl (cI, 100, .inl (fun _ => 0))), (n 19, .inl (cI, 100, .inl (fun _ => 0))), (n 20, .inl (cI, 100, .inl (fun _ => 0))), (n 21, .inl (cI, 10, .inl (fun _ => 0))), (n 22, .inl (cI, 10, .inl (fun _ => 0))), (n 23, .inl (cI, 10, .inl (fun _ => 0))), (n 24, .inl (cI, 24, .inl (fun _ => 0))), (n 25, .inl (cI, 24, .inl (fun _ => 0))), (n 34, .inl (cI, 8, .inl (fun _ => 0))), (n 35, .inl (cI, 10240, .inl (fun _ => 0))), (n 39, .inl (cI, 10, .inl (fun _ => 0))), (n 40, .inl (cI, 10, .inl (fun _ => 0))), (n 41, .inl (cI, 1024, .inl (fun _ => 0))), (n 42, .inl (cI, 1024, .inl (fun _ => 0)))]) (hS : va_S A s.heap H locs) (hl : lv_has ls 4 [(3, .int 0), (2, .ref q1), (1, .ref q0), (0, .ref b)]) : W p l e room_1 s m #[Value.ref b] below meth c H locs 44 32807 (lw_Z below #[Value.ref b] s) (F0 m 820 ls []) := by
  obtain ⟨hx, hb, hr, hml, hown, hts0, hX, hbl, hlocks, hgv⟩ := id C0
  have hts := fun w h => hts0 w (wsL_law_in w h)
  have hbA : ¬ A b := fun h => Nat.not_le.mpr hbl (hA2 _ h)
  have hK := hG.1
  have hN := hG.2
  refine lv_aload_n hx hb dL_law_820 rfl (lv_at hl 2 rfl) ?_
  refine lv_aload_n hx hb dL_law_821 rfl (lv_at hl 3 rfl) ?_
  refine lv_iload_n hx hb dL_law_822 rfl (lv_at hl 0 rfl) ?_
  refine lv_iconst (v := 1) hx hb dL_law_823 (by decide) ?_
  refine lv_iadd hx hb dL_law_824 ?_
  refine lv_topi (fun z_1 ez_1 => ?_)
  obtain rfl : z_1 = 1 := ez_1.trans (by decide)
  refine va_sld hx hb hX hbl hbA hS (vp_in_nI (n := 1) (N := 7) (by decide) (by decide)) dL_law_825 ?_
  refine lv_aload_n hx hb dL_law_826 rfl (lv_at hl 3 rfl) ?_
  refine lv_iload_n hx hb dL_law_827 rfl (lv_at hl 0 rfl) ?_
  refine lv_iconst (v := 2) hx hb dL_law_828 (by decide) ?_
  refine lv_iadd hx hb dL_law_829 ?_
  refine lv_topi (fun z_2 ez_2 => ?_)
  obtain rfl : z_2 = 2 := ez_2.trans (by decide)
  refine va_sld hx hb hX hbl hbA hS (vp_in_nI (n := 2) (N := 7) (by decide) (by decide)) dL_law_830 ?_
  refine lv_aload_n hx hb dL_law_831 rfl (lv_at hl 3 rfl) ?_
  refine lv_iload_n hx hb dL_law_832 rfl (lv_at hl 0 rfl) ?_
  refine lv_iconst (v := 3) hx hb dL_law_833 (by decide) ?_
  refine lv_iadd hx hb dL_law_834 ?_
  refine lv_topi (fun z_3 ez_3 => ?_)
  obtain rfl : z_3 = 3 := ez_3.trans (by decide)
  refine va_sld hx hb hX hbl hbA hS (vp_in_nI (n := 3) (N := 7) (by decide) (by decide)) dL_law_835 ?_
  refine lv_aload_n hx hb dL_law_836 rfl (lv_at hl 3 rfl) ?_
  refine lv_iload_n hx hb dL_law_837 rfl (lv_at hl 0 rfl) ?_
  refine lv_iconst (v := 4) hx hb dL_law_838 (by decide) ?_
  refine lv_iadd hx hb dL_law_839 ?_
  refine lv_topi (fun z_4 ez_4 => ?_)
  obtain rfl : z_4 = 4 := ez_4.trans (by decide)
  refine va_sld hx hb hX hbl hbA hS (vp_in_nI (n := 4) (N := 7) (by decide) (by decide)) dL_law_840 ?_
  have hPc := hP.sub (ws' := [(q0, .inr (8, [.ref (a 1), .ref (a 2), .ref (a 3), .ref (a 4), .ref (a 5), .ref (a 6), .ref (a 7), .null, .int 0, .int 0, .int 0, .int 0])), (a 1, .inl (cI, 1600, .inl (fun _ => 0))), (a 2, .inl (cM, 10, .inr (.inr (.inr (.inr (fun _ => none)))))), (a 3, .inl (cI, 48, .inl (fun _ => 0))), (a 4, .inr (7, [.ref (a 8), .ref (a 9), .ref (a 10), .ref (a 11), .int 0])), (a 8, .inl (cI, 100, .inl (fun _ => 0))), (a 9, .inl (cI, 100, .inl (fun _ => 0))), (a 10, .inl (cI, 100, .inl (fun _ => 0))), (a 11, .inl (cI, 100, .inl (fun _ => 0))), (a 5, .inr (4, [.ref (a 12), .ref (a 13), .int 0, .int 0, .int 0, .int 1440, .int 1, .int 0, .int 12, .int 0])), (a 12, .inl (cI, 24, .inl (fun _ => 0))), (a 13, .inl (cI, 24, .inl (fun _ => 0))), (a 6, .inr (6, [.int 0, .int 0, .int 0, .int 0, .int 0, .int 0])), (a 7, .inr (3, [.ref (a 14), .int 0])), (a 14, .inl (cI, 8, .inl (fun _ => 0)))]) [0, 1, 2, 3, 4, 5, 6, 7, 8, 9, 10, 11, 12, 13, 14] rfl
  refine vp_callSi (va_Run.run (va_runV (As := [.int (xs (1 : Int32).toNatClampNeg), .int (xs (2 : Int32).toNatClampNeg), .int (xs (3 : Int32).toNatClampNeg), .int (xs (4 : Int32).toNatClampNeg)]) (rest := []) ⟨hx, hb, hml, hown, hts⟩ (k_X8_job l D cI cJ cZ cM q0 a (xs (1 : Int32).toNatClampNeg) (xs (2 : Int32).toNatClampNeg) (xs (3 : Int32).toNatClampNeg) (xs (4 : Int32).toNatClampNeg)) (cwV 4 hts gL_law_X8_job rfl rfl rfl (by decide +kernel) ⟨Nat.le_of_ble_eq_true rfl, Nat.le_of_ble_eq_true rfl⟩) (ro_V hG hPc (va_recv hK hPc (ci := 8) (q0 := 0) rfl rfl)) rfl rfl hl.1 rfl (lv_room (Nat.le_of_ble_eq_true rfl)) dL_law_841 ⟨Nat.le_of_ble_eq_true rfl, Nat.le_of_ble_eq_true rfl⟩)) (fun r_5 h_5 => ?_)
  obtain rfl : r_5 = 0 := h_5
  refine lv_aload_n hx hb dL_law_844 rfl (lv_at hl 1 rfl) ?_
  refine lv_aload_n hx hb dL_law_845 rfl (lv_at hl 3 rfl) ?_
  refine lv_iload_n hx hb dL_law_846 rfl (lv_at hl 0 rfl) ?_
  refine lv_iconst (v := 1) hx hb dL_law_847 (by decide) ?_
  refine lv_iadd hx hb dL_law_848 ?_
  refine lv_topi (fun z_6 ez_6 => ?_)
  obtain rfl : z_6 = 1 := ez_6.trans (by decide)
  refine va_sld hx hb hX hbl hbA hS (vp_in_nI (n := 1) (N := 7) (by decide) (by decide)) dL_law_849 ?_
  refine lv_aload_n hx hb dL_law_850 rfl (lv_at hl 3 rfl) ?_
  refine lv_iload_n hx hb dL_law_851 rfl (lv_at hl 0 rfl) ?_
  refine lv_iconst (v := 2) hx hb dL_law_852 (by decide) ?_
  refine lv_iadd hx hb dL_law_853 ?_
  refine lv_topi (fun z_7 ez_7 => ?_)
  obtain rfl : z_7 = 2 := ez_7.trans (by decide)
  refine va_sld hx hb hX hbl hbA hS (vp_in_nI (n := 2) (N := 7) (by decide) (by decide)) dL_law_854 ?_
  refine lv_aload_n hx hb dL_law_855 rfl (lv_at hl 3 rfl) ?_
  refine lv_iload_n hx hb dL_law_856 rfl (lv_at hl 0 rfl) ?_
  refine lv_iconst (v := 3) hx hb dL_law_857 (by decide) ?_
  refine lv_iadd hx hb dL_law_858 ?_
  refine lv_topi (fun z_8 ez_8 => ?_)
  obtain rfl : z_8 = 3 := ez_8.trans (by decide)
  refine va_sld hx hb hX hbl hbA hS (vp_in_nI (n := 3) (N := 7) (by decide) (by decide)) dL_law_859 ?_
  refine lv_aload_n hx hb dL_law_860 rfl (lv_at hl 3 rfl) ?_
  refine lv_iload_n hx hb dL_law_861 rfl (lv_at hl 0 rfl) ?_
  refine lv_iconst (v := 4) hx hb dL_law_862 (by decide) ?_
  refine lv_iadd hx hb dL_law_863 ?_
  refine lv_topi (fun z_9 ez_9 => ?_)
  obtain rfl : z_9 = 4 := ez_9.trans (by decide)
  refine va_sld hx hb hX hbl hbA hS (vp_in_nI (n := 4) (N := 7) (by decide) (by decide)) dL_law_864 ?_
  have hPc := hP.sub (ws' := [(q1, .inr (9, [.ref (n 0), .int 0, .ref (n 2), .ref (n 3), .ref (n 4), .ref (n 5), .ref (n 6), .int 0, .ref (n 8), .ref (n 9), .ref (n 10), .ref (n 11), .ref (n 12), .ref (n 13), .ref (n 14), .int 0, .int 0, .ref (n 17), .ref (n 18), .ref (n 19), .ref (n 20), .ref (n 21), .ref (n 22), .ref (n 23), .ref (n 24), .ref (n 25), .int 1, .int 0, .int 12, .int 0, .int 0, .int 0, .int 0, .int 1440, .ref (n 34), .ref (n 35), .int 0, .int 0, .int 0, .ref (n 39), .ref (n 40), .ref (n 41), .ref (n 42), .int 0, .int 0, .int 0]))]) [15] rfl
  refine vp_callSi (va_Run.run (va_runV (As := [.int (xs (1 : Int32).toNatClampNeg), .int (xs (2 : Int32).toNatClampNeg), .int (xs (3 : Int32).toNatClampNeg), .int (xs (4 : Int32).toNatClampNeg)]) (rest := [.int 0]) ⟨hx, hb, hml, hown, hts⟩ (k_X9_job l D cI cJ cZ cM q1 n (xs (1 : Int32).toNatClampNeg) (xs (2 : Int32).toNatClampNeg) (xs (3 : Int32).toNatClampNeg) (xs (4 : Int32).toNatClampNeg)) (cwV 4 hts gL_law_X9_job rfl rfl rfl (by decide +kernel) ⟨Nat.le_of_ble_eq_true rfl, Nat.le_of_ble_eq_true rfl⟩) (ro_V hG hPc (va_recv hK hPc (ci := 9) (q0 := 0) rfl rfl)) rfl rfl hl.1 rfl (lv_room (Nat.le_of_ble_eq_true rfl)) dL_law_865 ⟨Nat.le_of_ble_eq_true rfl, Nat.le_of_ble_eq_true rfl⟩)) (fun r_10 h_10 => ?_)
  obtain rfl : r_10 = 0 := h_10
  refine lv_icmp_eq (tgt := 1068) hx hb dL_law_868 (by decide) (fun _ => ?_) (fun c_11 => False.elim (by revert c_11; decide))
  exact law_end C0 hG hA hA2 hS (by decide) (by decide) (lv_sub hl [3, 0] rfl)
set_option maxHeartbeats 4000000 in
set_option maxRecDepth 100000 in
/-- the call of weather, and the answers' likeness -/
theorem law_19 {p : Program} {l : Launch} {e : Env} {s : State} {m : MethodId} {below : List Frame} {meth : Method} {c : Code} {b : Nat} {xs : Nat → Int32} {D : va_G} {cI cJ cZ cM : Nat} {A : Nat → Prop} {q0 q1 : Nat} {a n : Nat → Nat} {fc : Nat → Int32} {H : Heap} {locs : List Loc} {ls : Array Slot} (C0 : lw_At p s m meth c b 7 xs) (hG : GK D cI cJ cZ cM s) (hA : ∀ q : Nat, s.heap.size ≤ q → A q) (hA2 : ∀ q : Nat, A q → s.heap.size ≤ q) (hP : va_P D vwCl [(q0, .inr (8, [.ref (a 1), .ref (a 2), .ref (a 3), .ref (a 4), .ref (a 5), .ref (a 6), .ref (a 7), .null, .int 0, .int 0, .int 0, .int 0])), (a 1, .inl (cI, 1600, .inl (fun _ => 0))), (a 2, .inl (cM, 10, .inr (.inr (.inr (.inr (fun _ => none)))))), (a 3, .inl (cI, 48, .inl (fun _ => 0))), (a 4, .inr (7, [.ref (a 8), .ref (a 9), .ref (a 10), .ref (a 11), .int 0])), (a 8, .inl (cI, 100, .inl (fun _ => 0))), (a 9, .inl (cI, 100, .inl (fun _ => 0))), (a 10, .inl (cI, 100, .inl (fun _ => 0))), (a 11, .inl (cI, 100, .inl (fun _ => 0))), (a 5, .inr (4, [.ref (a 12), .ref (a 13), .int 0, .int 0, .int 0, .int 1440, .int 1, .int 0, .int 12, .int 0])), (a 12, .inl (cI, 24, .inl (fun _ => 0))), (a 13, .inl (cI, 24, .inl (fun _ => 0))), (a 6, .inr (6, [.int 0, .int 0, .int 0, .int 0, .int 0, .int 0])), (a 7, .inr (3, [.ref (a 14), .int 0])), (a 14, .inl (cI, 8, .inl (fun _ => 0))), (q1, .inr (9, [.ref (n 0), .int 0, .ref (n 2), .ref (n 3), .ref (n 4), .ref (n 5), .ref (n 6), .int 0, .ref (n 8), .ref (n 9), .ref (n 10), .ref (n 11), .ref (n 12), .ref (n 13), .ref (n 14), .int 0, .int 0, .ref (n 17), .ref (n 18), .ref (n 19), .ref (n 20), .ref (n 21), .ref (n 22), .ref (n 23), .ref (n 24), .ref (n 25), .int 1, .int 0, .int 12, .int 0, .int 0, .int 0, .int 0, .int 1440, .ref (n 34), .ref (n 35), .int 0, .int 0, .int 0, .ref (n 39), .ref (n 40), .ref (n 41), .ref (n 42), .int 0, .int 0, .int 0])), (n 0, .inl (cI, 1600, .inl (fun _ => 0))), (n 2, .inl (cI, 10, .inl (fun _ => 0))), (n 3, .inl (cI, 10, .inl (fun _ => 0))), (n 4, .inl (cI, 10, .inl (fun _ => 0))), (n 5, .inl (cZ, 16000, .inl (fun _ => 0))), (n 6, .inl (cZ, 10, .inl (fun _ => 0))), (n 8, .inl (cI, 10, .inl fc)), (n 9, .inl (cI, 10, .inl (fun _ => 0))), (n 10, .inl (cI, 10, .inl (fun _ => 0))), (n 11, .inl (cI, 10, .inl (fun _ => 0))), (n 12, .inl (cI, 48, .inl (fun _ => 0))), (n 13, .inl (cI, 10, .inl (fun _ => 0))), (n 14, .inl (cI, 80, .inl (fun _ => 0))), (n 17, .inl (cI, 100, .inl (fun _ => 0))), (n 18, .inl (cI, 100, .inl (fun _ => 0))), (n 19, .inl (cI, 100, .inl (fun _ => 0))), (n 20, .inl (cI, 100, .inl (fun _ => 0))), (n 21, .inl (cI, 10, .inl (fun _ => 0))), (n 22, .inl (cI, 10, .inl (fun _ => 0))), (n 23, .inl (cI, 10, .inl (fun _ => 0))), (n 24, .inl (cI, 24, .inl (fun _ => 0))), (n 25, .inl (cI, 24, .inl (fun _ => 0))), (n 34, .inl (cI, 8, .inl (fun _ => 0))), (n 35, .inl (cI, 10240, .inl (fun _ => 0))), (n 39, .inl (cI, 10, .inl (fun _ => 0))), (n 40, .inl (cI, 10, .inl (fun _ => 0))), (n 41, .inl (cI, 1024, .inl (fun _ => 0))), (n 42, .inl (cI, 1024, .inl (fun _ => 0)))] H) (hD : va_D A [(q0, .inr (8, [.ref (a 1), .ref (a 2), .ref (a 3), .ref (a 4), .ref (a 5), .ref (a 6), .ref (a 7), .null, .int 0, .int 0, .int 0, .int 0])), (a 1, .inl (cI, 1600, .inl (fun _ => 0))), (a 2, .inl (cM, 10, .inr (.inr (.inr (.inr (fun _ => none)))))), (a 3, .inl (cI, 48, .inl (fun _ => 0))), (a 4, .inr (7, [.ref (a 8), .ref (a 9), .ref (a 10), .ref (a 11), .int 0])), (a 8, .inl (cI, 100, .inl (fun _ => 0))), (a 9, .inl (cI, 100, .inl (fun _ => 0))), (a 10, .inl (cI, 100, .inl (fun _ => 0))), (a 11, .inl (cI, 100, .inl (fun _ => 0))), (a 5, .inr (4, [.ref (a 12), .ref (a 13), .int 0, .int 0, .int 0, .int 1440, .int 1, .int 0, .int 12, .int 0])), (a 12, .inl (cI, 24, .inl (fun _ => 0))), (a 13, .inl (cI, 24, .inl (fun _ => 0))), (a 6, .inr (6, [.int 0, .int 0, .int 0, .int 0, .int 0, .int 0])), (a 7, .inr (3, [.ref (a 14), .int 0])), (a 14, .inl (cI, 8, .inl (fun _ => 0))), (q1, .inr (9, [.ref (n 0), .int 0, .ref (n 2), .ref (n 3), .ref (n 4), .ref (n 5), .ref (n 6), .int 0, .ref (n 8), .ref (n 9), .ref (n 10), .ref (n 11), .ref (n 12), .ref (n 13), .ref (n 14), .int 0, .int 0, .ref (n 17), .ref (n 18), .ref (n 19), .ref (n 20), .ref (n 21), .ref (n 22), .ref (n 23), .ref (n 24), .ref (n 25), .int 1, .int 0, .int 12, .int 0, .int 0, .int 0, .int 0, .int 1440, .ref (n 34), .ref (n 35), .int 0, .int 0, .int 0, .ref (n 39), .ref (n 40), .ref (n 41), .ref (n 42), .int 0, .int 0, .int 0])), (n 0, .inl (cI, 1600, .inl (fun _ => 0))), (n 2, .inl (cI, 10, .inl (fun _ => 0))), (n 3, .inl (cI, 10, .inl (fun _ => 0))), (n 4, .inl (cI, 10, .inl (fun _ => 0))), (n 5, .inl (cZ, 16000, .inl (fun _ => 0))), (n 6, .inl (cZ, 10, .inl (fun _ => 0))), (n 8, .inl (cI, 10, .inl fc)), (n 9, .inl (cI, 10, .inl (fun _ => 0))), (n 10, .inl (cI, 10, .inl (fun _ => 0))), (n 11, .inl (cI, 10, .inl (fun _ => 0))), (n 12, .inl (cI, 48, .inl (fun _ => 0))), (n 13, .inl (cI, 10, .inl (fun _ => 0))), (n 14, .inl (cI, 80, .inl (fun _ => 0))), (n 17, .inl (cI, 100, .inl (fun _ => 0))), (n 18, .inl (cI, 100, .inl (fun _ => 0))), (n 19, .inl (cI, 100, .inl (fun _ => 0))), (n 20, .inl (cI, 100, .inl (fun _ => 0))), (n 21, .inl (cI, 10, .inl (fun _ => 0))), (n 22, .inl (cI, 10, .inl (fun _ => 0))), (n 23, .inl (cI, 10, .inl (fun _ => 0))), (n 24, .inl (cI, 24, .inl (fun _ => 0))), (n 25, .inl (cI, 24, .inl (fun _ => 0))), (n 34, .inl (cI, 8, .inl (fun _ => 0))), (n 35, .inl (cI, 10240, .inl (fun _ => 0))), (n 39, .inl (cI, 10, .inl (fun _ => 0))), (n 40, .inl (cI, 10, .inl (fun _ => 0))), (n 41, .inl (cI, 1024, .inl (fun _ => 0))), (n 42, .inl (cI, 1024, .inl (fun _ => 0)))]) (hS : va_S A s.heap H locs) (hl : lv_has ls 4 [(3, .int 0), (2, .ref q1), (1, .ref q0), (0, .ref b)]) : W p l e room_1 s m #[Value.ref b] below meth c H locs 44 32807 (lw_Z below #[Value.ref b] s) (F0 m 873 ls []) := by
  obtain ⟨hx, hb, hr, hml, hown, hts0, hX, hbl, hlocks, hgv⟩ := id C0
  have hts := fun w h => hts0 w (wsL_law_in w h)
  have hbA : ¬ A b := fun h => Nat.not_le.mpr hbl (hA2 _ h)
  have hK := hG.1
  have hN := hG.2
  refine lv_aload_n hx hb dL_law_873 rfl (lv_at hl 2 rfl) ?_
  refine lv_aload_n hx hb dL_law_874 rfl (lv_at hl 3 rfl) ?_
  refine lv_iload_n hx hb dL_law_875 rfl (lv_at hl 0 rfl) ?_
  refine lv_iconst (v := 1) hx hb dL_law_876 (by decide) ?_
  refine lv_iadd hx hb dL_law_877 ?_
  refine lv_topi (fun z_1 ez_1 => ?_)
  obtain rfl : z_1 = 1 := ez_1.trans (by decide)
  refine va_sld hx hb hX hbl hbA hS (vp_in_nI (n := 1) (N := 7) (by decide) (by decide)) dL_law_878 ?_
  refine lv_aload_n hx hb dL_law_879 rfl (lv_at hl 3 rfl) ?_
  refine lv_iload_n hx hb dL_law_880 rfl (lv_at hl 0 rfl) ?_
  refine lv_iconst (v := 2) hx hb dL_law_881 (by decide) ?_
  refine lv_iadd hx hb dL_law_882 ?_
  refine lv_topi (fun z_2 ez_2 => ?_)
  obtain rfl : z_2 = 2 := ez_2.trans (by decide)
  refine va_sld hx hb hX hbl hbA hS (vp_in_nI (n := 2) (N := 7) (by decide) (by decide)) dL_law_883 ?_
  refine lv_aload_n hx hb dL_law_884 rfl (lv_at hl 3 rfl) ?_
  refine lv_iload_n hx hb dL_law_885 rfl (lv_at hl 0 rfl) ?_
  refine lv_iconst (v := 3) hx hb dL_law_886 (by decide) ?_
  refine lv_iadd hx hb dL_law_887 ?_
  refine lv_topi (fun z_3 ez_3 => ?_)
  obtain rfl : z_3 = 3 := ez_3.trans (by decide)
  refine va_sld hx hb hX hbl hbA hS (vp_in_nI (n := 3) (N := 7) (by decide) (by decide)) dL_law_888 ?_
  have hPc := hP.sub (ws' := [(q0, .inr (8, [.ref (a 1), .ref (a 2), .ref (a 3), .ref (a 4), .ref (a 5), .ref (a 6), .ref (a 7), .null, .int 0, .int 0, .int 0, .int 0])), (a 5, .inr (4, [.ref (a 12), .ref (a 13), .int 0, .int 0, .int 0, .int 1440, .int 1, .int 0, .int 12, .int 0])), (a 12, .inl (cI, 24, .inl (fun _ => 0))), (a 13, .inl (cI, 24, .inl (fun _ => 0)))]) [0, 9, 10, 11] rfl
  have hDc := hD.sub (ws' := [(q0, .inr (8, [.ref (a 1), .ref (a 2), .ref (a 3), .ref (a 4), .ref (a 5), .ref (a 6), .ref (a 7), .null, .int 0, .int 0, .int 0, .int 0])), (a 5, .inr (4, [.ref (a 12), .ref (a 13), .int 0, .int 0, .int 0, .int 1440, .int 1, .int 0, .int 12, .int 0])), (a 12, .inl (cI, 24, .inl (fun _ => 0))), (a 13, .inl (cI, 24, .inl (fun _ => 0)))]) [0, 9, 10, 11] (by decide) rfl
  have hFc := va_free (wc := [(q0, .inr (8, [.ref (a 1), .ref (a 2), .ref (a 3), .ref (a 4), .ref (a 5), .ref (a 6), .ref (a 7), .null, .int 0, .int 0, .int 0, .int 0])), (a 5, .inr (4, [.ref (a 12), .ref (a 13), .int 0, .int 0, .int 0, .int 1440, .int 1, .int 0, .int 12, .int 0])), (a 12, .inl (cI, 24, .inl (fun _ => 0))), (a 13, .inl (cI, 24, .inl (fun _ => 0)))]) hD hS hA [0, 9, 10, 11] rfl
  refine va_calli (va_runV (As := [.int (xs (1 : Int32).toNatClampNeg), .int (xs (2 : Int32).toNatClampNeg), .int (xs (3 : Int32).toNatClampNeg)]) (rest := []) ⟨hx, hb, hml, hown, hts⟩ (k_X8_weather l D cI cJ cZ cM q0 a (xs (1 : Int32).toNatClampNeg) (xs (2 : Int32).toNatClampNeg) (xs (3 : Int32).toNatClampNeg) _) (cwV 3 hts gL_law_X8_weather rfl rfl rfl (by decide +kernel) ⟨Nat.le_of_ble_eq_true rfl, Nat.le_of_ble_eq_true rfl⟩) (rw_V hG hPc hDc (va_recv hK hPc (ci := 8) (q0 := 0) rfl rfl)) rfl rfl hl.1 rfl (lv_room (Nat.le_of_ble_eq_true rfl)) dL_law_889 ⟨Nat.le_of_ble_eq_true rfl, Nat.le_of_ble_eq_true rfl⟩) hS (fun q _ h => hFc q h) hFc (fun r_4 u_4 t_4 H1 locs ht hvm h_4 hB hz1 hk1 hS => ?_)
  obtain ⟨hP, hD⟩ := va_join (wr := [(q1, .inr (9, [.ref (n 0), .int 0, .ref (n 2), .ref (n 3), .ref (n 4), .ref (n 5), .ref (n 6), .int 0, .ref (n 8), .ref (n 9), .ref (n 10), .ref (n 11), .ref (n 12), .ref (n 13), .ref (n 14), .int 0, .int 0, .ref (n 17), .ref (n 18), .ref (n 19), .ref (n 20), .ref (n 21), .ref (n 22), .ref (n 23), .ref (n 24), .ref (n 25), .int 1, .int 0, .int 12, .int 0, .int 0, .int 0, .int 0, .int 1440, .ref (n 34), .ref (n 35), .int 0, .int 0, .int 0, .ref (n 39), .ref (n 40), .ref (n 41), .ref (n 42), .int 0, .int 0, .int 0])), (n 24, .inl (cI, 24, .inl (fun _ => 0))), (n 25, .inl (cI, 24, .inl (fun _ => 0)))]) (w1 := []) hP hD [0, 9, 10, 11] [15, 36, 37] rfl rfl (by decide) (by decide) hk1 hFc (fun k q h => by simp at h) ⟨fun i j p q h => by simp at h, fun k q h => by simp at h⟩
  generalize H1 = H at hP hS ⊢
  have hP : va_P D vwCl [(q1, .inr (9, [.ref (n 0), .int 0, .ref (n 2), .ref (n 3), .ref (n 4), .ref (n 5), .ref (n 6), .int 0, .ref (n 8), .ref (n 9), .ref (n 10), .ref (n 11), .ref (n 12), .ref (n 13), .ref (n 14), .int 0, .int 0, .ref (n 17), .ref (n 18), .ref (n 19), .ref (n 20), .ref (n 21), .ref (n 22), .ref (n 23), .ref (n 24), .ref (n 25), .int 1, .int 0, .int 12, .int 0, .int 0, .int 0, .int 0, .int 1440, .ref (n 34), .ref (n 35), .int 0, .int 0, .int 0, .ref (n 39), .ref (n 40), .ref (n 41), .ref (n 42), .int 0, .int 0, .int 0])), (n 24, .inl (cI, 24, .inl (fun _ => 0))), (n 25, .inl (cI, 24, .inl (fun _ => 0)))] H := hP
  have hD : va_D A [(q1, .inr (9, [.ref (n 0), .int 0, .ref (n 2), .ref (n 3), .ref (n 4), .ref (n 5), .ref (n 6), .int 0, .ref (n 8), .ref (n 9), .ref (n 10), .ref (n 11), .ref (n 12), .ref (n 13), .ref (n 14), .int 0, .int 0, .ref (n 17), .ref (n 18), .ref (n 19), .ref (n 20), .ref (n 21), .ref (n 22), .ref (n 23), .ref (n 24), .ref (n 25), .int 1, .int 0, .int 12, .int 0, .int 0, .int 0, .int 0, .int 1440, .ref (n 34), .ref (n 35), .int 0, .int 0, .int 0, .ref (n 39), .ref (n 40), .ref (n 41), .ref (n 42), .int 0, .int 0, .int 0])), (n 24, .inl (cI, 24, .inl (fun _ => 0))), (n 25, .inl (cI, 24, .inl (fun _ => 0)))] := hD
  refine W.widen (k := 44) (n := 32807) (by decide) (by decide) ?_
  rcases h_4 with ⟨rfl, h_4⟩ | ⟨rfl, h_4⟩
  · refine lv_aload_n hx hb dL_law_892 rfl (lv_at hl 1 rfl) ?_
    refine lv_aload_n hx hb dL_law_893 rfl (lv_at hl 3 rfl) ?_
    refine lv_iload_n hx hb dL_law_894 rfl (lv_at hl 0 rfl) ?_
    refine lv_iconst (v := 1) hx hb dL_law_895 (by decide) ?_
    refine lv_iadd hx hb dL_law_896 ?_
    refine lv_topi (fun z_5 ez_5 => ?_)
    obtain rfl : z_5 = 1 := ez_5.trans (by decide)
    refine va_sld hx hb hX hbl hbA hS (vp_in_nI (n := 1) (N := 7) (by decide) (by decide)) dL_law_897 ?_
    refine lv_aload_n hx hb dL_law_898 rfl (lv_at hl 3 rfl) ?_
    refine lv_iload_n hx hb dL_law_899 rfl (lv_at hl 0 rfl) ?_
    refine lv_iconst (v := 2) hx hb dL_law_900 (by decide) ?_
    refine lv_iadd hx hb dL_law_901 ?_
    refine lv_topi (fun z_6 ez_6 => ?_)
    obtain rfl : z_6 = 2 := ez_6.trans (by decide)
    refine va_sld hx hb hX hbl hbA hS (vp_in_nI (n := 2) (N := 7) (by decide) (by decide)) dL_law_902 ?_
    refine lv_aload_n hx hb dL_law_903 rfl (lv_at hl 3 rfl) ?_
    refine lv_iload_n hx hb dL_law_904 rfl (lv_at hl 0 rfl) ?_
    refine lv_iconst (v := 3) hx hb dL_law_905 (by decide) ?_
    refine lv_iadd hx hb dL_law_906 ?_
    refine lv_topi (fun z_7 ez_7 => ?_)
    obtain rfl : z_7 = 3 := ez_7.trans (by decide)
    refine va_sld hx hb hX hbl hbA hS (vp_in_nI (n := 3) (N := 7) (by decide) (by decide)) dL_law_907 ?_
    have hPc := hP.sub (ws' := [(q1, .inr (9, [.ref (n 0), .int 0, .ref (n 2), .ref (n 3), .ref (n 4), .ref (n 5), .ref (n 6), .int 0, .ref (n 8), .ref (n 9), .ref (n 10), .ref (n 11), .ref (n 12), .ref (n 13), .ref (n 14), .int 0, .int 0, .ref (n 17), .ref (n 18), .ref (n 19), .ref (n 20), .ref (n 21), .ref (n 22), .ref (n 23), .ref (n 24), .ref (n 25), .int 1, .int 0, .int 12, .int 0, .int 0, .int 0, .int 0, .int 1440, .ref (n 34), .ref (n 35), .int 0, .int 0, .int 0, .ref (n 39), .ref (n 40), .ref (n 41), .ref (n 42), .int 0, .int 0, .int 0])), (n 24, .inl (cI, 24, .inl (fun _ => 0))), (n 25, .inl (cI, 24, .inl (fun _ => 0)))]) [0, 1, 2] rfl
    have hDc := hD.sub (ws' := [(q1, .inr (9, [.ref (n 0), .int 0, .ref (n 2), .ref (n 3), .ref (n 4), .ref (n 5), .ref (n 6), .int 0, .ref (n 8), .ref (n 9), .ref (n 10), .ref (n 11), .ref (n 12), .ref (n 13), .ref (n 14), .int 0, .int 0, .ref (n 17), .ref (n 18), .ref (n 19), .ref (n 20), .ref (n 21), .ref (n 22), .ref (n 23), .ref (n 24), .ref (n 25), .int 1, .int 0, .int 12, .int 0, .int 0, .int 0, .int 0, .int 1440, .ref (n 34), .ref (n 35), .int 0, .int 0, .int 0, .ref (n 39), .ref (n 40), .ref (n 41), .ref (n 42), .int 0, .int 0, .int 0])), (n 24, .inl (cI, 24, .inl (fun _ => 0))), (n 25, .inl (cI, 24, .inl (fun _ => 0)))]) [0, 1, 2] (by decide) rfl
    have hFc := va_free (wc := [(q1, .inr (9, [.ref (n 0), .int 0, .ref (n 2), .ref (n 3), .ref (n 4), .ref (n 5), .ref (n 6), .int 0, .ref (n 8), .ref (n 9), .ref (n 10), .ref (n 11), .ref (n 12), .ref (n 13), .ref (n 14), .int 0, .int 0, .ref (n 17), .ref (n 18), .ref (n 19), .ref (n 20), .ref (n 21), .ref (n 22), .ref (n 23), .ref (n 24), .ref (n 25), .int 1, .int 0, .int 12, .int 0, .int 0, .int 0, .int 0, .int 1440, .ref (n 34), .ref (n 35), .int 0, .int 0, .int 0, .ref (n 39), .ref (n 40), .ref (n 41), .ref (n 42), .int 0, .int 0, .int 0])), (n 24, .inl (cI, 24, .inl (fun _ => 0))), (n 25, .inl (cI, 24, .inl (fun _ => 0)))]) hD hS hA [0, 1, 2] rfl
    refine va_calli (va_runV (As := [.int (xs (1 : Int32).toNatClampNeg), .int (xs (2 : Int32).toNatClampNeg), .int (xs (3 : Int32).toNatClampNeg)]) (rest := [.int 1]) ⟨hx, hb, hml, hown, hts⟩ (k_X9_weather l D cI cJ cZ cM q1 n (xs (1 : Int32).toNatClampNeg) (xs (2 : Int32).toNatClampNeg) (xs (3 : Int32).toNatClampNeg) _) (cwV 3 hts gL_law_X9_weather rfl rfl rfl (by decide +kernel) ⟨Nat.le_of_ble_eq_true rfl, Nat.le_of_ble_eq_true rfl⟩) (rw_V hG hPc hDc (va_recv hK hPc (ci := 9) (q0 := 0) rfl rfl)) rfl rfl hl.1 rfl (lv_room (Nat.le_of_ble_eq_true rfl)) dL_law_908 ⟨Nat.le_of_ble_eq_true rfl, Nat.le_of_ble_eq_true rfl⟩) hS (fun q _ h => hFc q h) hFc (fun r_8 u_8 t_8 H1 locs ht hvm h_8 hB hz1 hk1 hS => ?_)
    obtain ⟨hP, hD⟩ := va_join (wr := []) (w1 := []) hP hD [0, 1, 2] [] rfl rfl (by decide) (by decide) hk1 hFc (fun k q h => by simp at h) ⟨fun i j p q h => by simp at h, fun k q h => by simp at h⟩
    generalize H1 = H at hP hS ⊢
    have hP : va_P D vwCl [] H := hP
    have hD : va_D A [] := hD
    refine W.widen (k := 44) (n := 32807) (by decide) (by decide) ?_
    rcases h_8 with ⟨rfl, h_8⟩ | ⟨rfl, h_8⟩
    · refine lv_icmp_eq (tgt := 1068) hx hb dL_law_911 (by decide) (fun _ => ?_) (fun c_9 => False.elim (by revert c_9; decide))
      exact law_end C0 hG hA hA2 hS (by decide) (by decide) (lv_sub hl [3, 0] rfl)
    exact absurd h_4 h_8
  refine lv_aload_n hx hb dL_law_892 rfl (lv_at hl 1 rfl) ?_
  refine lv_aload_n hx hb dL_law_893 rfl (lv_at hl 3 rfl) ?_
  refine lv_iload_n hx hb dL_law_894 rfl (lv_at hl 0 rfl) ?_
  refine lv_iconst (v := 1) hx hb dL_law_895 (by decide) ?_
  refine lv_iadd hx hb dL_law_896 ?_
  refine lv_topi (fun z_10 ez_10 => ?_)
  obtain rfl : z_10 = 1 := ez_10.trans (by decide)
  refine va_sld hx hb hX hbl hbA hS (vp_in_nI (n := 1) (N := 7) (by decide) (by decide)) dL_law_897 ?_
  refine lv_aload_n hx hb dL_law_898 rfl (lv_at hl 3 rfl) ?_
  refine lv_iload_n hx hb dL_law_899 rfl (lv_at hl 0 rfl) ?_
  refine lv_iconst (v := 2) hx hb dL_law_900 (by decide) ?_
  refine lv_iadd hx hb dL_law_901 ?_
  refine lv_topi (fun z_11 ez_11 => ?_)
  obtain rfl : z_11 = 2 := ez_11.trans (by decide)
  refine va_sld hx hb hX hbl hbA hS (vp_in_nI (n := 2) (N := 7) (by decide) (by decide)) dL_law_902 ?_
  refine lv_aload_n hx hb dL_law_903 rfl (lv_at hl 3 rfl) ?_
  refine lv_iload_n hx hb dL_law_904 rfl (lv_at hl 0 rfl) ?_
  refine lv_iconst (v := 3) hx hb dL_law_905 (by decide) ?_
  refine lv_iadd hx hb dL_law_906 ?_
  refine lv_topi (fun z_12 ez_12 => ?_)
  obtain rfl : z_12 = 3 := ez_12.trans (by decide)
  refine va_sld hx hb hX hbl hbA hS (vp_in_nI (n := 3) (N := 7) (by decide) (by decide)) dL_law_907 ?_
  have hPc := hP.sub (ws' := [(q1, .inr (9, [.ref (n 0), .int 0, .ref (n 2), .ref (n 3), .ref (n 4), .ref (n 5), .ref (n 6), .int 0, .ref (n 8), .ref (n 9), .ref (n 10), .ref (n 11), .ref (n 12), .ref (n 13), .ref (n 14), .int 0, .int 0, .ref (n 17), .ref (n 18), .ref (n 19), .ref (n 20), .ref (n 21), .ref (n 22), .ref (n 23), .ref (n 24), .ref (n 25), .int 1, .int 0, .int 12, .int 0, .int 0, .int 0, .int 0, .int 1440, .ref (n 34), .ref (n 35), .int 0, .int 0, .int 0, .ref (n 39), .ref (n 40), .ref (n 41), .ref (n 42), .int 0, .int 0, .int 0])), (n 24, .inl (cI, 24, .inl (fun _ => 0))), (n 25, .inl (cI, 24, .inl (fun _ => 0)))]) [0, 1, 2] rfl
  have hDc := hD.sub (ws' := [(q1, .inr (9, [.ref (n 0), .int 0, .ref (n 2), .ref (n 3), .ref (n 4), .ref (n 5), .ref (n 6), .int 0, .ref (n 8), .ref (n 9), .ref (n 10), .ref (n 11), .ref (n 12), .ref (n 13), .ref (n 14), .int 0, .int 0, .ref (n 17), .ref (n 18), .ref (n 19), .ref (n 20), .ref (n 21), .ref (n 22), .ref (n 23), .ref (n 24), .ref (n 25), .int 1, .int 0, .int 12, .int 0, .int 0, .int 0, .int 0, .int 1440, .ref (n 34), .ref (n 35), .int 0, .int 0, .int 0, .ref (n 39), .ref (n 40), .ref (n 41), .ref (n 42), .int 0, .int 0, .int 0])), (n 24, .inl (cI, 24, .inl (fun _ => 0))), (n 25, .inl (cI, 24, .inl (fun _ => 0)))]) [0, 1, 2] (by decide) rfl
  have hFc := va_free (wc := [(q1, .inr (9, [.ref (n 0), .int 0, .ref (n 2), .ref (n 3), .ref (n 4), .ref (n 5), .ref (n 6), .int 0, .ref (n 8), .ref (n 9), .ref (n 10), .ref (n 11), .ref (n 12), .ref (n 13), .ref (n 14), .int 0, .int 0, .ref (n 17), .ref (n 18), .ref (n 19), .ref (n 20), .ref (n 21), .ref (n 22), .ref (n 23), .ref (n 24), .ref (n 25), .int 1, .int 0, .int 12, .int 0, .int 0, .int 0, .int 0, .int 1440, .ref (n 34), .ref (n 35), .int 0, .int 0, .int 0, .ref (n 39), .ref (n 40), .ref (n 41), .ref (n 42), .int 0, .int 0, .int 0])), (n 24, .inl (cI, 24, .inl (fun _ => 0))), (n 25, .inl (cI, 24, .inl (fun _ => 0)))]) hD hS hA [0, 1, 2] rfl
  refine va_calli (va_runV (As := [.int (xs (1 : Int32).toNatClampNeg), .int (xs (2 : Int32).toNatClampNeg), .int (xs (3 : Int32).toNatClampNeg)]) (rest := [.int 0]) ⟨hx, hb, hml, hown, hts⟩ (k_X9_weather l D cI cJ cZ cM q1 n (xs (1 : Int32).toNatClampNeg) (xs (2 : Int32).toNatClampNeg) (xs (3 : Int32).toNatClampNeg) _) (cwV 3 hts gL_law_X9_weather rfl rfl rfl (by decide +kernel) ⟨Nat.le_of_ble_eq_true rfl, Nat.le_of_ble_eq_true rfl⟩) (rw_V hG hPc hDc (va_recv hK hPc (ci := 9) (q0 := 0) rfl rfl)) rfl rfl hl.1 rfl (lv_room (Nat.le_of_ble_eq_true rfl)) dL_law_908 ⟨Nat.le_of_ble_eq_true rfl, Nat.le_of_ble_eq_true rfl⟩) hS (fun q _ h => hFc q h) hFc (fun r_13 u_13 t_13 H1 locs ht hvm h_13 hB hz1 hk1 hS => ?_)
  obtain ⟨hP, hD⟩ := va_join (wr := []) (w1 := []) hP hD [0, 1, 2] [] rfl rfl (by decide) (by decide) hk1 hFc (fun k q h => by simp at h) ⟨fun i j p q h => by simp at h, fun k q h => by simp at h⟩
  generalize H1 = H at hP hS ⊢
  have hP : va_P D vwCl [] H := hP
  have hD : va_D A [] := hD
  refine W.widen (k := 44) (n := 32807) (by decide) (by decide) ?_
  rcases h_13 with ⟨rfl, h_13⟩ | ⟨rfl, h_13⟩
  · exact absurd h_13 h_4
  refine lv_icmp_eq (tgt := 1068) hx hb dL_law_911 (by decide) (fun _ => ?_) (fun c_14 => False.elim (by revert c_14; decide))
  exact law_end C0 hG hA hA2 hS (by decide) (by decide) (lv_sub hl [3, 0] rfl)
set_option maxHeartbeats 4000000 in
set_option maxRecDepth 100000 in
/-- the call of ship, and the answers' likeness -/
theorem law_20 {p : Program} {l : Launch} {e : Env} {s : State} {m : MethodId} {below : List Frame} {meth : Method} {c : Code} {b : Nat} {xs : Nat → Int32} {D : va_G} {cI cJ cZ cM : Nat} {A : Nat → Prop} {q0 q1 : Nat} {a n : Nat → Nat} {fc : Nat → Int32} {H : Heap} {locs : List Loc} {ls : Array Slot} (C0 : lw_At p s m meth c b 7 xs) (hG : GK D cI cJ cZ cM s) (hA : ∀ q : Nat, s.heap.size ≤ q → A q) (hA2 : ∀ q : Nat, A q → s.heap.size ≤ q) (hP : va_P D vwCl [(q0, .inr (8, [.ref (a 1), .ref (a 2), .ref (a 3), .ref (a 4), .ref (a 5), .ref (a 6), .ref (a 7), .null, .int 0, .int 0, .int 0, .int 0])), (a 1, .inl (cI, 1600, .inl (fun _ => 0))), (a 2, .inl (cM, 10, .inr (.inr (.inr (.inr (fun _ => none)))))), (a 3, .inl (cI, 48, .inl (fun _ => 0))), (a 4, .inr (7, [.ref (a 8), .ref (a 9), .ref (a 10), .ref (a 11), .int 0])), (a 8, .inl (cI, 100, .inl (fun _ => 0))), (a 9, .inl (cI, 100, .inl (fun _ => 0))), (a 10, .inl (cI, 100, .inl (fun _ => 0))), (a 11, .inl (cI, 100, .inl (fun _ => 0))), (a 5, .inr (4, [.ref (a 12), .ref (a 13), .int 0, .int 0, .int 0, .int 1440, .int 1, .int 0, .int 12, .int 0])), (a 12, .inl (cI, 24, .inl (fun _ => 0))), (a 13, .inl (cI, 24, .inl (fun _ => 0))), (a 6, .inr (6, [.int 0, .int 0, .int 0, .int 0, .int 0, .int 0])), (a 7, .inr (3, [.ref (a 14), .int 0])), (a 14, .inl (cI, 8, .inl (fun _ => 0))), (q1, .inr (9, [.ref (n 0), .int 0, .ref (n 2), .ref (n 3), .ref (n 4), .ref (n 5), .ref (n 6), .int 0, .ref (n 8), .ref (n 9), .ref (n 10), .ref (n 11), .ref (n 12), .ref (n 13), .ref (n 14), .int 0, .int 0, .ref (n 17), .ref (n 18), .ref (n 19), .ref (n 20), .ref (n 21), .ref (n 22), .ref (n 23), .ref (n 24), .ref (n 25), .int 1, .int 0, .int 12, .int 0, .int 0, .int 0, .int 0, .int 1440, .ref (n 34), .ref (n 35), .int 0, .int 0, .int 0, .ref (n 39), .ref (n 40), .ref (n 41), .ref (n 42), .int 0, .int 0, .int 0])), (n 0, .inl (cI, 1600, .inl (fun _ => 0))), (n 2, .inl (cI, 10, .inl (fun _ => 0))), (n 3, .inl (cI, 10, .inl (fun _ => 0))), (n 4, .inl (cI, 10, .inl (fun _ => 0))), (n 5, .inl (cZ, 16000, .inl (fun _ => 0))), (n 6, .inl (cZ, 10, .inl (fun _ => 0))), (n 8, .inl (cI, 10, .inl fc)), (n 9, .inl (cI, 10, .inl (fun _ => 0))), (n 10, .inl (cI, 10, .inl (fun _ => 0))), (n 11, .inl (cI, 10, .inl (fun _ => 0))), (n 12, .inl (cI, 48, .inl (fun _ => 0))), (n 13, .inl (cI, 10, .inl (fun _ => 0))), (n 14, .inl (cI, 80, .inl (fun _ => 0))), (n 17, .inl (cI, 100, .inl (fun _ => 0))), (n 18, .inl (cI, 100, .inl (fun _ => 0))), (n 19, .inl (cI, 100, .inl (fun _ => 0))), (n 20, .inl (cI, 100, .inl (fun _ => 0))), (n 21, .inl (cI, 10, .inl (fun _ => 0))), (n 22, .inl (cI, 10, .inl (fun _ => 0))), (n 23, .inl (cI, 10, .inl (fun _ => 0))), (n 24, .inl (cI, 24, .inl (fun _ => 0))), (n 25, .inl (cI, 24, .inl (fun _ => 0))), (n 34, .inl (cI, 8, .inl (fun _ => 0))), (n 35, .inl (cI, 10240, .inl (fun _ => 0))), (n 39, .inl (cI, 10, .inl (fun _ => 0))), (n 40, .inl (cI, 10, .inl (fun _ => 0))), (n 41, .inl (cI, 1024, .inl (fun _ => 0))), (n 42, .inl (cI, 1024, .inl (fun _ => 0)))] H) (hD : va_D A [(q0, .inr (8, [.ref (a 1), .ref (a 2), .ref (a 3), .ref (a 4), .ref (a 5), .ref (a 6), .ref (a 7), .null, .int 0, .int 0, .int 0, .int 0])), (a 1, .inl (cI, 1600, .inl (fun _ => 0))), (a 2, .inl (cM, 10, .inr (.inr (.inr (.inr (fun _ => none)))))), (a 3, .inl (cI, 48, .inl (fun _ => 0))), (a 4, .inr (7, [.ref (a 8), .ref (a 9), .ref (a 10), .ref (a 11), .int 0])), (a 8, .inl (cI, 100, .inl (fun _ => 0))), (a 9, .inl (cI, 100, .inl (fun _ => 0))), (a 10, .inl (cI, 100, .inl (fun _ => 0))), (a 11, .inl (cI, 100, .inl (fun _ => 0))), (a 5, .inr (4, [.ref (a 12), .ref (a 13), .int 0, .int 0, .int 0, .int 1440, .int 1, .int 0, .int 12, .int 0])), (a 12, .inl (cI, 24, .inl (fun _ => 0))), (a 13, .inl (cI, 24, .inl (fun _ => 0))), (a 6, .inr (6, [.int 0, .int 0, .int 0, .int 0, .int 0, .int 0])), (a 7, .inr (3, [.ref (a 14), .int 0])), (a 14, .inl (cI, 8, .inl (fun _ => 0))), (q1, .inr (9, [.ref (n 0), .int 0, .ref (n 2), .ref (n 3), .ref (n 4), .ref (n 5), .ref (n 6), .int 0, .ref (n 8), .ref (n 9), .ref (n 10), .ref (n 11), .ref (n 12), .ref (n 13), .ref (n 14), .int 0, .int 0, .ref (n 17), .ref (n 18), .ref (n 19), .ref (n 20), .ref (n 21), .ref (n 22), .ref (n 23), .ref (n 24), .ref (n 25), .int 1, .int 0, .int 12, .int 0, .int 0, .int 0, .int 0, .int 1440, .ref (n 34), .ref (n 35), .int 0, .int 0, .int 0, .ref (n 39), .ref (n 40), .ref (n 41), .ref (n 42), .int 0, .int 0, .int 0])), (n 0, .inl (cI, 1600, .inl (fun _ => 0))), (n 2, .inl (cI, 10, .inl (fun _ => 0))), (n 3, .inl (cI, 10, .inl (fun _ => 0))), (n 4, .inl (cI, 10, .inl (fun _ => 0))), (n 5, .inl (cZ, 16000, .inl (fun _ => 0))), (n 6, .inl (cZ, 10, .inl (fun _ => 0))), (n 8, .inl (cI, 10, .inl fc)), (n 9, .inl (cI, 10, .inl (fun _ => 0))), (n 10, .inl (cI, 10, .inl (fun _ => 0))), (n 11, .inl (cI, 10, .inl (fun _ => 0))), (n 12, .inl (cI, 48, .inl (fun _ => 0))), (n 13, .inl (cI, 10, .inl (fun _ => 0))), (n 14, .inl (cI, 80, .inl (fun _ => 0))), (n 17, .inl (cI, 100, .inl (fun _ => 0))), (n 18, .inl (cI, 100, .inl (fun _ => 0))), (n 19, .inl (cI, 100, .inl (fun _ => 0))), (n 20, .inl (cI, 100, .inl (fun _ => 0))), (n 21, .inl (cI, 10, .inl (fun _ => 0))), (n 22, .inl (cI, 10, .inl (fun _ => 0))), (n 23, .inl (cI, 10, .inl (fun _ => 0))), (n 24, .inl (cI, 24, .inl (fun _ => 0))), (n 25, .inl (cI, 24, .inl (fun _ => 0))), (n 34, .inl (cI, 8, .inl (fun _ => 0))), (n 35, .inl (cI, 10240, .inl (fun _ => 0))), (n 39, .inl (cI, 10, .inl (fun _ => 0))), (n 40, .inl (cI, 10, .inl (fun _ => 0))), (n 41, .inl (cI, 1024, .inl (fun _ => 0))), (n 42, .inl (cI, 1024, .inl (fun _ => 0)))]) (hS : va_S A s.heap H locs) (hl : lv_has ls 4 [(3, .int 0), (2, .ref q1), (1, .ref q0), (0, .ref b)]) : W p l e room_1 s m #[Value.ref b] below meth c H locs 44 32807 (lw_Z below #[Value.ref b] s) (F0 m 916 ls []) := by
  obtain ⟨hx, hb, hr, hml, hown, hts0, hX, hbl, hlocks, hgv⟩ := id C0
  have hts := fun w h => hts0 w (wsL_law_in w h)
  have hbA : ¬ A b := fun h => Nat.not_le.mpr hbl (hA2 _ h)
  have hK := hG.1
  have hN := hG.2
  refine lv_aload_n hx hb dL_law_916 rfl (lv_at hl 2 rfl) ?_
  refine lv_aload_n hx hb dL_law_917 rfl (lv_at hl 3 rfl) ?_
  refine lv_iload_n hx hb dL_law_918 rfl (lv_at hl 0 rfl) ?_
  refine lv_iconst (v := 1) hx hb dL_law_919 (by decide) ?_
  refine lv_iadd hx hb dL_law_920 ?_
  refine lv_topi (fun z_1 ez_1 => ?_)
  obtain rfl : z_1 = 1 := ez_1.trans (by decide)
  refine va_sld hx hb hX hbl hbA hS (vp_in_nI (n := 1) (N := 7) (by decide) (by decide)) dL_law_921 ?_
  refine lv_aload_n hx hb dL_law_922 rfl (lv_at hl 3 rfl) ?_
  refine lv_iload_n hx hb dL_law_923 rfl (lv_at hl 0 rfl) ?_
  refine lv_iconst (v := 2) hx hb dL_law_924 (by decide) ?_
  refine lv_iadd hx hb dL_law_925 ?_
  refine lv_topi (fun z_2 ez_2 => ?_)
  obtain rfl : z_2 = 2 := ez_2.trans (by decide)
  refine va_sld hx hb hX hbl hbA hS (vp_in_nI (n := 2) (N := 7) (by decide) (by decide)) dL_law_926 ?_
  refine lv_aload_n hx hb dL_law_927 rfl (lv_at hl 3 rfl) ?_
  refine lv_iload_n hx hb dL_law_928 rfl (lv_at hl 0 rfl) ?_
  refine lv_iconst (v := 3) hx hb dL_law_929 (by decide) ?_
  refine lv_iadd hx hb dL_law_930 ?_
  refine lv_topi (fun z_3 ez_3 => ?_)
  obtain rfl : z_3 = 3 := ez_3.trans (by decide)
  refine va_sld hx hb hX hbl hbA hS (vp_in_nI (n := 3) (N := 7) (by decide) (by decide)) dL_law_931 ?_
  refine lv_aload_n hx hb dL_law_932 rfl (lv_at hl 3 rfl) ?_
  refine lv_iload_n hx hb dL_law_933 rfl (lv_at hl 0 rfl) ?_
  refine lv_iconst (v := 4) hx hb dL_law_934 (by decide) ?_
  refine lv_iadd hx hb dL_law_935 ?_
  refine lv_topi (fun z_4 ez_4 => ?_)
  obtain rfl : z_4 = 4 := ez_4.trans (by decide)
  refine va_sld hx hb hX hbl hbA hS (vp_in_nI (n := 4) (N := 7) (by decide) (by decide)) dL_law_936 ?_
  have hPc := hP.sub (ws' := [(q0, .inr (8, [.ref (a 1), .ref (a 2), .ref (a 3), .ref (a 4), .ref (a 5), .ref (a 6), .ref (a 7), .null, .int 0, .int 0, .int 0, .int 0])), (a 5, .inr (4, [.ref (a 12), .ref (a 13), .int 0, .int 0, .int 0, .int 1440, .int 1, .int 0, .int 12, .int 0]))]) [0, 9] rfl
  have hDc := hD.sub (ws' := [(q0, .inr (8, [.ref (a 1), .ref (a 2), .ref (a 3), .ref (a 4), .ref (a 5), .ref (a 6), .ref (a 7), .null, .int 0, .int 0, .int 0, .int 0])), (a 5, .inr (4, [.ref (a 12), .ref (a 13), .int 0, .int 0, .int 0, .int 1440, .int 1, .int 0, .int 12, .int 0]))]) [0, 9] (by decide) rfl
  have hFc := va_free (wc := [(q0, .inr (8, [.ref (a 1), .ref (a 2), .ref (a 3), .ref (a 4), .ref (a 5), .ref (a 6), .ref (a 7), .null, .int 0, .int 0, .int 0, .int 0])), (a 5, .inr (4, [.ref (a 12), .ref (a 13), .int 0, .int 0, .int 0, .int 1440, .int 1, .int 0, .int 12, .int 0]))]) hD hS hA [0, 9] rfl
  refine va_calli (va_runV (As := [.int (xs (1 : Int32).toNatClampNeg), .int (xs (2 : Int32).toNatClampNeg), .int (xs (3 : Int32).toNatClampNeg), .int (xs (4 : Int32).toNatClampNeg)]) (rest := []) ⟨hx, hb, hml, hown, hts⟩ (k_X8_ship l D cI cJ cZ cM q0 a (xs (1 : Int32).toNatClampNeg) (xs (2 : Int32).toNatClampNeg) (xs (3 : Int32).toNatClampNeg) (xs (4 : Int32).toNatClampNeg) _) (cwV 4 hts gL_law_X8_ship rfl rfl rfl (by decide +kernel) ⟨Nat.le_of_ble_eq_true rfl, Nat.le_of_ble_eq_true rfl⟩) (rw_V hG hPc hDc (va_recv hK hPc (ci := 8) (q0 := 0) rfl rfl)) rfl rfl hl.1 rfl (lv_room (Nat.le_of_ble_eq_true rfl)) dL_law_937 ⟨Nat.le_of_ble_eq_true rfl, Nat.le_of_ble_eq_true rfl⟩) hS (fun q _ h => hFc q h) hFc (fun r_5 u_5 t_5 H1 locs ht hvm h_5 hB hz1 hk1 hS => ?_)
  obtain ⟨hP, hD⟩ := va_join (wr := [(q1, .inr (9, [.ref (n 0), .int 0, .ref (n 2), .ref (n 3), .ref (n 4), .ref (n 5), .ref (n 6), .int 0, .ref (n 8), .ref (n 9), .ref (n 10), .ref (n 11), .ref (n 12), .ref (n 13), .ref (n 14), .int 0, .int 0, .ref (n 17), .ref (n 18), .ref (n 19), .ref (n 20), .ref (n 21), .ref (n 22), .ref (n 23), .ref (n 24), .ref (n 25), .int 1, .int 0, .int 12, .int 0, .int 0, .int 0, .int 0, .int 1440, .ref (n 34), .ref (n 35), .int 0, .int 0, .int 0, .ref (n 39), .ref (n 40), .ref (n 41), .ref (n 42), .int 0, .int 0, .int 0]))]) (w1 := []) hP hD [0, 9] [15] rfl rfl (by decide) (by decide) hk1 hFc (fun k q h => by simp at h) ⟨fun i j p q h => by simp at h, fun k q h => by simp at h⟩
  generalize H1 = H at hP hS ⊢
  have hP : va_P D vwCl [(q1, .inr (9, [.ref (n 0), .int 0, .ref (n 2), .ref (n 3), .ref (n 4), .ref (n 5), .ref (n 6), .int 0, .ref (n 8), .ref (n 9), .ref (n 10), .ref (n 11), .ref (n 12), .ref (n 13), .ref (n 14), .int 0, .int 0, .ref (n 17), .ref (n 18), .ref (n 19), .ref (n 20), .ref (n 21), .ref (n 22), .ref (n 23), .ref (n 24), .ref (n 25), .int 1, .int 0, .int 12, .int 0, .int 0, .int 0, .int 0, .int 1440, .ref (n 34), .ref (n 35), .int 0, .int 0, .int 0, .ref (n 39), .ref (n 40), .ref (n 41), .ref (n 42), .int 0, .int 0, .int 0]))] H := hP
  have hD : va_D A [(q1, .inr (9, [.ref (n 0), .int 0, .ref (n 2), .ref (n 3), .ref (n 4), .ref (n 5), .ref (n 6), .int 0, .ref (n 8), .ref (n 9), .ref (n 10), .ref (n 11), .ref (n 12), .ref (n 13), .ref (n 14), .int 0, .int 0, .ref (n 17), .ref (n 18), .ref (n 19), .ref (n 20), .ref (n 21), .ref (n 22), .ref (n 23), .ref (n 24), .ref (n 25), .int 1, .int 0, .int 12, .int 0, .int 0, .int 0, .int 0, .int 1440, .ref (n 34), .ref (n 35), .int 0, .int 0, .int 0, .ref (n 39), .ref (n 40), .ref (n 41), .ref (n 42), .int 0, .int 0, .int 0]))] := hD
  refine W.widen (k := 44) (n := 32807) (by decide) (by decide) ?_
  rcases h_5 with ⟨rfl, h_5⟩ | ⟨rfl, h_5⟩
  · refine lv_aload_n hx hb dL_law_940 rfl (lv_at hl 1 rfl) ?_
    refine lv_aload_n hx hb dL_law_941 rfl (lv_at hl 3 rfl) ?_
    refine lv_iload_n hx hb dL_law_942 rfl (lv_at hl 0 rfl) ?_
    refine lv_iconst (v := 1) hx hb dL_law_943 (by decide) ?_
    refine lv_iadd hx hb dL_law_944 ?_
    refine lv_topi (fun z_6 ez_6 => ?_)
    obtain rfl : z_6 = 1 := ez_6.trans (by decide)
    refine va_sld hx hb hX hbl hbA hS (vp_in_nI (n := 1) (N := 7) (by decide) (by decide)) dL_law_945 ?_
    refine lv_aload_n hx hb dL_law_946 rfl (lv_at hl 3 rfl) ?_
    refine lv_iload_n hx hb dL_law_947 rfl (lv_at hl 0 rfl) ?_
    refine lv_iconst (v := 2) hx hb dL_law_948 (by decide) ?_
    refine lv_iadd hx hb dL_law_949 ?_
    refine lv_topi (fun z_7 ez_7 => ?_)
    obtain rfl : z_7 = 2 := ez_7.trans (by decide)
    refine va_sld hx hb hX hbl hbA hS (vp_in_nI (n := 2) (N := 7) (by decide) (by decide)) dL_law_950 ?_
    refine lv_aload_n hx hb dL_law_951 rfl (lv_at hl 3 rfl) ?_
    refine lv_iload_n hx hb dL_law_952 rfl (lv_at hl 0 rfl) ?_
    refine lv_iconst (v := 3) hx hb dL_law_953 (by decide) ?_
    refine lv_iadd hx hb dL_law_954 ?_
    refine lv_topi (fun z_8 ez_8 => ?_)
    obtain rfl : z_8 = 3 := ez_8.trans (by decide)
    refine va_sld hx hb hX hbl hbA hS (vp_in_nI (n := 3) (N := 7) (by decide) (by decide)) dL_law_955 ?_
    refine lv_aload_n hx hb dL_law_956 rfl (lv_at hl 3 rfl) ?_
    refine lv_iload_n hx hb dL_law_957 rfl (lv_at hl 0 rfl) ?_
    refine lv_iconst (v := 4) hx hb dL_law_958 (by decide) ?_
    refine lv_iadd hx hb dL_law_959 ?_
    refine lv_topi (fun z_9 ez_9 => ?_)
    obtain rfl : z_9 = 4 := ez_9.trans (by decide)
    refine va_sld hx hb hX hbl hbA hS (vp_in_nI (n := 4) (N := 7) (by decide) (by decide)) dL_law_960 ?_
    have hPc := hP.sub (ws' := [(q1, .inr (9, [.ref (n 0), .int 0, .ref (n 2), .ref (n 3), .ref (n 4), .ref (n 5), .ref (n 6), .int 0, .ref (n 8), .ref (n 9), .ref (n 10), .ref (n 11), .ref (n 12), .ref (n 13), .ref (n 14), .int 0, .int 0, .ref (n 17), .ref (n 18), .ref (n 19), .ref (n 20), .ref (n 21), .ref (n 22), .ref (n 23), .ref (n 24), .ref (n 25), .int 1, .int 0, .int 12, .int 0, .int 0, .int 0, .int 0, .int 1440, .ref (n 34), .ref (n 35), .int 0, .int 0, .int 0, .ref (n 39), .ref (n 40), .ref (n 41), .ref (n 42), .int 0, .int 0, .int 0]))]) [0] rfl
    have hDc := hD.sub (ws' := [(q1, .inr (9, [.ref (n 0), .int 0, .ref (n 2), .ref (n 3), .ref (n 4), .ref (n 5), .ref (n 6), .int 0, .ref (n 8), .ref (n 9), .ref (n 10), .ref (n 11), .ref (n 12), .ref (n 13), .ref (n 14), .int 0, .int 0, .ref (n 17), .ref (n 18), .ref (n 19), .ref (n 20), .ref (n 21), .ref (n 22), .ref (n 23), .ref (n 24), .ref (n 25), .int 1, .int 0, .int 12, .int 0, .int 0, .int 0, .int 0, .int 1440, .ref (n 34), .ref (n 35), .int 0, .int 0, .int 0, .ref (n 39), .ref (n 40), .ref (n 41), .ref (n 42), .int 0, .int 0, .int 0]))]) [0] (by decide) rfl
    have hFc := va_free (wc := [(q1, .inr (9, [.ref (n 0), .int 0, .ref (n 2), .ref (n 3), .ref (n 4), .ref (n 5), .ref (n 6), .int 0, .ref (n 8), .ref (n 9), .ref (n 10), .ref (n 11), .ref (n 12), .ref (n 13), .ref (n 14), .int 0, .int 0, .ref (n 17), .ref (n 18), .ref (n 19), .ref (n 20), .ref (n 21), .ref (n 22), .ref (n 23), .ref (n 24), .ref (n 25), .int 1, .int 0, .int 12, .int 0, .int 0, .int 0, .int 0, .int 1440, .ref (n 34), .ref (n 35), .int 0, .int 0, .int 0, .ref (n 39), .ref (n 40), .ref (n 41), .ref (n 42), .int 0, .int 0, .int 0]))]) hD hS hA [0] rfl
    refine va_calli (va_runV (As := [.int (xs (1 : Int32).toNatClampNeg), .int (xs (2 : Int32).toNatClampNeg), .int (xs (3 : Int32).toNatClampNeg), .int (xs (4 : Int32).toNatClampNeg)]) (rest := [.int 1]) ⟨hx, hb, hml, hown, hts⟩ (k_X9_ship l D cI cJ cZ cM q1 n (xs (1 : Int32).toNatClampNeg) (xs (2 : Int32).toNatClampNeg) (xs (3 : Int32).toNatClampNeg) (xs (4 : Int32).toNatClampNeg) _) (cwV 4 hts gL_law_X9_ship rfl rfl rfl (by decide +kernel) ⟨Nat.le_of_ble_eq_true rfl, Nat.le_of_ble_eq_true rfl⟩) (rw_V hG hPc hDc (va_recv hK hPc (ci := 9) (q0 := 0) rfl rfl)) rfl rfl hl.1 rfl (lv_room (Nat.le_of_ble_eq_true rfl)) dL_law_961 ⟨Nat.le_of_ble_eq_true rfl, Nat.le_of_ble_eq_true rfl⟩) hS (fun q _ h => hFc q h) hFc (fun r_10 u_10 t_10 H1 locs ht hvm h_10 hB hz1 hk1 hS => ?_)
    obtain ⟨hP, hD⟩ := va_join (wr := []) (w1 := []) hP hD [0] [] rfl rfl (by decide) (by decide) hk1 hFc (fun k q h => by simp at h) ⟨fun i j p q h => by simp at h, fun k q h => by simp at h⟩
    generalize H1 = H at hP hS ⊢
    have hP : va_P D vwCl [] H := hP
    have hD : va_D A [] := hD
    refine W.widen (k := 44) (n := 32807) (by decide) (by decide) ?_
    rcases h_10 with ⟨rfl, h_10⟩ | ⟨rfl, h_10⟩
    · refine lv_icmp_eq (tgt := 1068) hx hb dL_law_964 (by decide) (fun _ => ?_) (fun c_11 => False.elim (by revert c_11; decide))
      exact law_end C0 hG hA hA2 hS (by decide) (by decide) (lv_sub hl [3, 0] rfl)
    exact absurd h_5 h_10
  refine lv_aload_n hx hb dL_law_940 rfl (lv_at hl 1 rfl) ?_
  refine lv_aload_n hx hb dL_law_941 rfl (lv_at hl 3 rfl) ?_
  refine lv_iload_n hx hb dL_law_942 rfl (lv_at hl 0 rfl) ?_
  refine lv_iconst (v := 1) hx hb dL_law_943 (by decide) ?_
  refine lv_iadd hx hb dL_law_944 ?_
  refine lv_topi (fun z_12 ez_12 => ?_)
  obtain rfl : z_12 = 1 := ez_12.trans (by decide)
  refine va_sld hx hb hX hbl hbA hS (vp_in_nI (n := 1) (N := 7) (by decide) (by decide)) dL_law_945 ?_
  refine lv_aload_n hx hb dL_law_946 rfl (lv_at hl 3 rfl) ?_
  refine lv_iload_n hx hb dL_law_947 rfl (lv_at hl 0 rfl) ?_
  refine lv_iconst (v := 2) hx hb dL_law_948 (by decide) ?_
  refine lv_iadd hx hb dL_law_949 ?_
  refine lv_topi (fun z_13 ez_13 => ?_)
  obtain rfl : z_13 = 2 := ez_13.trans (by decide)
  refine va_sld hx hb hX hbl hbA hS (vp_in_nI (n := 2) (N := 7) (by decide) (by decide)) dL_law_950 ?_
  refine lv_aload_n hx hb dL_law_951 rfl (lv_at hl 3 rfl) ?_
  refine lv_iload_n hx hb dL_law_952 rfl (lv_at hl 0 rfl) ?_
  refine lv_iconst (v := 3) hx hb dL_law_953 (by decide) ?_
  refine lv_iadd hx hb dL_law_954 ?_
  refine lv_topi (fun z_14 ez_14 => ?_)
  obtain rfl : z_14 = 3 := ez_14.trans (by decide)
  refine va_sld hx hb hX hbl hbA hS (vp_in_nI (n := 3) (N := 7) (by decide) (by decide)) dL_law_955 ?_
  refine lv_aload_n hx hb dL_law_956 rfl (lv_at hl 3 rfl) ?_
  refine lv_iload_n hx hb dL_law_957 rfl (lv_at hl 0 rfl) ?_
  refine lv_iconst (v := 4) hx hb dL_law_958 (by decide) ?_
  refine lv_iadd hx hb dL_law_959 ?_
  refine lv_topi (fun z_15 ez_15 => ?_)
  obtain rfl : z_15 = 4 := ez_15.trans (by decide)
  refine va_sld hx hb hX hbl hbA hS (vp_in_nI (n := 4) (N := 7) (by decide) (by decide)) dL_law_960 ?_
  have hPc := hP.sub (ws' := [(q1, .inr (9, [.ref (n 0), .int 0, .ref (n 2), .ref (n 3), .ref (n 4), .ref (n 5), .ref (n 6), .int 0, .ref (n 8), .ref (n 9), .ref (n 10), .ref (n 11), .ref (n 12), .ref (n 13), .ref (n 14), .int 0, .int 0, .ref (n 17), .ref (n 18), .ref (n 19), .ref (n 20), .ref (n 21), .ref (n 22), .ref (n 23), .ref (n 24), .ref (n 25), .int 1, .int 0, .int 12, .int 0, .int 0, .int 0, .int 0, .int 1440, .ref (n 34), .ref (n 35), .int 0, .int 0, .int 0, .ref (n 39), .ref (n 40), .ref (n 41), .ref (n 42), .int 0, .int 0, .int 0]))]) [0] rfl
  have hDc := hD.sub (ws' := [(q1, .inr (9, [.ref (n 0), .int 0, .ref (n 2), .ref (n 3), .ref (n 4), .ref (n 5), .ref (n 6), .int 0, .ref (n 8), .ref (n 9), .ref (n 10), .ref (n 11), .ref (n 12), .ref (n 13), .ref (n 14), .int 0, .int 0, .ref (n 17), .ref (n 18), .ref (n 19), .ref (n 20), .ref (n 21), .ref (n 22), .ref (n 23), .ref (n 24), .ref (n 25), .int 1, .int 0, .int 12, .int 0, .int 0, .int 0, .int 0, .int 1440, .ref (n 34), .ref (n 35), .int 0, .int 0, .int 0, .ref (n 39), .ref (n 40), .ref (n 41), .ref (n 42), .int 0, .int 0, .int 0]))]) [0] (by decide) rfl
  have hFc := va_free (wc := [(q1, .inr (9, [.ref (n 0), .int 0, .ref (n 2), .ref (n 3), .ref (n 4), .ref (n 5), .ref (n 6), .int 0, .ref (n 8), .ref (n 9), .ref (n 10), .ref (n 11), .ref (n 12), .ref (n 13), .ref (n 14), .int 0, .int 0, .ref (n 17), .ref (n 18), .ref (n 19), .ref (n 20), .ref (n 21), .ref (n 22), .ref (n 23), .ref (n 24), .ref (n 25), .int 1, .int 0, .int 12, .int 0, .int 0, .int 0, .int 0, .int 1440, .ref (n 34), .ref (n 35), .int 0, .int 0, .int 0, .ref (n 39), .ref (n 40), .ref (n 41), .ref (n 42), .int 0, .int 0, .int 0]))]) hD hS hA [0] rfl
  refine va_calli (va_runV (As := [.int (xs (1 : Int32).toNatClampNeg), .int (xs (2 : Int32).toNatClampNeg), .int (xs (3 : Int32).toNatClampNeg), .int (xs (4 : Int32).toNatClampNeg)]) (rest := [.int 0]) ⟨hx, hb, hml, hown, hts⟩ (k_X9_ship l D cI cJ cZ cM q1 n (xs (1 : Int32).toNatClampNeg) (xs (2 : Int32).toNatClampNeg) (xs (3 : Int32).toNatClampNeg) (xs (4 : Int32).toNatClampNeg) _) (cwV 4 hts gL_law_X9_ship rfl rfl rfl (by decide +kernel) ⟨Nat.le_of_ble_eq_true rfl, Nat.le_of_ble_eq_true rfl⟩) (rw_V hG hPc hDc (va_recv hK hPc (ci := 9) (q0 := 0) rfl rfl)) rfl rfl hl.1 rfl (lv_room (Nat.le_of_ble_eq_true rfl)) dL_law_961 ⟨Nat.le_of_ble_eq_true rfl, Nat.le_of_ble_eq_true rfl⟩) hS (fun q _ h => hFc q h) hFc (fun r_16 u_16 t_16 H1 locs ht hvm h_16 hB hz1 hk1 hS => ?_)
  obtain ⟨hP, hD⟩ := va_join (wr := []) (w1 := []) hP hD [0] [] rfl rfl (by decide) (by decide) hk1 hFc (fun k q h => by simp at h) ⟨fun i j p q h => by simp at h, fun k q h => by simp at h⟩
  generalize H1 = H at hP hS ⊢
  have hP : va_P D vwCl [] H := hP
  have hD : va_D A [] := hD
  refine W.widen (k := 44) (n := 32807) (by decide) (by decide) ?_
  rcases h_16 with ⟨rfl, h_16⟩ | ⟨rfl, h_16⟩
  · exact absurd h_16 h_5
  refine lv_icmp_eq (tgt := 1068) hx hb dL_law_964 (by decide) (fun _ => ?_) (fun c_17 => False.elim (by revert c_17; decide))
  exact law_end C0 hG hA hA2 hS (by decide) (by decide) (lv_sub hl [3, 0] rfl)
set_option maxHeartbeats 4000000 in
set_option maxRecDepth 100000 in
/-- the call of at, and the answers' likeness -/
theorem law_21 {p : Program} {l : Launch} {e : Env} {s : State} {m : MethodId} {below : List Frame} {meth : Method} {c : Code} {b : Nat} {xs : Nat → Int32} {D : va_G} {cI cJ cZ cM : Nat} {A : Nat → Prop} {q0 q1 : Nat} {a n : Nat → Nat} {fc : Nat → Int32} {H : Heap} {locs : List Loc} {ls : Array Slot} (C0 : lw_At p s m meth c b 7 xs) (hG : GK D cI cJ cZ cM s) (hA : ∀ q : Nat, s.heap.size ≤ q → A q) (hA2 : ∀ q : Nat, A q → s.heap.size ≤ q) (hP : va_P D vwCl [(q0, .inr (8, [.ref (a 1), .ref (a 2), .ref (a 3), .ref (a 4), .ref (a 5), .ref (a 6), .ref (a 7), .null, .int 0, .int 0, .int 0, .int 0])), (a 1, .inl (cI, 1600, .inl (fun _ => 0))), (a 2, .inl (cM, 10, .inr (.inr (.inr (.inr (fun _ => none)))))), (a 3, .inl (cI, 48, .inl (fun _ => 0))), (a 4, .inr (7, [.ref (a 8), .ref (a 9), .ref (a 10), .ref (a 11), .int 0])), (a 8, .inl (cI, 100, .inl (fun _ => 0))), (a 9, .inl (cI, 100, .inl (fun _ => 0))), (a 10, .inl (cI, 100, .inl (fun _ => 0))), (a 11, .inl (cI, 100, .inl (fun _ => 0))), (a 5, .inr (4, [.ref (a 12), .ref (a 13), .int 0, .int 0, .int 0, .int 1440, .int 1, .int 0, .int 12, .int 0])), (a 12, .inl (cI, 24, .inl (fun _ => 0))), (a 13, .inl (cI, 24, .inl (fun _ => 0))), (a 6, .inr (6, [.int 0, .int 0, .int 0, .int 0, .int 0, .int 0])), (a 7, .inr (3, [.ref (a 14), .int 0])), (a 14, .inl (cI, 8, .inl (fun _ => 0))), (q1, .inr (9, [.ref (n 0), .int 0, .ref (n 2), .ref (n 3), .ref (n 4), .ref (n 5), .ref (n 6), .int 0, .ref (n 8), .ref (n 9), .ref (n 10), .ref (n 11), .ref (n 12), .ref (n 13), .ref (n 14), .int 0, .int 0, .ref (n 17), .ref (n 18), .ref (n 19), .ref (n 20), .ref (n 21), .ref (n 22), .ref (n 23), .ref (n 24), .ref (n 25), .int 1, .int 0, .int 12, .int 0, .int 0, .int 0, .int 0, .int 1440, .ref (n 34), .ref (n 35), .int 0, .int 0, .int 0, .ref (n 39), .ref (n 40), .ref (n 41), .ref (n 42), .int 0, .int 0, .int 0])), (n 0, .inl (cI, 1600, .inl (fun _ => 0))), (n 2, .inl (cI, 10, .inl (fun _ => 0))), (n 3, .inl (cI, 10, .inl (fun _ => 0))), (n 4, .inl (cI, 10, .inl (fun _ => 0))), (n 5, .inl (cZ, 16000, .inl (fun _ => 0))), (n 6, .inl (cZ, 10, .inl (fun _ => 0))), (n 8, .inl (cI, 10, .inl fc)), (n 9, .inl (cI, 10, .inl (fun _ => 0))), (n 10, .inl (cI, 10, .inl (fun _ => 0))), (n 11, .inl (cI, 10, .inl (fun _ => 0))), (n 12, .inl (cI, 48, .inl (fun _ => 0))), (n 13, .inl (cI, 10, .inl (fun _ => 0))), (n 14, .inl (cI, 80, .inl (fun _ => 0))), (n 17, .inl (cI, 100, .inl (fun _ => 0))), (n 18, .inl (cI, 100, .inl (fun _ => 0))), (n 19, .inl (cI, 100, .inl (fun _ => 0))), (n 20, .inl (cI, 100, .inl (fun _ => 0))), (n 21, .inl (cI, 10, .inl (fun _ => 0))), (n 22, .inl (cI, 10, .inl (fun _ => 0))), (n 23, .inl (cI, 10, .inl (fun _ => 0))), (n 24, .inl (cI, 24, .inl (fun _ => 0))), (n 25, .inl (cI, 24, .inl (fun _ => 0))), (n 34, .inl (cI, 8, .inl (fun _ => 0))), (n 35, .inl (cI, 10240, .inl (fun _ => 0))), (n 39, .inl (cI, 10, .inl (fun _ => 0))), (n 40, .inl (cI, 10, .inl (fun _ => 0))), (n 41, .inl (cI, 1024, .inl (fun _ => 0))), (n 42, .inl (cI, 1024, .inl (fun _ => 0)))] H) (hD : va_D A [(q0, .inr (8, [.ref (a 1), .ref (a 2), .ref (a 3), .ref (a 4), .ref (a 5), .ref (a 6), .ref (a 7), .null, .int 0, .int 0, .int 0, .int 0])), (a 1, .inl (cI, 1600, .inl (fun _ => 0))), (a 2, .inl (cM, 10, .inr (.inr (.inr (.inr (fun _ => none)))))), (a 3, .inl (cI, 48, .inl (fun _ => 0))), (a 4, .inr (7, [.ref (a 8), .ref (a 9), .ref (a 10), .ref (a 11), .int 0])), (a 8, .inl (cI, 100, .inl (fun _ => 0))), (a 9, .inl (cI, 100, .inl (fun _ => 0))), (a 10, .inl (cI, 100, .inl (fun _ => 0))), (a 11, .inl (cI, 100, .inl (fun _ => 0))), (a 5, .inr (4, [.ref (a 12), .ref (a 13), .int 0, .int 0, .int 0, .int 1440, .int 1, .int 0, .int 12, .int 0])), (a 12, .inl (cI, 24, .inl (fun _ => 0))), (a 13, .inl (cI, 24, .inl (fun _ => 0))), (a 6, .inr (6, [.int 0, .int 0, .int 0, .int 0, .int 0, .int 0])), (a 7, .inr (3, [.ref (a 14), .int 0])), (a 14, .inl (cI, 8, .inl (fun _ => 0))), (q1, .inr (9, [.ref (n 0), .int 0, .ref (n 2), .ref (n 3), .ref (n 4), .ref (n 5), .ref (n 6), .int 0, .ref (n 8), .ref (n 9), .ref (n 10), .ref (n 11), .ref (n 12), .ref (n 13), .ref (n 14), .int 0, .int 0, .ref (n 17), .ref (n 18), .ref (n 19), .ref (n 20), .ref (n 21), .ref (n 22), .ref (n 23), .ref (n 24), .ref (n 25), .int 1, .int 0, .int 12, .int 0, .int 0, .int 0, .int 0, .int 1440, .ref (n 34), .ref (n 35), .int 0, .int 0, .int 0, .ref (n 39), .ref (n 40), .ref (n 41), .ref (n 42), .int 0, .int 0, .int 0])), (n 0, .inl (cI, 1600, .inl (fun _ => 0))), (n 2, .inl (cI, 10, .inl (fun _ => 0))), (n 3, .inl (cI, 10, .inl (fun _ => 0))), (n 4, .inl (cI, 10, .inl (fun _ => 0))), (n 5, .inl (cZ, 16000, .inl (fun _ => 0))), (n 6, .inl (cZ, 10, .inl (fun _ => 0))), (n 8, .inl (cI, 10, .inl fc)), (n 9, .inl (cI, 10, .inl (fun _ => 0))), (n 10, .inl (cI, 10, .inl (fun _ => 0))), (n 11, .inl (cI, 10, .inl (fun _ => 0))), (n 12, .inl (cI, 48, .inl (fun _ => 0))), (n 13, .inl (cI, 10, .inl (fun _ => 0))), (n 14, .inl (cI, 80, .inl (fun _ => 0))), (n 17, .inl (cI, 100, .inl (fun _ => 0))), (n 18, .inl (cI, 100, .inl (fun _ => 0))), (n 19, .inl (cI, 100, .inl (fun _ => 0))), (n 20, .inl (cI, 100, .inl (fun _ => 0))), (n 21, .inl (cI, 10, .inl (fun _ => 0))), (n 22, .inl (cI, 10, .inl (fun _ => 0))), (n 23, .inl (cI, 10, .inl (fun _ => 0))), (n 24, .inl (cI, 24, .inl (fun _ => 0))), (n 25, .inl (cI, 24, .inl (fun _ => 0))), (n 34, .inl (cI, 8, .inl (fun _ => 0))), (n 35, .inl (cI, 10240, .inl (fun _ => 0))), (n 39, .inl (cI, 10, .inl (fun _ => 0))), (n 40, .inl (cI, 10, .inl (fun _ => 0))), (n 41, .inl (cI, 1024, .inl (fun _ => 0))), (n 42, .inl (cI, 1024, .inl (fun _ => 0)))]) (hS : va_S A s.heap H locs) (hl : lv_has ls 4 [(3, .int 0), (2, .ref q1), (1, .ref q0), (0, .ref b)]) : W p l e room_1 s m #[Value.ref b] below meth c H locs 44 32807 (lw_Z below #[Value.ref b] s) (F0 m 969 ls []) := by
  obtain ⟨hx, hb, hr, hml, hown, hts0, hX, hbl, hlocks, hgv⟩ := id C0
  have hts := fun w h => hts0 w (wsL_law_in w h)
  have hbA : ¬ A b := fun h => Nat.not_le.mpr hbl (hA2 _ h)
  have hK := hG.1
  have hN := hG.2
  refine lv_aload_n hx hb dL_law_969 rfl (lv_at hl 2 rfl) ?_
  refine lv_aload_n hx hb dL_law_970 rfl (lv_at hl 3 rfl) ?_
  refine lv_iload_n hx hb dL_law_971 rfl (lv_at hl 0 rfl) ?_
  refine lv_iconst (v := 1) hx hb dL_law_972 (by decide) ?_
  refine lv_iadd hx hb dL_law_973 ?_
  refine lv_topi (fun z_1 ez_1 => ?_)
  obtain rfl : z_1 = 1 := ez_1.trans (by decide)
  refine va_sld hx hb hX hbl hbA hS (vp_in_nI (n := 1) (N := 7) (by decide) (by decide)) dL_law_974 ?_
  refine lv_aload_n hx hb dL_law_975 rfl (lv_at hl 3 rfl) ?_
  refine lv_iload_n hx hb dL_law_976 rfl (lv_at hl 0 rfl) ?_
  refine lv_iconst (v := 2) hx hb dL_law_977 (by decide) ?_
  refine lv_iadd hx hb dL_law_978 ?_
  refine lv_topi (fun z_2 ez_2 => ?_)
  obtain rfl : z_2 = 2 := ez_2.trans (by decide)
  refine va_sld hx hb hX hbl hbA hS (vp_in_nI (n := 2) (N := 7) (by decide) (by decide)) dL_law_979 ?_
  refine lv_aload_n hx hb dL_law_980 rfl (lv_at hl 3 rfl) ?_
  refine lv_iload_n hx hb dL_law_981 rfl (lv_at hl 0 rfl) ?_
  refine lv_iconst (v := 3) hx hb dL_law_982 (by decide) ?_
  refine lv_iadd hx hb dL_law_983 ?_
  refine lv_topi (fun z_3 ez_3 => ?_)
  obtain rfl : z_3 = 3 := ez_3.trans (by decide)
  refine va_sld hx hb hX hbl hbA hS (vp_in_nI (n := 3) (N := 7) (by decide) (by decide)) dL_law_984 ?_
  refine lv_aload_n hx hb dL_law_985 rfl (lv_at hl 3 rfl) ?_
  refine lv_iload_n hx hb dL_law_986 rfl (lv_at hl 0 rfl) ?_
  refine lv_iconst (v := 4) hx hb dL_law_987 (by decide) ?_
  refine lv_iadd hx hb dL_law_988 ?_
  refine lv_topi (fun z_4 ez_4 => ?_)
  obtain rfl : z_4 = 4 := ez_4.trans (by decide)
  refine va_sld hx hb hX hbl hbA hS (vp_in_nI (n := 4) (N := 7) (by decide) (by decide)) dL_law_989 ?_
  have hPc := hP.sub (ws' := [(q0, .inr (8, [.ref (a 1), .ref (a 2), .ref (a 3), .ref (a 4), .ref (a 5), .ref (a 6), .ref (a 7), .null, .int 0, .int 0, .int 0, .int 0])), (a 5, .inr (4, [.ref (a 12), .ref (a 13), .int 0, .int 0, .int 0, .int 1440, .int 1, .int 0, .int 12, .int 0]))]) [0, 9] rfl
  have hDc := hD.sub (ws' := [(q0, .inr (8, [.ref (a 1), .ref (a 2), .ref (a 3), .ref (a 4), .ref (a 5), .ref (a 6), .ref (a 7), .null, .int 0, .int 0, .int 0, .int 0])), (a 5, .inr (4, [.ref (a 12), .ref (a 13), .int 0, .int 0, .int 0, .int 1440, .int 1, .int 0, .int 12, .int 0]))]) [0, 9] (by decide) rfl
  have hFc := va_free (wc := [(q0, .inr (8, [.ref (a 1), .ref (a 2), .ref (a 3), .ref (a 4), .ref (a 5), .ref (a 6), .ref (a 7), .null, .int 0, .int 0, .int 0, .int 0])), (a 5, .inr (4, [.ref (a 12), .ref (a 13), .int 0, .int 0, .int 0, .int 1440, .int 1, .int 0, .int 12, .int 0]))]) hD hS hA [0, 9] rfl
  refine va_calli (va_runV (As := [.int (xs (1 : Int32).toNatClampNeg), .int (xs (2 : Int32).toNatClampNeg), .int (xs (3 : Int32).toNatClampNeg), .int (xs (4 : Int32).toNatClampNeg)]) (rest := []) ⟨hx, hb, hml, hown, hts⟩ (k_X8_at l D cI cJ cZ cM q0 a (xs (1 : Int32).toNatClampNeg) (xs (2 : Int32).toNatClampNeg) (xs (3 : Int32).toNatClampNeg) (xs (4 : Int32).toNatClampNeg) _) (cwV 4 hts gL_law_X8_at rfl rfl rfl (by decide +kernel) ⟨Nat.le_of_ble_eq_true rfl, Nat.le_of_ble_eq_true rfl⟩) (rw_V hG hPc hDc (va_recv hK hPc (ci := 8) (q0 := 0) rfl rfl)) rfl rfl hl.1 rfl (lv_room (Nat.le_of_ble_eq_true rfl)) dL_law_990 ⟨Nat.le_of_ble_eq_true rfl, Nat.le_of_ble_eq_true rfl⟩) hS (fun q _ h => hFc q h) hFc (fun r_5 u_5 t_5 H1 locs ht hvm h_5 hB hz1 hk1 hS => ?_)
  obtain ⟨hP, hD⟩ := va_join (wr := [(q1, .inr (9, [.ref (n 0), .int 0, .ref (n 2), .ref (n 3), .ref (n 4), .ref (n 5), .ref (n 6), .int 0, .ref (n 8), .ref (n 9), .ref (n 10), .ref (n 11), .ref (n 12), .ref (n 13), .ref (n 14), .int 0, .int 0, .ref (n 17), .ref (n 18), .ref (n 19), .ref (n 20), .ref (n 21), .ref (n 22), .ref (n 23), .ref (n 24), .ref (n 25), .int 1, .int 0, .int 12, .int 0, .int 0, .int 0, .int 0, .int 1440, .ref (n 34), .ref (n 35), .int 0, .int 0, .int 0, .ref (n 39), .ref (n 40), .ref (n 41), .ref (n 42), .int 0, .int 0, .int 0]))]) (w1 := []) hP hD [0, 9] [15] rfl rfl (by decide) (by decide) hk1 hFc (fun k q h => by simp at h) ⟨fun i j p q h => by simp at h, fun k q h => by simp at h⟩
  generalize H1 = H at hP hS ⊢
  have hP : va_P D vwCl [(q1, .inr (9, [.ref (n 0), .int 0, .ref (n 2), .ref (n 3), .ref (n 4), .ref (n 5), .ref (n 6), .int 0, .ref (n 8), .ref (n 9), .ref (n 10), .ref (n 11), .ref (n 12), .ref (n 13), .ref (n 14), .int 0, .int 0, .ref (n 17), .ref (n 18), .ref (n 19), .ref (n 20), .ref (n 21), .ref (n 22), .ref (n 23), .ref (n 24), .ref (n 25), .int 1, .int 0, .int 12, .int 0, .int 0, .int 0, .int 0, .int 1440, .ref (n 34), .ref (n 35), .int 0, .int 0, .int 0, .ref (n 39), .ref (n 40), .ref (n 41), .ref (n 42), .int 0, .int 0, .int 0]))] H := hP
  have hD : va_D A [(q1, .inr (9, [.ref (n 0), .int 0, .ref (n 2), .ref (n 3), .ref (n 4), .ref (n 5), .ref (n 6), .int 0, .ref (n 8), .ref (n 9), .ref (n 10), .ref (n 11), .ref (n 12), .ref (n 13), .ref (n 14), .int 0, .int 0, .ref (n 17), .ref (n 18), .ref (n 19), .ref (n 20), .ref (n 21), .ref (n 22), .ref (n 23), .ref (n 24), .ref (n 25), .int 1, .int 0, .int 12, .int 0, .int 0, .int 0, .int 0, .int 1440, .ref (n 34), .ref (n 35), .int 0, .int 0, .int 0, .ref (n 39), .ref (n 40), .ref (n 41), .ref (n 42), .int 0, .int 0, .int 0]))] := hD
  refine W.widen (k := 44) (n := 32807) (by decide) (by decide) ?_
  rcases h_5 with ⟨rfl, h_5⟩ | ⟨rfl, h_5⟩
  · refine lv_aload_n hx hb dL_law_993 rfl (lv_at hl 1 rfl) ?_
    refine lv_aload_n hx hb dL_law_994 rfl (lv_at hl 3 rfl) ?_
    refine lv_iload_n hx hb dL_law_995 rfl (lv_at hl 0 rfl) ?_
    refine lv_iconst (v := 1) hx hb dL_law_996 (by decide) ?_
    refine lv_iadd hx hb dL_law_997 ?_
    refine lv_topi (fun z_6 ez_6 => ?_)
    obtain rfl : z_6 = 1 := ez_6.trans (by decide)
    refine va_sld hx hb hX hbl hbA hS (vp_in_nI (n := 1) (N := 7) (by decide) (by decide)) dL_law_998 ?_
    refine lv_aload_n hx hb dL_law_999 rfl (lv_at hl 3 rfl) ?_
    refine lv_iload_n hx hb dL_law_1000 rfl (lv_at hl 0 rfl) ?_
    refine lv_iconst (v := 2) hx hb dL_law_1001 (by decide) ?_
    refine lv_iadd hx hb dL_law_1002 ?_
    refine lv_topi (fun z_7 ez_7 => ?_)
    obtain rfl : z_7 = 2 := ez_7.trans (by decide)
    refine va_sld hx hb hX hbl hbA hS (vp_in_nI (n := 2) (N := 7) (by decide) (by decide)) dL_law_1003 ?_
    refine lv_aload_n hx hb dL_law_1004 rfl (lv_at hl 3 rfl) ?_
    refine lv_iload_n hx hb dL_law_1005 rfl (lv_at hl 0 rfl) ?_
    refine lv_iconst (v := 3) hx hb dL_law_1006 (by decide) ?_
    refine lv_iadd hx hb dL_law_1007 ?_
    refine lv_topi (fun z_8 ez_8 => ?_)
    obtain rfl : z_8 = 3 := ez_8.trans (by decide)
    refine va_sld hx hb hX hbl hbA hS (vp_in_nI (n := 3) (N := 7) (by decide) (by decide)) dL_law_1008 ?_
    refine lv_aload_n hx hb dL_law_1009 rfl (lv_at hl 3 rfl) ?_
    refine lv_iload_n hx hb dL_law_1010 rfl (lv_at hl 0 rfl) ?_
    refine lv_iconst (v := 4) hx hb dL_law_1011 (by decide) ?_
    refine lv_iadd hx hb dL_law_1012 ?_
    refine lv_topi (fun z_9 ez_9 => ?_)
    obtain rfl : z_9 = 4 := ez_9.trans (by decide)
    refine va_sld hx hb hX hbl hbA hS (vp_in_nI (n := 4) (N := 7) (by decide) (by decide)) dL_law_1013 ?_
    have hPc := hP.sub (ws' := [(q1, .inr (9, [.ref (n 0), .int 0, .ref (n 2), .ref (n 3), .ref (n 4), .ref (n 5), .ref (n 6), .int 0, .ref (n 8), .ref (n 9), .ref (n 10), .ref (n 11), .ref (n 12), .ref (n 13), .ref (n 14), .int 0, .int 0, .ref (n 17), .ref (n 18), .ref (n 19), .ref (n 20), .ref (n 21), .ref (n 22), .ref (n 23), .ref (n 24), .ref (n 25), .int 1, .int 0, .int 12, .int 0, .int 0, .int 0, .int 0, .int 1440, .ref (n 34), .ref (n 35), .int 0, .int 0, .int 0, .ref (n 39), .ref (n 40), .ref (n 41), .ref (n 42), .int 0, .int 0, .int 0]))]) [0] rfl
    have hDc := hD.sub (ws' := [(q1, .inr (9, [.ref (n 0), .int 0, .ref (n 2), .ref (n 3), .ref (n 4), .ref (n 5), .ref (n 6), .int 0, .ref (n 8), .ref (n 9), .ref (n 10), .ref (n 11), .ref (n 12), .ref (n 13), .ref (n 14), .int 0, .int 0, .ref (n 17), .ref (n 18), .ref (n 19), .ref (n 20), .ref (n 21), .ref (n 22), .ref (n 23), .ref (n 24), .ref (n 25), .int 1, .int 0, .int 12, .int 0, .int 0, .int 0, .int 0, .int 1440, .ref (n 34), .ref (n 35), .int 0, .int 0, .int 0, .ref (n 39), .ref (n 40), .ref (n 41), .ref (n 42), .int 0, .int 0, .int 0]))]) [0] (by decide) rfl
    have hFc := va_free (wc := [(q1, .inr (9, [.ref (n 0), .int 0, .ref (n 2), .ref (n 3), .ref (n 4), .ref (n 5), .ref (n 6), .int 0, .ref (n 8), .ref (n 9), .ref (n 10), .ref (n 11), .ref (n 12), .ref (n 13), .ref (n 14), .int 0, .int 0, .ref (n 17), .ref (n 18), .ref (n 19), .ref (n 20), .ref (n 21), .ref (n 22), .ref (n 23), .ref (n 24), .ref (n 25), .int 1, .int 0, .int 12, .int 0, .int 0, .int 0, .int 0, .int 1440, .ref (n 34), .ref (n 35), .int 0, .int 0, .int 0, .ref (n 39), .ref (n 40), .ref (n 41), .ref (n 42), .int 0, .int 0, .int 0]))]) hD hS hA [0] rfl
    refine va_calli (va_runV (As := [.int (xs (1 : Int32).toNatClampNeg), .int (xs (2 : Int32).toNatClampNeg), .int (xs (3 : Int32).toNatClampNeg), .int (xs (4 : Int32).toNatClampNeg)]) (rest := [.int 1]) ⟨hx, hb, hml, hown, hts⟩ (k_X9_at l D cI cJ cZ cM q1 n (xs (1 : Int32).toNatClampNeg) (xs (2 : Int32).toNatClampNeg) (xs (3 : Int32).toNatClampNeg) (xs (4 : Int32).toNatClampNeg) _) (cwV 4 hts gL_law_X9_at rfl rfl rfl (by decide +kernel) ⟨Nat.le_of_ble_eq_true rfl, Nat.le_of_ble_eq_true rfl⟩) (rw_V hG hPc hDc (va_recv hK hPc (ci := 9) (q0 := 0) rfl rfl)) rfl rfl hl.1 rfl (lv_room (Nat.le_of_ble_eq_true rfl)) dL_law_1014 ⟨Nat.le_of_ble_eq_true rfl, Nat.le_of_ble_eq_true rfl⟩) hS (fun q _ h => hFc q h) hFc (fun r_10 u_10 t_10 H1 locs ht hvm h_10 hB hz1 hk1 hS => ?_)
    obtain ⟨hP, hD⟩ := va_join (wr := []) (w1 := []) hP hD [0] [] rfl rfl (by decide) (by decide) hk1 hFc (fun k q h => by simp at h) ⟨fun i j p q h => by simp at h, fun k q h => by simp at h⟩
    generalize H1 = H at hP hS ⊢
    have hP : va_P D vwCl [] H := hP
    have hD : va_D A [] := hD
    refine W.widen (k := 44) (n := 32807) (by decide) (by decide) ?_
    rcases h_10 with ⟨rfl, h_10⟩ | ⟨rfl, h_10⟩
    · refine lv_icmp_eq (tgt := 1068) hx hb dL_law_1017 (by decide) (fun _ => ?_) (fun c_11 => False.elim (by revert c_11; decide))
      exact law_end C0 hG hA hA2 hS (by decide) (by decide) (lv_sub hl [3, 0] rfl)
    exact absurd h_5 h_10
  refine lv_aload_n hx hb dL_law_993 rfl (lv_at hl 1 rfl) ?_
  refine lv_aload_n hx hb dL_law_994 rfl (lv_at hl 3 rfl) ?_
  refine lv_iload_n hx hb dL_law_995 rfl (lv_at hl 0 rfl) ?_
  refine lv_iconst (v := 1) hx hb dL_law_996 (by decide) ?_
  refine lv_iadd hx hb dL_law_997 ?_
  refine lv_topi (fun z_12 ez_12 => ?_)
  obtain rfl : z_12 = 1 := ez_12.trans (by decide)
  refine va_sld hx hb hX hbl hbA hS (vp_in_nI (n := 1) (N := 7) (by decide) (by decide)) dL_law_998 ?_
  refine lv_aload_n hx hb dL_law_999 rfl (lv_at hl 3 rfl) ?_
  refine lv_iload_n hx hb dL_law_1000 rfl (lv_at hl 0 rfl) ?_
  refine lv_iconst (v := 2) hx hb dL_law_1001 (by decide) ?_
  refine lv_iadd hx hb dL_law_1002 ?_
  refine lv_topi (fun z_13 ez_13 => ?_)
  obtain rfl : z_13 = 2 := ez_13.trans (by decide)
  refine va_sld hx hb hX hbl hbA hS (vp_in_nI (n := 2) (N := 7) (by decide) (by decide)) dL_law_1003 ?_
  refine lv_aload_n hx hb dL_law_1004 rfl (lv_at hl 3 rfl) ?_
  refine lv_iload_n hx hb dL_law_1005 rfl (lv_at hl 0 rfl) ?_
  refine lv_iconst (v := 3) hx hb dL_law_1006 (by decide) ?_
  refine lv_iadd hx hb dL_law_1007 ?_
  refine lv_topi (fun z_14 ez_14 => ?_)
  obtain rfl : z_14 = 3 := ez_14.trans (by decide)
  refine va_sld hx hb hX hbl hbA hS (vp_in_nI (n := 3) (N := 7) (by decide) (by decide)) dL_law_1008 ?_
  refine lv_aload_n hx hb dL_law_1009 rfl (lv_at hl 3 rfl) ?_
  refine lv_iload_n hx hb dL_law_1010 rfl (lv_at hl 0 rfl) ?_
  refine lv_iconst (v := 4) hx hb dL_law_1011 (by decide) ?_
  refine lv_iadd hx hb dL_law_1012 ?_
  refine lv_topi (fun z_15 ez_15 => ?_)
  obtain rfl : z_15 = 4 := ez_15.trans (by decide)
  refine va_sld hx hb hX hbl hbA hS (vp_in_nI (n := 4) (N := 7) (by decide) (by decide)) dL_law_1013 ?_
  have hPc := hP.sub (ws' := [(q1, .inr (9, [.ref (n 0), .int 0, .ref (n 2), .ref (n 3), .ref (n 4), .ref (n 5), .ref (n 6), .int 0, .ref (n 8), .ref (n 9), .ref (n 10), .ref (n 11), .ref (n 12), .ref (n 13), .ref (n 14), .int 0, .int 0, .ref (n 17), .ref (n 18), .ref (n 19), .ref (n 20), .ref (n 21), .ref (n 22), .ref (n 23), .ref (n 24), .ref (n 25), .int 1, .int 0, .int 12, .int 0, .int 0, .int 0, .int 0, .int 1440, .ref (n 34), .ref (n 35), .int 0, .int 0, .int 0, .ref (n 39), .ref (n 40), .ref (n 41), .ref (n 42), .int 0, .int 0, .int 0]))]) [0] rfl
  have hDc := hD.sub (ws' := [(q1, .inr (9, [.ref (n 0), .int 0, .ref (n 2), .ref (n 3), .ref (n 4), .ref (n 5), .ref (n 6), .int 0, .ref (n 8), .ref (n 9), .ref (n 10), .ref (n 11), .ref (n 12), .ref (n 13), .ref (n 14), .int 0, .int 0, .ref (n 17), .ref (n 18), .ref (n 19), .ref (n 20), .ref (n 21), .ref (n 22), .ref (n 23), .ref (n 24), .ref (n 25), .int 1, .int 0, .int 12, .int 0, .int 0, .int 0, .int 0, .int 1440, .ref (n 34), .ref (n 35), .int 0, .int 0, .int 0, .ref (n 39), .ref (n 40), .ref (n 41), .ref (n 42), .int 0, .int 0, .int 0]))]) [0] (by decide) rfl
  have hFc := va_free (wc := [(q1, .inr (9, [.ref (n 0), .int 0, .ref (n 2), .ref (n 3), .ref (n 4), .ref (n 5), .ref (n 6), .int 0, .ref (n 8), .ref (n 9), .ref (n 10), .ref (n 11), .ref (n 12), .ref (n 13), .ref (n 14), .int 0, .int 0, .ref (n 17), .ref (n 18), .ref (n 19), .ref (n 20), .ref (n 21), .ref (n 22), .ref (n 23), .ref (n 24), .ref (n 25), .int 1, .int 0, .int 12, .int 0, .int 0, .int 0, .int 0, .int 1440, .ref (n 34), .ref (n 35), .int 0, .int 0, .int 0, .ref (n 39), .ref (n 40), .ref (n 41), .ref (n 42), .int 0, .int 0, .int 0]))]) hD hS hA [0] rfl
  refine va_calli (va_runV (As := [.int (xs (1 : Int32).toNatClampNeg), .int (xs (2 : Int32).toNatClampNeg), .int (xs (3 : Int32).toNatClampNeg), .int (xs (4 : Int32).toNatClampNeg)]) (rest := [.int 0]) ⟨hx, hb, hml, hown, hts⟩ (k_X9_at l D cI cJ cZ cM q1 n (xs (1 : Int32).toNatClampNeg) (xs (2 : Int32).toNatClampNeg) (xs (3 : Int32).toNatClampNeg) (xs (4 : Int32).toNatClampNeg) _) (cwV 4 hts gL_law_X9_at rfl rfl rfl (by decide +kernel) ⟨Nat.le_of_ble_eq_true rfl, Nat.le_of_ble_eq_true rfl⟩) (rw_V hG hPc hDc (va_recv hK hPc (ci := 9) (q0 := 0) rfl rfl)) rfl rfl hl.1 rfl (lv_room (Nat.le_of_ble_eq_true rfl)) dL_law_1014 ⟨Nat.le_of_ble_eq_true rfl, Nat.le_of_ble_eq_true rfl⟩) hS (fun q _ h => hFc q h) hFc (fun r_16 u_16 t_16 H1 locs ht hvm h_16 hB hz1 hk1 hS => ?_)
  obtain ⟨hP, hD⟩ := va_join (wr := []) (w1 := []) hP hD [0] [] rfl rfl (by decide) (by decide) hk1 hFc (fun k q h => by simp at h) ⟨fun i j p q h => by simp at h, fun k q h => by simp at h⟩
  generalize H1 = H at hP hS ⊢
  have hP : va_P D vwCl [] H := hP
  have hD : va_D A [] := hD
  refine W.widen (k := 44) (n := 32807) (by decide) (by decide) ?_
  rcases h_16 with ⟨rfl, h_16⟩ | ⟨rfl, h_16⟩
  · exact absurd h_16 h_5
  refine lv_icmp_eq (tgt := 1068) hx hb dL_law_1017 (by decide) (fun _ => ?_) (fun c_17 => False.elim (by revert c_17; decide))
  exact law_end C0 hG hA hA2 hS (by decide) (by decide) (lv_sub hl [3, 0] rfl)
set_option maxHeartbeats 4000000 in
set_option maxRecDepth 100000 in
/-- the call of round, and the answers' likeness -/
theorem law_22 {p : Program} {l : Launch} {e : Env} {s : State} {m : MethodId} {below : List Frame} {meth : Method} {c : Code} {b : Nat} {xs : Nat → Int32} {D : va_G} {cI cJ cZ cM : Nat} {A : Nat → Prop} {q0 q1 : Nat} {a n : Nat → Nat} {fc : Nat → Int32} {H : Heap} {locs : List Loc} {ls : Array Slot} (C0 : lw_At p s m meth c b 7 xs) (hG : GK D cI cJ cZ cM s) (hA : ∀ q : Nat, s.heap.size ≤ q → A q) (hA2 : ∀ q : Nat, A q → s.heap.size ≤ q) (hP : va_P D vwCl [(q0, .inr (8, [.ref (a 1), .ref (a 2), .ref (a 3), .ref (a 4), .ref (a 5), .ref (a 6), .ref (a 7), .null, .int 0, .int 0, .int 0, .int 0])), (a 1, .inl (cI, 1600, .inl (fun _ => 0))), (a 2, .inl (cM, 10, .inr (.inr (.inr (.inr (fun _ => none)))))), (a 3, .inl (cI, 48, .inl (fun _ => 0))), (a 4, .inr (7, [.ref (a 8), .ref (a 9), .ref (a 10), .ref (a 11), .int 0])), (a 8, .inl (cI, 100, .inl (fun _ => 0))), (a 9, .inl (cI, 100, .inl (fun _ => 0))), (a 10, .inl (cI, 100, .inl (fun _ => 0))), (a 11, .inl (cI, 100, .inl (fun _ => 0))), (a 5, .inr (4, [.ref (a 12), .ref (a 13), .int 0, .int 0, .int 0, .int 1440, .int 1, .int 0, .int 12, .int 0])), (a 12, .inl (cI, 24, .inl (fun _ => 0))), (a 13, .inl (cI, 24, .inl (fun _ => 0))), (a 6, .inr (6, [.int 0, .int 0, .int 0, .int 0, .int 0, .int 0])), (a 7, .inr (3, [.ref (a 14), .int 0])), (a 14, .inl (cI, 8, .inl (fun _ => 0))), (q1, .inr (9, [.ref (n 0), .int 0, .ref (n 2), .ref (n 3), .ref (n 4), .ref (n 5), .ref (n 6), .int 0, .ref (n 8), .ref (n 9), .ref (n 10), .ref (n 11), .ref (n 12), .ref (n 13), .ref (n 14), .int 0, .int 0, .ref (n 17), .ref (n 18), .ref (n 19), .ref (n 20), .ref (n 21), .ref (n 22), .ref (n 23), .ref (n 24), .ref (n 25), .int 1, .int 0, .int 12, .int 0, .int 0, .int 0, .int 0, .int 1440, .ref (n 34), .ref (n 35), .int 0, .int 0, .int 0, .ref (n 39), .ref (n 40), .ref (n 41), .ref (n 42), .int 0, .int 0, .int 0])), (n 0, .inl (cI, 1600, .inl (fun _ => 0))), (n 2, .inl (cI, 10, .inl (fun _ => 0))), (n 3, .inl (cI, 10, .inl (fun _ => 0))), (n 4, .inl (cI, 10, .inl (fun _ => 0))), (n 5, .inl (cZ, 16000, .inl (fun _ => 0))), (n 6, .inl (cZ, 10, .inl (fun _ => 0))), (n 8, .inl (cI, 10, .inl fc)), (n 9, .inl (cI, 10, .inl (fun _ => 0))), (n 10, .inl (cI, 10, .inl (fun _ => 0))), (n 11, .inl (cI, 10, .inl (fun _ => 0))), (n 12, .inl (cI, 48, .inl (fun _ => 0))), (n 13, .inl (cI, 10, .inl (fun _ => 0))), (n 14, .inl (cI, 80, .inl (fun _ => 0))), (n 17, .inl (cI, 100, .inl (fun _ => 0))), (n 18, .inl (cI, 100, .inl (fun _ => 0))), (n 19, .inl (cI, 100, .inl (fun _ => 0))), (n 20, .inl (cI, 100, .inl (fun _ => 0))), (n 21, .inl (cI, 10, .inl (fun _ => 0))), (n 22, .inl (cI, 10, .inl (fun _ => 0))), (n 23, .inl (cI, 10, .inl (fun _ => 0))), (n 24, .inl (cI, 24, .inl (fun _ => 0))), (n 25, .inl (cI, 24, .inl (fun _ => 0))), (n 34, .inl (cI, 8, .inl (fun _ => 0))), (n 35, .inl (cI, 10240, .inl (fun _ => 0))), (n 39, .inl (cI, 10, .inl (fun _ => 0))), (n 40, .inl (cI, 10, .inl (fun _ => 0))), (n 41, .inl (cI, 1024, .inl (fun _ => 0))), (n 42, .inl (cI, 1024, .inl (fun _ => 0)))] H) (hD : va_D A [(q0, .inr (8, [.ref (a 1), .ref (a 2), .ref (a 3), .ref (a 4), .ref (a 5), .ref (a 6), .ref (a 7), .null, .int 0, .int 0, .int 0, .int 0])), (a 1, .inl (cI, 1600, .inl (fun _ => 0))), (a 2, .inl (cM, 10, .inr (.inr (.inr (.inr (fun _ => none)))))), (a 3, .inl (cI, 48, .inl (fun _ => 0))), (a 4, .inr (7, [.ref (a 8), .ref (a 9), .ref (a 10), .ref (a 11), .int 0])), (a 8, .inl (cI, 100, .inl (fun _ => 0))), (a 9, .inl (cI, 100, .inl (fun _ => 0))), (a 10, .inl (cI, 100, .inl (fun _ => 0))), (a 11, .inl (cI, 100, .inl (fun _ => 0))), (a 5, .inr (4, [.ref (a 12), .ref (a 13), .int 0, .int 0, .int 0, .int 1440, .int 1, .int 0, .int 12, .int 0])), (a 12, .inl (cI, 24, .inl (fun _ => 0))), (a 13, .inl (cI, 24, .inl (fun _ => 0))), (a 6, .inr (6, [.int 0, .int 0, .int 0, .int 0, .int 0, .int 0])), (a 7, .inr (3, [.ref (a 14), .int 0])), (a 14, .inl (cI, 8, .inl (fun _ => 0))), (q1, .inr (9, [.ref (n 0), .int 0, .ref (n 2), .ref (n 3), .ref (n 4), .ref (n 5), .ref (n 6), .int 0, .ref (n 8), .ref (n 9), .ref (n 10), .ref (n 11), .ref (n 12), .ref (n 13), .ref (n 14), .int 0, .int 0, .ref (n 17), .ref (n 18), .ref (n 19), .ref (n 20), .ref (n 21), .ref (n 22), .ref (n 23), .ref (n 24), .ref (n 25), .int 1, .int 0, .int 12, .int 0, .int 0, .int 0, .int 0, .int 1440, .ref (n 34), .ref (n 35), .int 0, .int 0, .int 0, .ref (n 39), .ref (n 40), .ref (n 41), .ref (n 42), .int 0, .int 0, .int 0])), (n 0, .inl (cI, 1600, .inl (fun _ => 0))), (n 2, .inl (cI, 10, .inl (fun _ => 0))), (n 3, .inl (cI, 10, .inl (fun _ => 0))), (n 4, .inl (cI, 10, .inl (fun _ => 0))), (n 5, .inl (cZ, 16000, .inl (fun _ => 0))), (n 6, .inl (cZ, 10, .inl (fun _ => 0))), (n 8, .inl (cI, 10, .inl fc)), (n 9, .inl (cI, 10, .inl (fun _ => 0))), (n 10, .inl (cI, 10, .inl (fun _ => 0))), (n 11, .inl (cI, 10, .inl (fun _ => 0))), (n 12, .inl (cI, 48, .inl (fun _ => 0))), (n 13, .inl (cI, 10, .inl (fun _ => 0))), (n 14, .inl (cI, 80, .inl (fun _ => 0))), (n 17, .inl (cI, 100, .inl (fun _ => 0))), (n 18, .inl (cI, 100, .inl (fun _ => 0))), (n 19, .inl (cI, 100, .inl (fun _ => 0))), (n 20, .inl (cI, 100, .inl (fun _ => 0))), (n 21, .inl (cI, 10, .inl (fun _ => 0))), (n 22, .inl (cI, 10, .inl (fun _ => 0))), (n 23, .inl (cI, 10, .inl (fun _ => 0))), (n 24, .inl (cI, 24, .inl (fun _ => 0))), (n 25, .inl (cI, 24, .inl (fun _ => 0))), (n 34, .inl (cI, 8, .inl (fun _ => 0))), (n 35, .inl (cI, 10240, .inl (fun _ => 0))), (n 39, .inl (cI, 10, .inl (fun _ => 0))), (n 40, .inl (cI, 10, .inl (fun _ => 0))), (n 41, .inl (cI, 1024, .inl (fun _ => 0))), (n 42, .inl (cI, 1024, .inl (fun _ => 0)))]) (hS : va_S A s.heap H locs) (hl : lv_has ls 4 [(3, .int 0), (2, .ref q1), (1, .ref q0), (0, .ref b)]) : W p l e room_1 s m #[Value.ref b] below meth c H locs 44 32807 (lw_Z below #[Value.ref b] s) (F0 m 1022 ls []) := by
  obtain ⟨hx, hb, hr, hml, hown, hts0, hX, hbl, hlocks, hgv⟩ := id C0
  have hts := fun w h => hts0 w (wsL_law_in w h)
  have hbA : ¬ A b := fun h => Nat.not_le.mpr hbl (hA2 _ h)
  have hK := hG.1
  have hN := hG.2
  refine lv_aload_n hx hb dL_law_1022 rfl (lv_at hl 2 rfl) ?_
  refine lv_aload_n hx hb dL_law_1023 rfl (lv_at hl 3 rfl) ?_
  refine lv_iload_n hx hb dL_law_1024 rfl (lv_at hl 0 rfl) ?_
  refine lv_iconst (v := 1) hx hb dL_law_1025 (by decide) ?_
  refine lv_iadd hx hb dL_law_1026 ?_
  refine lv_topi (fun z_1 ez_1 => ?_)
  obtain rfl : z_1 = 1 := ez_1.trans (by decide)
  refine va_sld hx hb hX hbl hbA hS (vp_in_nI (n := 1) (N := 7) (by decide) (by decide)) dL_law_1027 ?_
  have hPc := hP.sub (ws' := [(q0, .inr (8, [.ref (a 1), .ref (a 2), .ref (a 3), .ref (a 4), .ref (a 5), .ref (a 6), .ref (a 7), .null, .int 0, .int 0, .int 0, .int 0])), (a 2, .inl (cM, 10, .inr (.inr (.inr (.inr (fun _ => none)))))), (a 5, .inr (4, [.ref (a 12), .ref (a 13), .int 0, .int 0, .int 0, .int 1440, .int 1, .int 0, .int 12, .int 0]))]) [0, 2, 9] rfl
  have hDc := hD.sub (ws' := [(q0, .inr (8, [.ref (a 1), .ref (a 2), .ref (a 3), .ref (a 4), .ref (a 5), .ref (a 6), .ref (a 7), .null, .int 0, .int 0, .int 0, .int 0])), (a 2, .inl (cM, 10, .inr (.inr (.inr (.inr (fun _ => none)))))), (a 5, .inr (4, [.ref (a 12), .ref (a 13), .int 0, .int 0, .int 0, .int 1440, .int 1, .int 0, .int 12, .int 0]))]) [0, 2, 9] (by decide) rfl
  have hFc := va_free (wc := [(q0, .inr (8, [.ref (a 1), .ref (a 2), .ref (a 3), .ref (a 4), .ref (a 5), .ref (a 6), .ref (a 7), .null, .int 0, .int 0, .int 0, .int 0])), (a 2, .inl (cM, 10, .inr (.inr (.inr (.inr (fun _ => none)))))), (a 5, .inr (4, [.ref (a 12), .ref (a 13), .int 0, .int 0, .int 0, .int 1440, .int 1, .int 0, .int 12, .int 0]))]) hD hS hA [0, 2, 9] rfl
  refine va_calli (va_runV (As := [.int (xs (1 : Int32).toNatClampNeg)]) (rest := []) ⟨hx, hb, hml, hown, hts⟩ (k_X8_round l D cI cJ cZ cM q0 a (xs (1 : Int32).toNatClampNeg) _) (cwV 1 hts gL_law_X8_round rfl rfl rfl (by decide +kernel) ⟨Nat.le_of_ble_eq_true rfl, Nat.le_of_ble_eq_true rfl⟩) (rw_V hG hPc hDc (va_recv hK hPc (ci := 8) (q0 := 0) rfl rfl)) rfl rfl hl.1 rfl (lv_room (Nat.le_of_ble_eq_true rfl)) dL_law_1028 ⟨Nat.le_of_ble_eq_true rfl, Nat.le_of_ble_eq_true rfl⟩) hS (fun q _ h => hFc q h) hFc (fun r_2 u_2 t_2 H1 locs ht hvm h_2 hB hz1 hk1 hS => ?_)
  obtain ⟨hP, hD⟩ := va_join (wr := [(q1, .inr (9, [.ref (n 0), .int 0, .ref (n 2), .ref (n 3), .ref (n 4), .ref (n 5), .ref (n 6), .int 0, .ref (n 8), .ref (n 9), .ref (n 10), .ref (n 11), .ref (n 12), .ref (n 13), .ref (n 14), .int 0, .int 0, .ref (n 17), .ref (n 18), .ref (n 19), .ref (n 20), .ref (n 21), .ref (n 22), .ref (n 23), .ref (n 24), .ref (n 25), .int 1, .int 0, .int 12, .int 0, .int 0, .int 0, .int 0, .int 1440, .ref (n 34), .ref (n 35), .int 0, .int 0, .int 0, .ref (n 39), .ref (n 40), .ref (n 41), .ref (n 42), .int 0, .int 0, .int 0])), (n 35, .inl (cI, 10240, .inl (fun _ => 0))), (n 41, .inl (cI, 1024, .inl (fun _ => 0))), (n 42, .inl (cI, 1024, .inl (fun _ => 0)))]) (w1 := []) hP hD [0, 2, 9] [15, 39, 42, 43] rfl rfl (by decide) (by decide) hk1 hFc (fun k q h => by simp at h) ⟨fun i j p q h => by simp at h, fun k q h => by simp at h⟩
  generalize H1 = H at hP hS ⊢
  have hP : va_P D vwCl [(q1, .inr (9, [.ref (n 0), .int 0, .ref (n 2), .ref (n 3), .ref (n 4), .ref (n 5), .ref (n 6), .int 0, .ref (n 8), .ref (n 9), .ref (n 10), .ref (n 11), .ref (n 12), .ref (n 13), .ref (n 14), .int 0, .int 0, .ref (n 17), .ref (n 18), .ref (n 19), .ref (n 20), .ref (n 21), .ref (n 22), .ref (n 23), .ref (n 24), .ref (n 25), .int 1, .int 0, .int 12, .int 0, .int 0, .int 0, .int 0, .int 1440, .ref (n 34), .ref (n 35), .int 0, .int 0, .int 0, .ref (n 39), .ref (n 40), .ref (n 41), .ref (n 42), .int 0, .int 0, .int 0])), (n 35, .inl (cI, 10240, .inl (fun _ => 0))), (n 41, .inl (cI, 1024, .inl (fun _ => 0))), (n 42, .inl (cI, 1024, .inl (fun _ => 0)))] H := hP
  have hD : va_D A [(q1, .inr (9, [.ref (n 0), .int 0, .ref (n 2), .ref (n 3), .ref (n 4), .ref (n 5), .ref (n 6), .int 0, .ref (n 8), .ref (n 9), .ref (n 10), .ref (n 11), .ref (n 12), .ref (n 13), .ref (n 14), .int 0, .int 0, .ref (n 17), .ref (n 18), .ref (n 19), .ref (n 20), .ref (n 21), .ref (n 22), .ref (n 23), .ref (n 24), .ref (n 25), .int 1, .int 0, .int 12, .int 0, .int 0, .int 0, .int 0, .int 1440, .ref (n 34), .ref (n 35), .int 0, .int 0, .int 0, .ref (n 39), .ref (n 40), .ref (n 41), .ref (n 42), .int 0, .int 0, .int 0])), (n 35, .inl (cI, 10240, .inl (fun _ => 0))), (n 41, .inl (cI, 1024, .inl (fun _ => 0))), (n 42, .inl (cI, 1024, .inl (fun _ => 0)))] := hD
  refine W.widen (k := 57) (n := 44758) (by decide) (by decide) ?_
  rcases h_2 with ⟨rfl, h_2⟩ | ⟨rfl, h_2⟩
  · refine lv_aload_n hx hb dL_law_1031 rfl (lv_at hl 1 rfl) ?_
    refine lv_aload_n hx hb dL_law_1032 rfl (lv_at hl 3 rfl) ?_
    refine lv_iload_n hx hb dL_law_1033 rfl (lv_at hl 0 rfl) ?_
    refine lv_iconst (v := 1) hx hb dL_law_1034 (by decide) ?_
    refine lv_iadd hx hb dL_law_1035 ?_
    refine lv_topi (fun z_3 ez_3 => ?_)
    obtain rfl : z_3 = 1 := ez_3.trans (by decide)
    refine va_sld hx hb hX hbl hbA hS (vp_in_nI (n := 1) (N := 7) (by decide) (by decide)) dL_law_1036 ?_
    have hPc := hP.sub (ws' := [(q1, .inr (9, [.ref (n 0), .int 0, .ref (n 2), .ref (n 3), .ref (n 4), .ref (n 5), .ref (n 6), .int 0, .ref (n 8), .ref (n 9), .ref (n 10), .ref (n 11), .ref (n 12), .ref (n 13), .ref (n 14), .int 0, .int 0, .ref (n 17), .ref (n 18), .ref (n 19), .ref (n 20), .ref (n 21), .ref (n 22), .ref (n 23), .ref (n 24), .ref (n 25), .int 1, .int 0, .int 12, .int 0, .int 0, .int 0, .int 0, .int 1440, .ref (n 34), .ref (n 35), .int 0, .int 0, .int 0, .ref (n 39), .ref (n 40), .ref (n 41), .ref (n 42), .int 0, .int 0, .int 0])), (n 35, .inl (cI, 10240, .inl (fun _ => 0))), (n 41, .inl (cI, 1024, .inl (fun _ => 0))), (n 42, .inl (cI, 1024, .inl (fun _ => 0)))]) [0, 1, 2, 3] rfl
    have hDc := hD.sub (ws' := [(q1, .inr (9, [.ref (n 0), .int 0, .ref (n 2), .ref (n 3), .ref (n 4), .ref (n 5), .ref (n 6), .int 0, .ref (n 8), .ref (n 9), .ref (n 10), .ref (n 11), .ref (n 12), .ref (n 13), .ref (n 14), .int 0, .int 0, .ref (n 17), .ref (n 18), .ref (n 19), .ref (n 20), .ref (n 21), .ref (n 22), .ref (n 23), .ref (n 24), .ref (n 25), .int 1, .int 0, .int 12, .int 0, .int 0, .int 0, .int 0, .int 1440, .ref (n 34), .ref (n 35), .int 0, .int 0, .int 0, .ref (n 39), .ref (n 40), .ref (n 41), .ref (n 42), .int 0, .int 0, .int 0])), (n 35, .inl (cI, 10240, .inl (fun _ => 0))), (n 41, .inl (cI, 1024, .inl (fun _ => 0))), (n 42, .inl (cI, 1024, .inl (fun _ => 0)))]) [0, 1, 2, 3] (by decide) rfl
    have hFc := va_free (wc := [(q1, .inr (9, [.ref (n 0), .int 0, .ref (n 2), .ref (n 3), .ref (n 4), .ref (n 5), .ref (n 6), .int 0, .ref (n 8), .ref (n 9), .ref (n 10), .ref (n 11), .ref (n 12), .ref (n 13), .ref (n 14), .int 0, .int 0, .ref (n 17), .ref (n 18), .ref (n 19), .ref (n 20), .ref (n 21), .ref (n 22), .ref (n 23), .ref (n 24), .ref (n 25), .int 1, .int 0, .int 12, .int 0, .int 0, .int 0, .int 0, .int 1440, .ref (n 34), .ref (n 35), .int 0, .int 0, .int 0, .ref (n 39), .ref (n 40), .ref (n 41), .ref (n 42), .int 0, .int 0, .int 0])), (n 35, .inl (cI, 10240, .inl (fun _ => 0))), (n 41, .inl (cI, 1024, .inl (fun _ => 0))), (n 42, .inl (cI, 1024, .inl (fun _ => 0)))]) hD hS hA [0, 1, 2, 3] rfl
    refine va_calli (va_runV (As := [.int (xs (1 : Int32).toNatClampNeg)]) (rest := [.int 0]) ⟨hx, hb, hml, hown, hts⟩ (k_X9_round l D cI cJ cZ cM q1 n (xs (1 : Int32).toNatClampNeg) _) (cwV 1 hts gL_law_X9_round rfl rfl rfl (by decide +kernel) ⟨Nat.le_of_ble_eq_true rfl, Nat.le_of_ble_eq_true rfl⟩) (rw_V hG hPc hDc (va_recv hK hPc (ci := 9) (q0 := 0) rfl rfl)) rfl rfl hl.1 rfl (lv_room (Nat.le_of_ble_eq_true rfl)) dL_law_1037 ⟨Nat.le_of_ble_eq_true rfl, Nat.le_of_ble_eq_true rfl⟩) hS (fun q _ h => hFc q h) hFc (fun r_4 u_4 t_4 H1 locs ht hvm h_4 hB hz1 hk1 hS => ?_)
    obtain ⟨hP, hD⟩ := va_join (wr := []) (w1 := []) hP hD [0, 1, 2, 3] [] rfl rfl (by decide) (by decide) hk1 hFc (fun k q h => by simp at h) ⟨fun i j p q h => by simp at h, fun k q h => by simp at h⟩
    generalize H1 = H at hP hS ⊢
    have hP : va_P D vwCl [] H := hP
    have hD : va_D A [] := hD
    refine W.widen (k := 57) (n := 44758) (by decide) (by decide) ?_
    rcases h_4 with ⟨rfl, h_4⟩ | ⟨rfl, h_4⟩
    · refine lv_icmp_eq (tgt := 1068) hx hb dL_law_1040 (by decide) (fun _ => ?_) (fun c_5 => False.elim (by revert c_5; decide))
      exact law_end C0 hG hA hA2 hS (by decide) (by decide) (lv_sub hl [3, 0] rfl)
    exact absurd h_2 h_4
  refine lv_aload_n hx hb dL_law_1031 rfl (lv_at hl 1 rfl) ?_
  refine lv_aload_n hx hb dL_law_1032 rfl (lv_at hl 3 rfl) ?_
  refine lv_iload_n hx hb dL_law_1033 rfl (lv_at hl 0 rfl) ?_
  refine lv_iconst (v := 1) hx hb dL_law_1034 (by decide) ?_
  refine lv_iadd hx hb dL_law_1035 ?_
  refine lv_topi (fun z_6 ez_6 => ?_)
  obtain rfl : z_6 = 1 := ez_6.trans (by decide)
  refine va_sld hx hb hX hbl hbA hS (vp_in_nI (n := 1) (N := 7) (by decide) (by decide)) dL_law_1036 ?_
  have hPc := hP.sub (ws' := [(q1, .inr (9, [.ref (n 0), .int 0, .ref (n 2), .ref (n 3), .ref (n 4), .ref (n 5), .ref (n 6), .int 0, .ref (n 8), .ref (n 9), .ref (n 10), .ref (n 11), .ref (n 12), .ref (n 13), .ref (n 14), .int 0, .int 0, .ref (n 17), .ref (n 18), .ref (n 19), .ref (n 20), .ref (n 21), .ref (n 22), .ref (n 23), .ref (n 24), .ref (n 25), .int 1, .int 0, .int 12, .int 0, .int 0, .int 0, .int 0, .int 1440, .ref (n 34), .ref (n 35), .int 0, .int 0, .int 0, .ref (n 39), .ref (n 40), .ref (n 41), .ref (n 42), .int 0, .int 0, .int 0])), (n 35, .inl (cI, 10240, .inl (fun _ => 0))), (n 41, .inl (cI, 1024, .inl (fun _ => 0))), (n 42, .inl (cI, 1024, .inl (fun _ => 0)))]) [0, 1, 2, 3] rfl
  have hDc := hD.sub (ws' := [(q1, .inr (9, [.ref (n 0), .int 0, .ref (n 2), .ref (n 3), .ref (n 4), .ref (n 5), .ref (n 6), .int 0, .ref (n 8), .ref (n 9), .ref (n 10), .ref (n 11), .ref (n 12), .ref (n 13), .ref (n 14), .int 0, .int 0, .ref (n 17), .ref (n 18), .ref (n 19), .ref (n 20), .ref (n 21), .ref (n 22), .ref (n 23), .ref (n 24), .ref (n 25), .int 1, .int 0, .int 12, .int 0, .int 0, .int 0, .int 0, .int 1440, .ref (n 34), .ref (n 35), .int 0, .int 0, .int 0, .ref (n 39), .ref (n 40), .ref (n 41), .ref (n 42), .int 0, .int 0, .int 0])), (n 35, .inl (cI, 10240, .inl (fun _ => 0))), (n 41, .inl (cI, 1024, .inl (fun _ => 0))), (n 42, .inl (cI, 1024, .inl (fun _ => 0)))]) [0, 1, 2, 3] (by decide) rfl
  have hFc := va_free (wc := [(q1, .inr (9, [.ref (n 0), .int 0, .ref (n 2), .ref (n 3), .ref (n 4), .ref (n 5), .ref (n 6), .int 0, .ref (n 8), .ref (n 9), .ref (n 10), .ref (n 11), .ref (n 12), .ref (n 13), .ref (n 14), .int 0, .int 0, .ref (n 17), .ref (n 18), .ref (n 19), .ref (n 20), .ref (n 21), .ref (n 22), .ref (n 23), .ref (n 24), .ref (n 25), .int 1, .int 0, .int 12, .int 0, .int 0, .int 0, .int 0, .int 1440, .ref (n 34), .ref (n 35), .int 0, .int 0, .int 0, .ref (n 39), .ref (n 40), .ref (n 41), .ref (n 42), .int 0, .int 0, .int 0])), (n 35, .inl (cI, 10240, .inl (fun _ => 0))), (n 41, .inl (cI, 1024, .inl (fun _ => 0))), (n 42, .inl (cI, 1024, .inl (fun _ => 0)))]) hD hS hA [0, 1, 2, 3] rfl
  refine va_calli (va_runV (As := [.int (xs (1 : Int32).toNatClampNeg)]) (rest := [.int (-1)]) ⟨hx, hb, hml, hown, hts⟩ (k_X9_round l D cI cJ cZ cM q1 n (xs (1 : Int32).toNatClampNeg) _) (cwV 1 hts gL_law_X9_round rfl rfl rfl (by decide +kernel) ⟨Nat.le_of_ble_eq_true rfl, Nat.le_of_ble_eq_true rfl⟩) (rw_V hG hPc hDc (va_recv hK hPc (ci := 9) (q0 := 0) rfl rfl)) rfl rfl hl.1 rfl (lv_room (Nat.le_of_ble_eq_true rfl)) dL_law_1037 ⟨Nat.le_of_ble_eq_true rfl, Nat.le_of_ble_eq_true rfl⟩) hS (fun q _ h => hFc q h) hFc (fun r_7 u_7 t_7 H1 locs ht hvm h_7 hB hz1 hk1 hS => ?_)
  obtain ⟨hP, hD⟩ := va_join (wr := []) (w1 := []) hP hD [0, 1, 2, 3] [] rfl rfl (by decide) (by decide) hk1 hFc (fun k q h => by simp at h) ⟨fun i j p q h => by simp at h, fun k q h => by simp at h⟩
  generalize H1 = H at hP hS ⊢
  have hP : va_P D vwCl [] H := hP
  have hD : va_D A [] := hD
  refine W.widen (k := 57) (n := 44758) (by decide) (by decide) ?_
  rcases h_7 with ⟨rfl, h_7⟩ | ⟨rfl, h_7⟩
  · exact absurd h_7 h_2
  refine lv_icmp_eq (tgt := 1068) hx hb dL_law_1040 (by decide) (fun _ => ?_) (fun c_8 => False.elim (by revert c_8; decide))
  exact law_end C0 hG hA hA2 hS (by decide) (by decide) (lv_sub hl [3, 0] rfl)
set_option maxHeartbeats 4000000 in
set_option maxRecDepth 100000 in
/-- the call of about, and the answers' likeness -/
theorem law_23 {p : Program} {l : Launch} {e : Env} {s : State} {m : MethodId} {below : List Frame} {meth : Method} {c : Code} {b : Nat} {xs : Nat → Int32} {D : va_G} {cI cJ cZ cM : Nat} {A : Nat → Prop} {q0 q1 : Nat} {a n : Nat → Nat} {fc : Nat → Int32} {H : Heap} {locs : List Loc} {ls : Array Slot} (C0 : lw_At p s m meth c b 7 xs) (hG : GK D cI cJ cZ cM s) (hA : ∀ q : Nat, s.heap.size ≤ q → A q) (hA2 : ∀ q : Nat, A q → s.heap.size ≤ q) (hP : va_P D vwCl [(q0, .inr (8, [.ref (a 1), .ref (a 2), .ref (a 3), .ref (a 4), .ref (a 5), .ref (a 6), .ref (a 7), .null, .int 0, .int 0, .int 0, .int 0])), (a 1, .inl (cI, 1600, .inl (fun _ => 0))), (a 2, .inl (cM, 10, .inr (.inr (.inr (.inr (fun _ => none)))))), (a 3, .inl (cI, 48, .inl (fun _ => 0))), (a 4, .inr (7, [.ref (a 8), .ref (a 9), .ref (a 10), .ref (a 11), .int 0])), (a 8, .inl (cI, 100, .inl (fun _ => 0))), (a 9, .inl (cI, 100, .inl (fun _ => 0))), (a 10, .inl (cI, 100, .inl (fun _ => 0))), (a 11, .inl (cI, 100, .inl (fun _ => 0))), (a 5, .inr (4, [.ref (a 12), .ref (a 13), .int 0, .int 0, .int 0, .int 1440, .int 1, .int 0, .int 12, .int 0])), (a 12, .inl (cI, 24, .inl (fun _ => 0))), (a 13, .inl (cI, 24, .inl (fun _ => 0))), (a 6, .inr (6, [.int 0, .int 0, .int 0, .int 0, .int 0, .int 0])), (a 7, .inr (3, [.ref (a 14), .int 0])), (a 14, .inl (cI, 8, .inl (fun _ => 0))), (q1, .inr (9, [.ref (n 0), .int 0, .ref (n 2), .ref (n 3), .ref (n 4), .ref (n 5), .ref (n 6), .int 0, .ref (n 8), .ref (n 9), .ref (n 10), .ref (n 11), .ref (n 12), .ref (n 13), .ref (n 14), .int 0, .int 0, .ref (n 17), .ref (n 18), .ref (n 19), .ref (n 20), .ref (n 21), .ref (n 22), .ref (n 23), .ref (n 24), .ref (n 25), .int 1, .int 0, .int 12, .int 0, .int 0, .int 0, .int 0, .int 1440, .ref (n 34), .ref (n 35), .int 0, .int 0, .int 0, .ref (n 39), .ref (n 40), .ref (n 41), .ref (n 42), .int 0, .int 0, .int 0])), (n 0, .inl (cI, 1600, .inl (fun _ => 0))), (n 2, .inl (cI, 10, .inl (fun _ => 0))), (n 3, .inl (cI, 10, .inl (fun _ => 0))), (n 4, .inl (cI, 10, .inl (fun _ => 0))), (n 5, .inl (cZ, 16000, .inl (fun _ => 0))), (n 6, .inl (cZ, 10, .inl (fun _ => 0))), (n 8, .inl (cI, 10, .inl fc)), (n 9, .inl (cI, 10, .inl (fun _ => 0))), (n 10, .inl (cI, 10, .inl (fun _ => 0))), (n 11, .inl (cI, 10, .inl (fun _ => 0))), (n 12, .inl (cI, 48, .inl (fun _ => 0))), (n 13, .inl (cI, 10, .inl (fun _ => 0))), (n 14, .inl (cI, 80, .inl (fun _ => 0))), (n 17, .inl (cI, 100, .inl (fun _ => 0))), (n 18, .inl (cI, 100, .inl (fun _ => 0))), (n 19, .inl (cI, 100, .inl (fun _ => 0))), (n 20, .inl (cI, 100, .inl (fun _ => 0))), (n 21, .inl (cI, 10, .inl (fun _ => 0))), (n 22, .inl (cI, 10, .inl (fun _ => 0))), (n 23, .inl (cI, 10, .inl (fun _ => 0))), (n 24, .inl (cI, 24, .inl (fun _ => 0))), (n 25, .inl (cI, 24, .inl (fun _ => 0))), (n 34, .inl (cI, 8, .inl (fun _ => 0))), (n 35, .inl (cI, 10240, .inl (fun _ => 0))), (n 39, .inl (cI, 10, .inl (fun _ => 0))), (n 40, .inl (cI, 10, .inl (fun _ => 0))), (n 41, .inl (cI, 1024, .inl (fun _ => 0))), (n 42, .inl (cI, 1024, .inl (fun _ => 0)))] H) (hD : va_D A [(q0, .inr (8, [.ref (a 1), .ref (a 2), .ref (a 3), .ref (a 4), .ref (a 5), .ref (a 6), .ref (a 7), .null, .int 0, .int 0, .int 0, .int 0])), (a 1, .inl (cI, 1600, .inl (fun _ => 0))), (a 2, .inl (cM, 10, .inr (.inr (.inr (.inr (fun _ => none)))))), (a 3, .inl (cI, 48, .inl (fun _ => 0))), (a 4, .inr (7, [.ref (a 8), .ref (a 9), .ref (a 10), .ref (a 11), .int 0])), (a 8, .inl (cI, 100, .inl (fun _ => 0))), (a 9, .inl (cI, 100, .inl (fun _ => 0))), (a 10, .inl (cI, 100, .inl (fun _ => 0))), (a 11, .inl (cI, 100, .inl (fun _ => 0))), (a 5, .inr (4, [.ref (a 12), .ref (a 13), .int 0, .int 0, .int 0, .int 1440, .int 1, .int 0, .int 12, .int 0])), (a 12, .inl (cI, 24, .inl (fun _ => 0))), (a 13, .inl (cI, 24, .inl (fun _ => 0))), (a 6, .inr (6, [.int 0, .int 0, .int 0, .int 0, .int 0, .int 0])), (a 7, .inr (3, [.ref (a 14), .int 0])), (a 14, .inl (cI, 8, .inl (fun _ => 0))), (q1, .inr (9, [.ref (n 0), .int 0, .ref (n 2), .ref (n 3), .ref (n 4), .ref (n 5), .ref (n 6), .int 0, .ref (n 8), .ref (n 9), .ref (n 10), .ref (n 11), .ref (n 12), .ref (n 13), .ref (n 14), .int 0, .int 0, .ref (n 17), .ref (n 18), .ref (n 19), .ref (n 20), .ref (n 21), .ref (n 22), .ref (n 23), .ref (n 24), .ref (n 25), .int 1, .int 0, .int 12, .int 0, .int 0, .int 0, .int 0, .int 1440, .ref (n 34), .ref (n 35), .int 0, .int 0, .int 0, .ref (n 39), .ref (n 40), .ref (n 41), .ref (n 42), .int 0, .int 0, .int 0])), (n 0, .inl (cI, 1600, .inl (fun _ => 0))), (n 2, .inl (cI, 10, .inl (fun _ => 0))), (n 3, .inl (cI, 10, .inl (fun _ => 0))), (n 4, .inl (cI, 10, .inl (fun _ => 0))), (n 5, .inl (cZ, 16000, .inl (fun _ => 0))), (n 6, .inl (cZ, 10, .inl (fun _ => 0))), (n 8, .inl (cI, 10, .inl fc)), (n 9, .inl (cI, 10, .inl (fun _ => 0))), (n 10, .inl (cI, 10, .inl (fun _ => 0))), (n 11, .inl (cI, 10, .inl (fun _ => 0))), (n 12, .inl (cI, 48, .inl (fun _ => 0))), (n 13, .inl (cI, 10, .inl (fun _ => 0))), (n 14, .inl (cI, 80, .inl (fun _ => 0))), (n 17, .inl (cI, 100, .inl (fun _ => 0))), (n 18, .inl (cI, 100, .inl (fun _ => 0))), (n 19, .inl (cI, 100, .inl (fun _ => 0))), (n 20, .inl (cI, 100, .inl (fun _ => 0))), (n 21, .inl (cI, 10, .inl (fun _ => 0))), (n 22, .inl (cI, 10, .inl (fun _ => 0))), (n 23, .inl (cI, 10, .inl (fun _ => 0))), (n 24, .inl (cI, 24, .inl (fun _ => 0))), (n 25, .inl (cI, 24, .inl (fun _ => 0))), (n 34, .inl (cI, 8, .inl (fun _ => 0))), (n 35, .inl (cI, 10240, .inl (fun _ => 0))), (n 39, .inl (cI, 10, .inl (fun _ => 0))), (n 40, .inl (cI, 10, .inl (fun _ => 0))), (n 41, .inl (cI, 1024, .inl (fun _ => 0))), (n 42, .inl (cI, 1024, .inl (fun _ => 0)))]) (hS : va_S A s.heap H locs) (hl : lv_has ls 4 [(3, .int 0), (2, .ref q1), (1, .ref q0), (0, .ref b)]) : W p l e room_1 s m #[Value.ref b] below meth c H locs 44 32807 (lw_Z below #[Value.ref b] s) (F0 m 1045 ls []) := by
  obtain ⟨hx, hb, hr, hml, hown, hts0, hX, hbl, hlocks, hgv⟩ := id C0
  have hts := fun w h => hts0 w (wsL_law_in w h)
  have hbA : ¬ A b := fun h => Nat.not_le.mpr hbl (hA2 _ h)
  have hK := hG.1
  have hN := hG.2
  refine lv_aload_n hx hb dL_law_1045 rfl (lv_at hl 2 rfl) ?_
  refine lv_aload_n hx hb dL_law_1046 rfl (lv_at hl 3 rfl) ?_
  refine lv_iload_n hx hb dL_law_1047 rfl (lv_at hl 0 rfl) ?_
  refine lv_iconst (v := 1) hx hb dL_law_1048 (by decide) ?_
  refine lv_iadd hx hb dL_law_1049 ?_
  refine lv_topi (fun z_1 ez_1 => ?_)
  obtain rfl : z_1 = 1 := ez_1.trans (by decide)
  refine va_sld hx hb hX hbl hbA hS (vp_in_nI (n := 1) (N := 7) (by decide) (by decide)) dL_law_1050 ?_
  have hPc := hP.sub (ws' := [(q0, .inr (8, [.ref (a 1), .ref (a 2), .ref (a 3), .ref (a 4), .ref (a 5), .ref (a 6), .ref (a 7), .null, .int 0, .int 0, .int 0, .int 0])), (a 1, .inl (cI, 1600, .inl (fun _ => 0))), (a 2, .inl (cM, 10, .inr (.inr (.inr (.inr (fun _ => none)))))), (a 3, .inl (cI, 48, .inl (fun _ => 0))), (a 4, .inr (7, [.ref (a 8), .ref (a 9), .ref (a 10), .ref (a 11), .int 0])), (a 8, .inl (cI, 100, .inl (fun _ => 0))), (a 9, .inl (cI, 100, .inl (fun _ => 0))), (a 10, .inl (cI, 100, .inl (fun _ => 0))), (a 11, .inl (cI, 100, .inl (fun _ => 0))), (a 5, .inr (4, [.ref (a 12), .ref (a 13), .int 0, .int 0, .int 0, .int 1440, .int 1, .int 0, .int 12, .int 0])), (a 12, .inl (cI, 24, .inl (fun _ => 0))), (a 13, .inl (cI, 24, .inl (fun _ => 0))), (a 6, .inr (6, [.int 0, .int 0, .int 0, .int 0, .int 0, .int 0])), (a 7, .inr (3, [.ref (a 14), .int 0])), (a 14, .inl (cI, 8, .inl (fun _ => 0)))]) [0, 1, 2, 3, 4, 5, 6, 7, 8, 9, 10, 11, 12, 13, 14] rfl
  refine vp_callSi (va_Run.run (va_runV (As := [.int (xs (1 : Int32).toNatClampNeg)]) (rest := []) ⟨hx, hb, hml, hown, hts⟩ (k_X8_about l D cI cJ cZ cM q0 a (xs (1 : Int32).toNatClampNeg)) (cwV 1 hts gL_law_X8_about rfl rfl rfl (by decide +kernel) ⟨Nat.le_of_ble_eq_true rfl, Nat.le_of_ble_eq_true rfl⟩) (ro_V hG hPc (va_recv hK hPc (ci := 8) (q0 := 0) rfl rfl)) rfl rfl hl.1 rfl (lv_room (Nat.le_of_ble_eq_true rfl)) dL_law_1051 ⟨Nat.le_of_ble_eq_true rfl, Nat.le_of_ble_eq_true rfl⟩)) (fun r_2 h_2 => ?_)
  refine lv_aload_n hx hb dL_law_1054 rfl (lv_at hl 1 rfl) ?_
  refine lv_aload_n hx hb dL_law_1055 rfl (lv_at hl 3 rfl) ?_
  refine lv_iload_n hx hb dL_law_1056 rfl (lv_at hl 0 rfl) ?_
  refine lv_iconst (v := 1) hx hb dL_law_1057 (by decide) ?_
  refine lv_iadd hx hb dL_law_1058 ?_
  refine lv_topi (fun z_3 ez_3 => ?_)
  obtain rfl : z_3 = 1 := ez_3.trans (by decide)
  refine va_sld hx hb hX hbl hbA hS (vp_in_nI (n := 1) (N := 7) (by decide) (by decide)) dL_law_1059 ?_
  have hPc := hP.sub (ws' := [(q1, .inr (9, [.ref (n 0), .int 0, .ref (n 2), .ref (n 3), .ref (n 4), .ref (n 5), .ref (n 6), .int 0, .ref (n 8), .ref (n 9), .ref (n 10), .ref (n 11), .ref (n 12), .ref (n 13), .ref (n 14), .int 0, .int 0, .ref (n 17), .ref (n 18), .ref (n 19), .ref (n 20), .ref (n 21), .ref (n 22), .ref (n 23), .ref (n 24), .ref (n 25), .int 1, .int 0, .int 12, .int 0, .int 0, .int 0, .int 0, .int 1440, .ref (n 34), .ref (n 35), .int 0, .int 0, .int 0, .ref (n 39), .ref (n 40), .ref (n 41), .ref (n 42), .int 0, .int 0, .int 0]))]) [15] rfl
  refine vp_callSi (va_Run.run (va_runV (As := [.int (xs (1 : Int32).toNatClampNeg)]) (rest := [.int r_2]) ⟨hx, hb, hml, hown, hts⟩ (k_X9_about l D cI cJ cZ cM q1 n (xs (1 : Int32).toNatClampNeg)) (cwV 1 hts gL_law_X9_about rfl rfl rfl (by decide +kernel) ⟨Nat.le_of_ble_eq_true rfl, Nat.le_of_ble_eq_true rfl⟩) (ro_V hG hPc (va_recv hK hPc (ci := 9) (q0 := 0) rfl rfl)) rfl rfl hl.1 rfl (lv_room (Nat.le_of_ble_eq_true rfl)) dL_law_1060 ⟨Nat.le_of_ble_eq_true rfl, Nat.le_of_ble_eq_true rfl⟩)) (fun r_4 h_4 => ?_)
  refine lv_icmp_eq (tgt := 1068) hx hb dL_law_1063 (by decide) (fun c_5 => ?_) (fun c_5 => absurd (h_2.trans h_4.symm) c_5)
  exact law_end C0 hG hA hA2 hS (by decide) (by decide) (lv_sub hl [3, 0] rfl)
