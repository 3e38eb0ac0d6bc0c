/-! THE BASE: what every contract stands on. nlF, nlM: the links between nest mates; GK: classes, array kinds and links as the tables have them; RO, RW: the starts of contracts that read, that write. -/
def nlF : List (String × Nat × String × String × String × String) := [(RX8, 80, "BuoyTender$Mark", "sighting", "LBuoyTender$Sighting;", "BuoyTender"), (RX8, 92, "BuoyTender$Mark", "x", "I", "BuoyTender"), (RX8, 95, "BuoyTender$Mark", "y", "I", "BuoyTender"), (RX8, 106, "BuoyTender$Mark", "radius", "I", "BuoyTender"), (RX8, 113, "BuoyTender$Sighting", "told", "Z", "BuoyTender"), (RX8, 123, "BuoyTender$Mark", "chain", "LBuoyTender$Chain;", "BuoyTender"), (RX8, 137, "BuoyTender$Chain", "laid", "Z", "BuoyTender"), (RX8, 154, "BuoyTender$Chain", "since", "I", "BuoyTender"), (RX8, 157, "BuoyTender$Mark", "rhythm", "LBuoyTender$Rhythm;", "BuoyTender"), (RX8, 206, "BuoyTender$Warnings", "markOf", "[I", "BuoyTender"), (RX8, 209, "BuoyTender$Warnings", "reasonOf", "[I", "BuoyTender"), (RX8, 212, "BuoyTender$Warnings", "toldOn", "[I", "BuoyTender"), (RX8, 215, "BuoyTender$Warnings", "cancelledOn", "[I", "BuoyTender"), (RX8, 218, "BuoyTender$Mark", "minutes", "I", "BuoyTender"), (RX8, 221, "BuoyTender$Mark", "load", "I", "BuoyTender"), (RX8, 224, "BuoyTender$Mark", "weight", "I", "BuoyTender"), (RX8, 227, "BuoyTender$Ship", "tides", "[I", "BuoyTender"), (RX8, 230, "BuoyTender$Ship", "winds", "[I", "BuoyTender"), (RX8, 233, "BuoyTender$Ship", "pace", "I", "BuoyTender"), (RX8, 236, "BuoyTender$Ship", "draught", "I", "BuoyTender"), (RX8, 239, "BuoyTender$Ship", "mostWind", "I", "BuoyTender"), (RX8, 242, "BuoyTender$Ship", "carried", "I", "BuoyTender"), (RX8, 245, "BuoyTender$Ship", "x", "I", "BuoyTender"), (RX8, 246, "BuoyTender$Ship", "y", "I", "BuoyTender"), (RX8, 247, "BuoyTender$Ship", "minute", "I", "BuoyTender"), (RX8, 250, "BuoyTender$Ship", "end", "I", "BuoyTender"), (RX8, 256, "BuoyTender$Planner", "bestWeight", "I", "BuoyTender"), (RX8, 259, "BuoyTender$Planner", "bestBack", "I", "BuoyTender"), (RX8, 262, "BuoyTender$Planner", "length", "I", "BuoyTender"), (RX8, 271, "BuoyTender$Warnings", "count", "I", "BuoyTender"), (RX8, 280, "BuoyTender$Survey", "left", "I", "BuoyTender"), (RX8, 283, "BuoyTender$Survey", "leastX", "I", "BuoyTender"), (RX8, 286, "BuoyTender$Survey", "leastY", "I", "BuoyTender"), (RX8, 289, "BuoyTender$Survey", "mostX", "I", "BuoyTender"), (RX8, 292, "BuoyTender$Survey", "mostY", "I", "BuoyTender"), (RX2, 79, "BuoyTender$Mark", "weight", "I", "BuoyTender"), (RX2, 84, "BuoyTender$Mark", "minutes", "I", "BuoyTender"), (RX2, 86, "BuoyTender$Mark", "load", "I", "BuoyTender"), (RX2, 89, "BuoyTender$Mark", "y", "I", "BuoyTender"), (RX2, 92, "BuoyTender$Mark", "x", "I", "BuoyTender"), (RX2, 113, "BuoyTender$Ship", "x", "I", "BuoyTender"), (RX2, 114, "BuoyTender$Ship", "y", "I", "BuoyTender"), (RX2, 125, "BuoyTender$Ship", "pace", "I", "BuoyTender"), (RX2, 136, "BuoyTender$Ship", "minute", "I", "BuoyTender"), (RX2, 143, "BuoyTender$Ship", "carried", "I", "BuoyTender"), (RX2, 150, "BuoyTender$Ship", "end", "I", "BuoyTender"), (RX6, 30, "BuoyTender$Mark", "sighting", "LBuoyTender$Sighting;", "BuoyTender"), (RX6, 36, "BuoyTender$Sighting", "ruledOut", "[J", "BuoyTender"), (RX6, 42, "BuoyTender$Sighting", "shallowest", "I", "BuoyTender"), (RX6, 45, "BuoyTender$Sighting", "deepest", "I", "BuoyTender"), (RX6, 61, "BuoyTender$Mark", "x", "I", "BuoyTender"), (RX6, 64, "BuoyTender$Mark", "y", "I", "BuoyTender"), (RX6, 71, "BuoyTender$Mark", "radius", "I", "BuoyTender")]
def nlM : List (String × Nat × MethodName × String) := [(RX8, 24, yX7_init, "BuoyTender"), (RX8, 31, yX4_init, "BuoyTender"), (RX8, 38, yX2_init, "BuoyTender"), (RX8, 45, yX6_init, "BuoyTender"), (RX8, 52, yX3_init, "BuoyTender"), (RX8, 73, yX1_init, "BuoyTender"), (RX8, 84, yX5_begin, "BuoyTender"), (RX8, 98, yX5_tellBearing, "BuoyTender"), (RX8, 102, yX5_tellSounding, "BuoyTender"), (RX8, 109, yX6_take, "BuoyTender"), (RX8, 131, yX0_lay, "BuoyTender"), (RX8, 140, yX0_leftBehind, "BuoyTender"), (RX8, 150, yX0_lifeEnds, "BuoyTender"), (RX8, 160, yX3_goDark, "BuoyTender"), (RX8, 163, yX3_read, "BuoyTender"), (RX8, 170, yX3_copyFrom, "BuoyTender"), (RX8, 181, yX3_isLit, "BuoyTender"), (RX8, 185, yX3_matches, "BuoyTender"), (RX8, 189, yX7_tell, "BuoyTender"), (RX8, 193, yX7_end, "BuoyTender"), (RX8, 196, yX7_countOn, "BuoyTender"), (RX8, 200, yX7_numberOn, "BuoyTender"), (RX8, 203, yX7_has, "BuoyTender"), (RX8, 252, yX2_plan, "BuoyTender"), (RX8, 265, yX2_loadDone, "BuoyTender"), (RX8, 268, yX2_step, "BuoyTender"), (RX8, 277, yX6_how, "BuoyTender"), (RX8, 295, yX1_isNear, "BuoyTender"), (RX1, 9, yX5_init, "BuoyTender"), (RX1, 18, yX0_init, "BuoyTender"), (RX1, 25, yX3_init, "BuoyTender"), (RX1, 40, yX8_squareBetween, "BuoyTender"), (RX2, 99, yX4_mayBegin, "BuoyTender"), (RX3, 19, yX8_within, "BuoyTender"), (RX6, 67, yX8_squareBetween, "BuoyTender")]
def NL (U : State) : Prop := (∀ q ∈ nlF, va_Nw (.fieldLinkNest q.1 q.2.1 q.2.2.1 q.2.2.2.1 q.2.2.2.2.1 q.2.2.2.2.2) U) ∧ (∀ q ∈ nlM, va_Nw (.methodLinkNest q.1 q.2.1 q.2.2.1 q.2.2.2) U) ∧ va_AO "BuoyTender$Mark" U
theorem nl_warm {s U : State} (hW : s.WarmedH U.vm) (h : NL s) : NL U := ⟨fun q hq => va_Nw.warmF hW (h.1 q hq), fun q hq => va_Nw.warmM hW (h.2.1 q hq), va_AO.moved hW.alike h.2.2⟩
theorem nl_same {u U : State} (hv : u.vm = U.vm) (h : NL u) : NL U := ⟨fun q hq => (h.1 q hq).same rfl hv, fun q hq => (h.2.1 q hq).same rfl hv, va_AO.moved (by rw [hv]; exact Vm.Alike.refl U.vm) h.2.2⟩
abbrev TY (cI cJ cZ cM : Nat) : List (ClassId × FieldType) := [(cI, .int), (cJ, .long), (cZ, .boolean), (cM, .object "BuoyTender$Mark")]
def GK (D : va_G) (cI cJ cZ cM : Nat) (U : State) : Prop := va_K D vwCl (TY cI cJ cZ cM) U ∧ NL U
theorem gk_warm {D : va_G} {cI cJ cZ cM : Nat} {s U : State} (hW : s.WarmedH U.vm) (h : GK D cI cJ cZ cM s) : GK D cI cJ cZ cM U := ⟨va_K.moved hW.alike h.1, nl_warm hW h.2⟩
theorem gk_call {D : va_G} {cI cJ cZ cM : Nat} {U : State} (g : JFrame) (mk : MethodId) (a : Array Value) (h : GK D cI cJ cZ cM U) : GK D cI cJ cZ cM (U.calling g mk a) := ⟨va_K.moved (u := U) (U := U.calling g mk a) (Vm.Alike.refl U.vm) h.1, nl_same (u := U) (U := U.calling g mk a) rfl h.2⟩
abbrev RO (D : va_G) (cI cJ cZ cM : Nat) (av : List Value) (ws : va_W) : Array Value → State → Prop := va_Pc av (fun U => GK D cI cJ cZ cM U ∧ va_P D vwCl ws U.heap)
abbrev RW (D : va_G) (cI cJ cZ cM : Nat) (av : List Value) (ws : va_W) (sz : Nat) : Array Value → State → Prop := va_Pc av (fun U => U.heap.size = sz ∧ GK D cI cJ cZ cM U ∧ va_P D vwCl ws U.heap ∧ va_D (fun _ => True) ws)
theorem ro_S {D : va_G} {cI cJ cZ cM : Nat} {s : State} {H : Heap} {As : List Value} {ws : va_W} (hG : GK D cI cJ cZ cM s) (hP : va_P D vwCl ws H) : PreS s H (RO D cI cJ cZ cM As ws) As := ⟨fun a U g mk q => ⟨q.1, gk_call g mk a q.2.1, q.2.2⟩, fun U hU hW => ⟨rfl, gk_warm hW hG, by rw [hU]; exact hP⟩⟩
theorem ro_V {D : va_G} {cI cJ cZ cM : Nat} {s : State} {H : Heap} {As : List Value} {ws : va_W} {C : String} {b : Nat} (hG : GK D cI cJ cZ cM s) (hP : va_P D vwCl ws H) (hr : ∃ cellB : Cell, H[b]? = some cellB ∧ cellB.vm.isStatics = false ∧ s.vm.findClass C = some cellB.cls) : PreV s H C b (RO D cI cJ cZ cM (.ref b :: As) ws) As := ⟨fun a U g mk q => ⟨q.1, gk_call g mk a q.2.1, q.2.2⟩, hr, fun U hU hW => ⟨rfl, gk_warm hW hG, by rw [hU]; exact hP⟩⟩
theorem rw_S {D : va_G} {cI cJ cZ cM : Nat} {s : State} {H : Heap} {As : List Value} {ws : va_W} {A : Nat → Prop} (hG : GK D cI cJ cZ cM s) (hP : va_P D vwCl ws H) (hD : va_D A ws) : PreS s H (RW D cI cJ cZ cM As ws H.size) As := ⟨fun a U g mk q => ⟨q.1, q.2.1, gk_call g mk a q.2.2.1, q.2.2.2⟩, fun U hU hW => ⟨rfl, by rw [hU], gk_warm hW hG, by rw [hU]; exact hP, hD.weaken (fun _ _ _ _ => trivial)⟩⟩
theorem rw_V {D : va_G} {cI cJ cZ cM : Nat} {s : State} {H : Heap} {As : List Value} {ws : va_W} {A : Nat → Prop} {C : String} {b : Nat} (hG : GK D cI cJ cZ cM s) (hP : va_P D vwCl ws H) (hD : va_D A ws) (hr : ∃ cellB : Cell, H[b]? = some cellB ∧ cellB.vm.isStatics = false ∧ s.vm.findClass C = some cellB.cls) : PreV s H C b (RW D cI cJ cZ cM (.ref b :: As) ws H.size) As := ⟨fun a U g mk q => ⟨q.1, q.2.1, gk_call g mk a q.2.2.1, q.2.2.2⟩, hr, fun U hU hW => ⟨rfl, by rw [hU], gk_warm hW hG, by rw [hU]; exact hP, hD.weaken (fun _ _ _ _ => trivial)⟩⟩
/-- the world behind a writing method -/
abbrev BB {S : Type} (D : va_G) (f : S → va_W) (A : Nat → Prop) : S → State → Prop := fun u t => va_P D vwCl (f u) t.heap ∧ va_D A (f u)
section MYNEW
variable {p : Program} {l : Launch} {e : Env} {R : Room} {s : State} {m : MethodId} {args : Array Value} {below : List Frame} {meth : Method} {c : Code} {H H0 : Heap} {locs : List Loc} {cells slots : Nat} {Q : State → Prop} {cc : ByteArray} {pc : Nat} {ls : Array Slot} {rest : List Value} {D : va_G} {cI cJ cZ cM : Nat} {ws : va_W} {A : Nat → Prop}
theorem my_newi (hexec : p.tables.exec = Jvm.exec) (hb : c.code = cc) (harr : (Cond.arrayClass .int).before args s = true) (hK : va_K D vwCl (TY cI cJ cZ cM) s) (hP : va_P D vwCl ws H) (hD : va_D A ws) (hS : va_S A H0 H locs) (hA : ∀ q, H0.size ≤ q → A q)
    {n : Int32} {N' : Nat} (hn : ¬ n < 0) (hN : n.toNatClampNeg = N') (hbytes : N' * componentBytes .int ≤ 536870912) (hcells : cells + 1 ≤ R.cells) (hslots : slots + N' ≤ R.slots) (hdg : decode cc pc = .ok (.newarray .int, 2))
    (kk : ∀ (q : Nat) (H1 : Heap), va_P D vwCl (ws ++ [(q, .inl (cI, N', .inl (fun _ => 0)))]) H1 → va_D A (ws ++ [(q, .inl (cI, N', .inl (fun _ => 0)))]) → va_S A H0 H1 locs →
      W p l e R s m args below meth c H1 locs (cells + 1) (slots + N') Q (F0 m (pc + 2) ls (.ref q :: rest))) : W p l e R s m args below meth c H locs cells slots Q (F0 m pc ls (.int n :: rest)) := by
  refine va_newa (atype := .int) (ty := .int) (a0 := (N', .inl (fun _ => 0))) hexec hb harr rfl hK hP hD hS hA (fun cA => rfl) hn hN hbytes hcells hslots hdg (fun q cA H1 k1 p1 d1 s1 => ?_)
  have e1 := va_nm_int ((k1.2 4 (cA, .int) rfl).2)
  have e2 := va_nm_int ((k1.2 0 (cI, .int) rfl).2)
  have e3 : cA = cI := Option.some.inj (e1.symm.trans e2)
  subst e3
  exact kk q H1 p1 d1 s1
theorem my_newz (hexec : p.tables.exec = Jvm.exec) (hb : c.code = cc) (harr : (Cond.arrayClass .boolean).before args s = true) (hK : va_K D vwCl (TY cI cJ cZ cM) s) (hP : va_P D vwCl ws H) (hD : va_D A ws) (hS : va_S A H0 H locs) (hA : ∀ q, H0.size ≤ q → A q)
    {n : Int32} {N' : Nat} (hn : ¬ n < 0) (hN : n.toNatClampNeg = N') (hbytes : N' * componentBytes .boolean ≤ 536870912) (hcells : cells + 1 ≤ R.cells) (hslots : slots + N' ≤ R.slots) (hdg : decode cc pc = .ok (.newarray .boolean, 2))
    (kk : ∀ (q : Nat) (H1 : Heap), va_P D vwCl (ws ++ [(q, .inl (cZ, N', .inl (fun _ => 0)))]) H1 → va_D A (ws ++ [(q, .inl (cZ, N', .inl (fun _ => 0)))]) → va_S A H0 H1 locs →
      W p l e R s m args below meth c H1 locs (cells + 1) (slots + N') Q (F0 m (pc + 2) ls (.ref q :: rest))) : W p l e R s m args below meth c H locs cells slots Q (F0 m pc ls (.int n :: rest)) := by
  refine va_newa (atype := .boolean) (ty := .boolean) (a0 := (N', .inl (fun _ => 0))) hexec hb harr rfl hK hP hD hS hA (fun cA => rfl) hn hN hbytes hcells hslots hdg (fun q cA H1 k1 p1 d1 s1 => ?_)
  have e1 := va_nm_boolean ((k1.2 4 (cA, .boolean) rfl).2)
  have e2 := va_nm_boolean ((k1.2 2 (cZ, .boolean) rfl).2)
  have e3 : cA = cZ := Option.some.inj (e1.symm.trans e2)
  subst e3
  exact kk q H1 p1 d1 s1
theorem my_newl (hexec : p.tables.exec = Jvm.exec) (hb : c.code = cc) (harr : (Cond.arrayClass .long).before args s = true) (hK : va_K D vwCl (TY cI cJ cZ cM) s) (hP : va_P D vwCl ws H) (hD : va_D A ws) (hS : va_S A H0 H locs) (hA : ∀ q, H0.size ≤ q → A q)
    {n : Int32} {N' : Nat} (hn : ¬ n < 0) (hN : n.toNatClampNeg = N') (hbytes : N' * componentBytes .long ≤ 536870912) (hcells : cells + 1 ≤ R.cells) (hslots : slots + N' ≤ R.slots) (hdg : decode cc pc = .ok (.newarray .long, 2))
    (kk : ∀ (q : Nat) (H1 : Heap), va_P D vwCl (ws ++ [(q, .inl (cJ, N', .inr (.inl (fun _ => 0))))]) H1 → va_D A (ws ++ [(q, .inl (cJ, N', .inr (.inl (fun _ => 0))))]) → va_S A H0 H1 locs →
      W p l e R s m args below meth c H1 locs (cells + 1) (slots + N') Q (F0 m (pc + 2) ls (.ref q :: rest))) : W p l e R s m args below meth c H locs cells slots Q (F0 m pc ls (.int n :: rest)) := by
  refine va_newa (atype := .long) (ty := .long) (a0 := (N', .inr (.inl (fun _ => 0)))) hexec hb harr rfl hK hP hD hS hA (fun cA => rfl) hn hN hbytes hcells hslots hdg (fun q cA H1 k1 p1 d1 s1 => ?_)
  have e1 := va_nm_long ((k1.2 4 (cA, .long) rfl).2)
  have e2 := va_nm_long ((k1.2 1 (cJ, .long) rfl).2)
  have e3 : cA = cJ := Option.some.inj (e1.symm.trans e2)
  subst e3
  exact kk q H1 p1 d1 s1
theorem my_newq (hexec : p.tables.exec = Jvm.exec) (hb : c.code = cc) {own : String} {index : Nat} (hown : s.vm.findClass own = some m.cls) (hclink : (Cond.classLink own index RX1).before args s = true) (hover : va_AO "BuoyTender$Mark" s) (hK : va_K D vwCl (TY cI cJ cZ cM) s) (hP : va_P D vwCl ws H) (hD : va_D A ws) (hS : va_S A H0 H locs) (hA : ∀ q, H0.size ≤ q → A q)
    {n : Int32} {N' : Nat} (hn : ¬ n < 0) (hN : n.toNatClampNeg = N') (hbytes : N' * 4 ≤ 536870912) (hcells : cells + 1 ≤ R.cells) (hslots : slots + N' ≤ R.slots) (hdg : decode cc pc = .ok (.anewarray index, 3))
    (kk : ∀ (q : Nat) (H1 : Heap), va_P D vwCl (ws ++ [(q, .inl (cM, N', .inr (.inr (.inr (.inr (fun _ => none))))))]) H1 → va_D A (ws ++ [(q, .inl (cM, N', .inr (.inr (.inr (.inr (fun _ => none))))))]) → va_S A H0 H1 locs →
      W p l e R s m args below meth c H1 locs (cells + 1) (slots + N') Q (F0 m (pc + 3) ls (.ref q :: rest))) : W p l e R s m args below meth c H locs cells slots Q (F0 m pc ls (.int n :: rest)) := by
  refine va_newq (C := "BuoyTender$Mark") hexec hb hown hclink hover hK hP hD hS hA hn hN hbytes hcells hslots hdg (fun q cA H1 k1 p1 d1 s1 => ?_)
  obtain ⟨_, _, _, _, _, e1⟩ := (k1.2 4 (cA, .object "BuoyTender$Mark") rfl).2
  obtain ⟨_, _, _, _, _, e2⟩ := (k1.2 3 (cM, .object "BuoyTender$Mark") rfl).2
  have e3 : cA = cM := Option.some.inj (e1.symm.trans e2)
  subst e3
  exact kk q H1 p1 d1 s1
end MYNEW
theorem my_nlt {x : Int32} (h : ¬ x < 0) : 0 ≤ x := Int32.not_lt.mp h
theorem my_none {x : Int32} (h1 : 0 ≤ x) (h2 : x ≤ (-1)) : False := by
  have a := Int32.le_iff_toInt_le.mp h1
  have b := Int32.le_iff_toInt_le.mp h2
  have c : (-1 : Int32).toInt = -1 := by decide
  have d : (0 : Int32).toInt = 0 := by decide
  rw [c] at b; rw [d] at a; omega
theorem my_out {x : Int32} {hi : Nat} (h : ∀ z : Nat, z ≤ hi → ¬ x = Int32.ofNat z) (hs : hi < 2 ^ 31) : x.toInt < (0 : Int) ∨ (hi : Int) < x.toInt := by
  rcases Int.lt_or_le x.toInt 0 with q | q
  · exact Or.inl q
  · refine Or.inr (Int.not_le.mp (fun h2 => ?_))
    have h3 : x.toInt.toNat ≤ hi := by omega
    refine h _ h3 (Int32.toInt_inj.mp ?_)
    have h4 : (Int32.ofNat x.toInt.toNat).toInt = (x.toInt.toNat : Int) := nI_toInt (by omega)
    rw [h4]; omega
def okI (a b : Int32) (P : Prop) (r : Int32) : Prop := (r = a ∧ P) ∨ (r = b ∧ ¬ P)
def placeP (x y : Int32) : Prop := (0 ≤ x ∧ x ≤ 39) ∧ (0 ≤ y ∧ y ≤ 39)
