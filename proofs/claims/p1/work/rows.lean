section
-- ===== PART A: goes FIRST, ahead of the names: the tables' words, and 'selects' of the private methods out of them =====
/-- a private method of a class that the tables say can be made, by its rows of tables_1 -/
def lw_okq (q : MethodName × Nat) : Prop := (q.1.cls ≠ "java/lang/invoke/MethodHandle" ∧ q.1.cls ≠ "java/lang/invoke/VarHandle") ∧ Cond.instantiable q.1.cls q.2 ∈ tables_1 ∧ Cond.privateMethod q.1 ∈ tables_1 ∧ Cond.instanceMethod q.1 ∈ tables_1
theorem lw_p0 : lw_okq (⟨"BuoyTender", "known", "(I)LBuoyTender$Mark;"⟩, 12) := ⟨⟨by decide +kernel, by decide +kernel⟩, List.mem_of_getElem? (i := 15) (by decide +kernel), List.mem_of_getElem? (i := 298) (by decide +kernel), List.mem_of_getElem? (i := 299) (by decide +kernel)⟩
theorem lw_p1 : lw_okq (⟨"BuoyTender$Sighting", "begin", "()V"⟩, 4) := ⟨⟨by decide +kernel, by decide +kernel⟩, List.mem_of_getElem? (i := 201) (by decide +kernel), List.mem_of_getElem? (i := 302) (by decide +kernel), List.mem_of_getElem? (i := 303) (by decide +kernel)⟩
theorem lw_p2 : lw_okq (⟨"BuoyTender$Sighting", "tellBearing", "(IIIIII)V"⟩, 4) := ⟨⟨by decide +kernel, by decide +kernel⟩, List.mem_of_getElem? (i := 201) (by decide +kernel), List.mem_of_getElem? (i := 316) (by decide +kernel), List.mem_of_getElem? (i := 317) (by decide +kernel)⟩
theorem lw_p3 : lw_okq (⟨"BuoyTender$Sighting", "tellSounding", "(II)V"⟩, 4) := ⟨⟨by decide +kernel, by decide +kernel⟩, List.mem_of_getElem? (i := 201) (by decide +kernel), List.mem_of_getElem? (i := 324) (by decide +kernel), List.mem_of_getElem? (i := 325) (by decide +kernel)⟩
theorem lw_p4 : lw_okq (⟨"BuoyTender$Survey", "take", "(LBuoyTender$Mark;[I)V"⟩, 6) := ⟨⟨by decide +kernel, by decide +kernel⟩, List.mem_of_getElem? (i := 102) (by decide +kernel), List.mem_of_getElem? (i := 338) (by decide +kernel), List.mem_of_getElem? (i := 339) (by decide +kernel)⟩
theorem lw_p5 : lw_okq (⟨"BuoyTender$Survey", "count", "(LBuoyTender$Mark;II)V"⟩, 6) := ⟨⟨by decide +kernel, by decide +kernel⟩, List.mem_of_getElem? (i := 102) (by decide +kernel), List.mem_of_getElem? (i := 342) (by decide +kernel), List.mem_of_getElem? (i := 343) (by decide +kernel)⟩
theorem lw_p6 : lw_okq (⟨"BuoyTender", "surveyed", "(IZ)I"⟩, 12) := ⟨⟨by decide +kernel, by decide +kernel⟩, List.mem_of_getElem? (i := 15) (by decide +kernel), List.mem_of_getElem? (i := 351) (by decide +kernel), List.mem_of_getElem? (i := 352) (by decide +kernel)⟩
theorem lw_p7 : lw_okq (⟨"BuoyTender$Survey", "how", "()I"⟩, 6) := ⟨⟨by decide +kernel, by decide +kernel⟩, List.mem_of_getElem? (i := 102) (by decide +kernel), List.mem_of_getElem? (i := 355) (by decide +kernel), List.mem_of_getElem? (i := 356) (by decide +kernel)⟩
theorem lw_p8 : lw_okq (⟨"BuoyTender", "thisMonth", "()I"⟩, 12) := ⟨⟨by decide +kernel, by decide +kernel⟩, List.mem_of_getElem? (i := 15) (by decide +kernel), List.mem_of_getElem? (i := 367) (by decide +kernel), List.mem_of_getElem? (i := 368) (by decide +kernel)⟩
theorem lw_p9 : lw_okq (⟨"BuoyTender$Chain", "lay", "(IIII)V"⟩, 5) := ⟨⟨by decide +kernel, by decide +kernel⟩, List.mem_of_getElem? (i := 225) (by decide +kernel), List.mem_of_getElem? (i := 371) (by decide +kernel), List.mem_of_getElem? (i := 372) (by decide +kernel)⟩
theorem lw_p10 : lw_okq (⟨"BuoyTender$Chain", "leftBehind", "(I[I)I"⟩, 5) := ⟨⟨by decide +kernel, by decide +kernel⟩, List.mem_of_getElem? (i := 225) (by decide +kernel), List.mem_of_getElem? (i := 383) (by decide +kernel), List.mem_of_getElem? (i := 384) (by decide +kernel)⟩
theorem lw_p11 : lw_okq (⟨"BuoyTender$Chain", "wornIn", "(I[I)I"⟩, 5) := ⟨⟨by decide +kernel, by decide +kernel⟩, List.mem_of_getElem? (i := 225) (by decide +kernel), List.mem_of_getElem? (i := 387) (by decide +kernel), List.mem_of_getElem? (i := 388) (by decide +kernel)⟩
theorem lw_p12 : lw_okq (⟨"BuoyTender$Chain", "lifeEnds", "([I)I"⟩, 5) := ⟨⟨by decide +kernel, by decide +kernel⟩, List.mem_of_getElem? (i := 225) (by decide +kernel), List.mem_of_getElem? (i := 392) (by decide +kernel), List.mem_of_getElem? (i := 393) (by decide +kernel)⟩
theorem lw_p13 : lw_okq (⟨"BuoyTender$Rhythm", "goDark", "()V"⟩, 2) := ⟨⟨by decide +kernel, by decide +kernel⟩, List.mem_of_getElem? (i := 132) (by decide +kernel), List.mem_of_getElem? (i := 400) (by decide +kernel), List.mem_of_getElem? (i := 401) (by decide +kernel)⟩
theorem lw_p14 : lw_okq (⟨"BuoyTender$Rhythm", "read", "(II)Z"⟩, 2) := ⟨⟨by decide +kernel, by decide +kernel⟩, List.mem_of_getElem? (i := 132) (by decide +kernel), List.mem_of_getElem? (i := 404) (by decide +kernel), List.mem_of_getElem? (i := 405) (by decide +kernel)⟩
theorem lw_p15 : lw_okq (⟨"BuoyTender", "clashesNearby", "(ILBuoyTender$Mark;)Z"⟩, 12) := ⟨⟨by decide +kernel, by decide +kernel⟩, List.mem_of_getElem? (i := 15) (by decide +kernel), List.mem_of_getElem? (i := 409) (by decide +kernel), List.mem_of_getElem? (i := 410) (by decide +kernel)⟩
def lw_privs_1 : List (MethodName × Nat) := [(⟨"BuoyTender", "known", "(I)LBuoyTender$Mark;"⟩, 12), (⟨"BuoyTender$Sighting", "begin", "()V"⟩, 4), (⟨"BuoyTender$Sighting", "tellBearing", "(IIIIII)V"⟩, 4), (⟨"BuoyTender$Sighting", "tellSounding", "(II)V"⟩, 4), (⟨"BuoyTender$Survey", "take", "(LBuoyTender$Mark;[I)V"⟩, 6), (⟨"BuoyTender$Survey", "count", "(LBuoyTender$Mark;II)V"⟩, 6), (⟨"BuoyTender", "surveyed", "(IZ)I"⟩, 12), (⟨"BuoyTender$Survey", "how", "()I"⟩, 6), (⟨"BuoyTender", "thisMonth", "()I"⟩, 12), (⟨"BuoyTender$Chain", "lay", "(IIII)V"⟩, 5), (⟨"BuoyTender$Chain", "leftBehind", "(I[I)I"⟩, 5), (⟨"BuoyTender$Chain", "wornIn", "(I[I)I"⟩, 5), (⟨"BuoyTender$Chain", "lifeEnds", "([I)I"⟩, 5), (⟨"BuoyTender$Rhythm", "goDark", "()V"⟩, 2), (⟨"BuoyTender$Rhythm", "read", "(II)Z"⟩, 2), (⟨"BuoyTender", "clashesNearby", "(ILBuoyTender$Mark;)Z"⟩, 12)]
theorem lw_r1 : ∀ q ∈ lw_privs_1, lw_okq q := List.forall_mem_cons.mpr ⟨lw_p0, List.forall_mem_cons.mpr ⟨lw_p1, List.forall_mem_cons.mpr ⟨lw_p2, List.forall_mem_cons.mpr ⟨lw_p3, List.forall_mem_cons.mpr ⟨lw_p4, List.forall_mem_cons.mpr ⟨lw_p5, List.forall_mem_cons.mpr ⟨lw_p6, List.forall_mem_cons.mpr ⟨lw_p7, List.forall_mem_cons.mpr ⟨lw_p8, List.forall_mem_cons.mpr ⟨lw_p9, List.forall_mem_cons.mpr ⟨lw_p10, List.forall_mem_cons.mpr ⟨lw_p11, List.forall_mem_cons.mpr ⟨lw_p12, List.forall_mem_cons.mpr ⟨lw_p13, List.forall_mem_cons.mpr ⟨lw_p14, List.forall_mem_cons.mpr ⟨lw_p15, fun _ h => absurd h List.not_mem_nil⟩⟩⟩⟩⟩⟩⟩⟩⟩⟩⟩⟩⟩⟩⟩⟩
theorem lw_p16 : lw_okq (⟨"BuoyTender$Mark", "isNear", "(LBuoyTender$Mark;I)Z"⟩, 9) := ⟨⟨by decide +kernel, by decide +kernel⟩, List.mem_of_getElem? (i := 195) (by decide +kernel), List.mem_of_getElem? (i := 413) (by decide +kernel), List.mem_of_getElem? (i := 414) (by decide +kernel)⟩
theorem lw_p17 : lw_okq (⟨"BuoyTender$Rhythm", "matches", "(LBuoyTender$Rhythm;)Z"⟩, 2) := ⟨⟨by decide +kernel, by decide +kernel⟩, List.mem_of_getElem? (i := 132) (by decide +kernel), List.mem_of_getElem? (i := 418) (by decide +kernel), List.mem_of_getElem? (i := 419) (by decide +kernel)⟩
theorem lw_p18 : lw_okq (⟨"BuoyTender$Rhythm", "matchesTurned", "(LBuoyTender$Rhythm;I)Z"⟩, 2) := ⟨⟨by decide +kernel, by decide +kernel⟩, List.mem_of_getElem? (i := 132) (by decide +kernel), List.mem_of_getElem? (i := 422) (by decide +kernel), List.mem_of_getElem? (i := 423) (by decide +kernel)⟩
theorem lw_p19 : lw_okq (⟨"BuoyTender$Rhythm", "copyFrom", "(LBuoyTender$Rhythm;)V"⟩, 2) := ⟨⟨by decide +kernel, by decide +kernel⟩, List.mem_of_getElem? (i := 132) (by decide +kernel), List.mem_of_getElem? (i := 426) (by decide +kernel), List.mem_of_getElem? (i := 427) (by decide +kernel)⟩
theorem lw_p20 : lw_okq (⟨"BuoyTender", "clashesWithin", "(I)Z"⟩, 12) := ⟨⟨by decide +kernel, by decide +kernel⟩, List.mem_of_getElem? (i := 15) (by decide +kernel), List.mem_of_getElem? (i := 437) (by decide +kernel), List.mem_of_getElem? (i := 438) (by decide +kernel)⟩
theorem lw_p21 : lw_okq (⟨"BuoyTender$Rhythm", "isLit", "()Z"⟩, 2) := ⟨⟨by decide +kernel, by decide +kernel⟩, List.mem_of_getElem? (i := 132) (by decide +kernel), List.mem_of_getElem? (i := 445) (by decide +kernel), List.mem_of_getElem? (i := 446) (by decide +kernel)⟩
theorem lw_p22 : lw_okq (⟨"BuoyTender$Warnings", "tell", "(III)I"⟩, 5) := ⟨⟨by decide +kernel, by decide +kernel⟩, List.mem_of_getElem? (i := 25) (by decide +kernel), List.mem_of_getElem? (i := 453) (by decide +kernel), List.mem_of_getElem? (i := 454) (by decide +kernel)⟩
theorem lw_p23 : lw_okq (⟨"BuoyTender$Warnings", "isOpen", "(II)Z"⟩, 5) := ⟨⟨by decide +kernel, by decide +kernel⟩, List.mem_of_getElem? (i := 25) (by decide +kernel), List.mem_of_getElem? (i := 457) (by decide +kernel), List.mem_of_getElem? (i := 458) (by decide +kernel)⟩
theorem lw_p24 : lw_okq (⟨"BuoyTender$Warnings", "end", "(II)Z"⟩, 5) := ⟨⟨by decide +kernel, by decide +kernel⟩, List.mem_of_getElem? (i := 25) (by decide +kernel), List.mem_of_getElem? (i := 465) (by decide +kernel), List.mem_of_getElem? (i := 466) (by decide +kernel)⟩
theorem lw_p25 : lw_okq (⟨"BuoyTender$Warnings", "has", "(I)Z"⟩, 5) := ⟨⟨by decide +kernel, by decide +kernel⟩, List.mem_of_getElem? (i := 25) (by decide +kernel), List.mem_of_getElem? (i := 469) (by decide +kernel), List.mem_of_getElem? (i := 470) (by decide +kernel)⟩
theorem lw_p26 : lw_okq (⟨"BuoyTender$Warnings", "countOn", "(I)I"⟩, 5) := ⟨⟨by decide +kernel, by decide +kernel⟩, List.mem_of_getElem? (i := 25) (by decide +kernel), List.mem_of_getElem? (i := 477) (by decide +kernel), List.mem_of_getElem? (i := 478) (by decide +kernel)⟩
theorem lw_p27 : lw_okq (⟨"BuoyTender$Warnings", "isOutOn", "(II)Z"⟩, 5) := ⟨⟨by decide +kernel, by decide +kernel⟩, List.mem_of_getElem? (i := 25) (by decide +kernel), List.mem_of_getElem? (i := 481) (by decide +kernel), List.mem_of_getElem? (i := 482) (by decide +kernel)⟩
theorem lw_p28 : lw_okq (⟨"BuoyTender$Warnings", "numberOn", "(II)I"⟩, 5) := ⟨⟨by decide +kernel, by decide +kernel⟩, List.mem_of_getElem? (i := 25) (by decide +kernel), List.mem_of_getElem? (i := 489) (by decide +kernel), List.mem_of_getElem? (i := 490) (by decide +kernel)⟩
theorem lw_p29 : lw_okq (⟨"BuoyTender$Planner", "plan", "([LBuoyTender$Mark;[ILBuoyTender$Ship;)V"⟩, 16) := ⟨⟨by decide +kernel, by decide +kernel⟩, List.mem_of_getElem? (i := 518) (by decide +kernel), List.mem_of_getElem? (i := 576) (by decide +kernel), List.mem_of_getElem? (i := 577) (by decide +kernel)⟩
theorem lw_p30 : lw_okq (⟨"BuoyTender$Planner", "gather", "([LBuoyTender$Mark;[ILBuoyTender$Ship;)V"⟩, 16) := ⟨⟨by decide +kernel, by decide +kernel⟩, List.mem_of_getElem? (i := 518) (by decide +kernel), List.mem_of_getElem? (i := 580) (by decide +kernel), List.mem_of_getElem? (i := 581) (by decide +kernel)⟩
theorem lw_p31 : lw_okq (⟨"BuoyTender$Planner", "openHours", "(IILBuoyTender$Ship;)V"⟩, 16) := ⟨⟨by decide +kernel, by decide +kernel⟩, List.mem_of_getElem? (i := 518) (by decide +kernel), List.mem_of_getElem? (i := 584) (by decide +kernel), List.mem_of_getElem? (i := 585) (by decide +kernel)⟩
def lw_privs_2 : List (MethodName × Nat) := [(⟨"BuoyTender$Mark", "isNear", "(LBuoyTender$Mark;I)Z"⟩, 9), (⟨"BuoyTender$Rhythm", "matches", "(LBuoyTender$Rhythm;)Z"⟩, 2), (⟨"BuoyTender$Rhythm", "matchesTurned", "(LBuoyTender$Rhythm;I)Z"⟩, 2), (⟨"BuoyTender$Rhythm", "copyFrom", "(LBuoyTender$Rhythm;)V"⟩, 2), (⟨"BuoyTender", "clashesWithin", "(I)Z"⟩, 12), (⟨"BuoyTender$Rhythm", "isLit", "()Z"⟩, 2), (⟨"BuoyTender$Warnings", "tell", "(III)I"⟩, 5), (⟨"BuoyTender$Warnings", "isOpen", "(II)Z"⟩, 5), (⟨"BuoyTender$Warnings", "end", "(II)Z"⟩, 5), (⟨"BuoyTender$Warnings", "has", "(I)Z"⟩, 5), (⟨"BuoyTender$Warnings", "countOn", "(I)I"⟩, 5), (⟨"BuoyTender$Warnings", "isOutOn", "(II)Z"⟩, 5), (⟨"BuoyTender$Warnings", "numberOn", "(II)I"⟩, 5), (⟨"BuoyTender$Planner", "plan", "([LBuoyTender$Mark;[ILBuoyTender$Ship;)V"⟩, 16), (⟨"BuoyTender$Planner", "gather", "([LBuoyTender$Mark;[ILBuoyTender$Ship;)V"⟩, 16), (⟨"BuoyTender$Planner", "openHours", "(IILBuoyTender$Ship;)V"⟩, 16)]
theorem lw_r2 : ∀ q ∈ lw_privs_2, lw_okq q := List.forall_mem_cons.mpr ⟨lw_p16, List.forall_mem_cons.mpr ⟨lw_p17, List.forall_mem_cons.mpr ⟨lw_p18, List.forall_mem_cons.mpr ⟨lw_p19, List.forall_mem_cons.mpr ⟨lw_p20, List.forall_mem_cons.mpr ⟨lw_p21, List.forall_mem_cons.mpr ⟨lw_p22, List.forall_mem_cons.mpr ⟨lw_p23, List.forall_mem_cons.mpr ⟨lw_p24, List.forall_mem_cons.mpr ⟨lw_p25, List.forall_mem_cons.mpr ⟨lw_p26, List.forall_mem_cons.mpr ⟨lw_p27, List.forall_mem_cons.mpr ⟨lw_p28, List.forall_mem_cons.mpr ⟨lw_p29, List.forall_mem_cons.mpr ⟨lw_p30, List.forall_mem_cons.mpr ⟨lw_p31, fun _ h => absurd h List.not_mem_nil⟩⟩⟩⟩⟩⟩⟩⟩⟩⟩⟩⟩⟩⟩⟩⟩
theorem lw_p32 : lw_okq (⟨"BuoyTender$Ship", "mayBegin", "(II)Z"⟩, 10) := ⟨⟨by decide +kernel, by decide +kernel⟩, List.mem_of_getElem? (i := 53) (by decide +kernel), List.mem_of_getElem? (i := 588) (by decide +kernel), List.mem_of_getElem? (i := 589) (by decide +kernel)⟩
theorem lw_p33 : lw_okq (⟨"BuoyTender$Planner", "measure", "([LBuoyTender$Mark;LBuoyTender$Ship;)V"⟩, 16) := ⟨⟨by decide +kernel, by decide +kernel⟩, List.mem_of_getElem? (i := 518) (by decide +kernel), List.mem_of_getElem? (i := 592) (by decide +kernel), List.mem_of_getElem? (i := 593) (by decide +kernel)⟩
theorem lw_p34 : lw_okq (⟨"BuoyTender$Planner", "markOfJob", "([LBuoyTender$Mark;I)LBuoyTender$Mark;"⟩, 16) := ⟨⟨by decide +kernel, by decide +kernel⟩, List.mem_of_getElem? (i := 518) (by decide +kernel), List.mem_of_getElem? (i := 596) (by decide +kernel), List.mem_of_getElem? (i := 597) (by decide +kernel)⟩
theorem lw_p35 : lw_okq (⟨"BuoyTender$Planner", "findEarliestEnds", "(LBuoyTender$Ship;)V"⟩, 16) := ⟨⟨by decide +kernel, by decide +kernel⟩, List.mem_of_getElem? (i := 518) (by decide +kernel), List.mem_of_getElem? (i := 607) (by decide +kernel), List.mem_of_getElem? (i := 608) (by decide +kernel)⟩
theorem lw_p36 : lw_okq (⟨"BuoyTender$Planner", "sumOver", "(I[I)I"⟩, 16) := ⟨⟨by decide +kernel, by decide +kernel⟩, List.mem_of_getElem? (i := 518) (by decide +kernel), List.mem_of_getElem? (i := 612) (by decide +kernel), List.mem_of_getElem? (i := 613) (by decide +kernel)⟩
theorem lw_p37 : lw_okq (⟨"BuoyTender$Planner", "earliestEnd", "(IILBuoyTender$Ship;)I"⟩, 16) := ⟨⟨by decide +kernel, by decide +kernel⟩, List.mem_of_getElem? (i := 518) (by decide +kernel), List.mem_of_getElem? (i := 619) (by decide +kernel), List.mem_of_getElem? (i := 620) (by decide +kernel)⟩
theorem lw_p38 : lw_okq (⟨"BuoyTender$Planner", "beginFrom", "(II)I"⟩, 16) := ⟨⟨by decide +kernel, by decide +kernel⟩, List.mem_of_getElem? (i := 518) (by decide +kernel), List.mem_of_getElem? (i := 627) (by decide +kernel), List.mem_of_getElem? (i := 628) (by decide +kernel)⟩
theorem lw_p39 : lw_okq (⟨"BuoyTender$Planner", "chooseBest", "()V"⟩, 16) := ⟨⟨by decide +kernel, by decide +kernel⟩, List.mem_of_getElem? (i := 518) (by decide +kernel), List.mem_of_getElem? (i := 631) (by decide +kernel), List.mem_of_getElem? (i := 632) (by decide +kernel)⟩
theorem lw_p40 : lw_okq (⟨"BuoyTender$Planner", "findLatestEnds", "()V"⟩, 16) := ⟨⟨by decide +kernel, by decide +kernel⟩, List.mem_of_getElem? (i := 518) (by decide +kernel), List.mem_of_getElem? (i := 635) (by decide +kernel), List.mem_of_getElem? (i := 636) (by decide +kernel)⟩
theorem lw_p41 : lw_okq (⟨"BuoyTender$Planner", "latestEnd", "(II)I"⟩, 16) := ⟨⟨by decide +kernel, by decide +kernel⟩, List.mem_of_getElem? (i := 518) (by decide +kernel), List.mem_of_getElem? (i := 640) (by decide +kernel), List.mem_of_getElem? (i := 641) (by decide +kernel)⟩
theorem lw_p42 : lw_okq (⟨"BuoyTender$Planner", "beginUpTo", "(II)I"⟩, 16) := ⟨⟨by decide +kernel, by decide +kernel⟩, List.mem_of_getElem? (i := 518) (by decide +kernel), List.mem_of_getElem? (i := 644) (by decide +kernel), List.mem_of_getElem? (i := 645) (by decide +kernel)⟩
theorem lw_p43 : lw_okq (⟨"BuoyTender$Planner", "chooseOrder", "(LBuoyTender$Ship;)V"⟩, 16) := ⟨⟨by decide +kernel, by decide +kernel⟩, List.mem_of_getElem? (i := 518) (by decide +kernel), List.mem_of_getElem? (i := 648) (by decide +kernel), List.mem_of_getElem? (i := 649) (by decide +kernel)⟩
theorem lw_p44 : lw_okq (⟨"BuoyTender$Planner", "tryFirstOrder", "(ILBuoyTender$Ship;)I"⟩, 16) := ⟨⟨by decide +kernel, by decide +kernel⟩, List.mem_of_getElem? (i := 518) (by decide +kernel), List.mem_of_getElem? (i := 652) (by decide +kernel), List.mem_of_getElem? (i := 653) (by decide +kernel)⟩
theorem lw_p45 : lw_okq (⟨"BuoyTender$Planner", "lowestNext", "(III)I"⟩, 16) := ⟨⟨by decide +kernel, by decide +kernel⟩, List.mem_of_getElem? (i := 518) (by decide +kernel), List.mem_of_getElem? (i := 656) (by decide +kernel), List.mem_of_getElem? (i := 657) (by decide +kernel)⟩
theorem lw_p46 : lw_okq (⟨"BuoyTender$Planner", "isTriedFirst", "(I)Z"⟩, 16) := ⟨⟨by decide +kernel, by decide +kernel⟩, List.mem_of_getElem? (i := 518) (by decide +kernel), List.mem_of_getElem? (i := 660) (by decide +kernel), List.mem_of_getElem? (i := 661) (by decide +kernel)⟩
theorem lw_p47 : lw_okq (⟨"BuoyTender$Planner", "timeOrder", "(LBuoyTender$Ship;)V"⟩, 16) := ⟨⟨by decide +kernel, by decide +kernel⟩, List.mem_of_getElem? (i := 518) (by decide +kernel), List.mem_of_getElem? (i := 665) (by decide +kernel), List.mem_of_getElem? (i := 666) (by decide +kernel)⟩
def lw_privs_3 : List (MethodName × Nat) := [(⟨"BuoyTender$Ship", "mayBegin", "(II)Z"⟩, 10), (⟨"BuoyTender$Planner", "measure", "([LBuoyTender$Mark;LBuoyTender$Ship;)V"⟩, 16), (⟨"BuoyTender$Planner", "markOfJob", "([LBuoyTender$Mark;I)LBuoyTender$Mark;"⟩, 16), (⟨"BuoyTender$Planner", "findEarliestEnds", "(LBuoyTender$Ship;)V"⟩, 16), (⟨"BuoyTender$Planner", "sumOver", "(I[I)I"⟩, 16), (⟨"BuoyTender$Planner", "earliestEnd", "(IILBuoyTender$Ship;)I"⟩, 16), (⟨"BuoyTender$Planner", "beginFrom", "(II)I"⟩, 16), (⟨"BuoyTender$Planner", "chooseBest", "()V"⟩, 16), (⟨"BuoyTender$Planner", "findLatestEnds", "()V"⟩, 16), (⟨"BuoyTender$Planner", "latestEnd", "(II)I"⟩, 16), (⟨"BuoyTender$Planner", "beginUpTo", "(II)I"⟩, 16), (⟨"BuoyTender$Planner", "chooseOrder", "(LBuoyTender$Ship;)V"⟩, 16), (⟨"BuoyTender$Planner", "tryFirstOrder", "(ILBuoyTender$Ship;)I"⟩, 16), (⟨"BuoyTender$Planner", "lowestNext", "(III)I"⟩, 16), (⟨"BuoyTender$Planner", "isTriedFirst", "(I)Z"⟩, 16), (⟨"BuoyTender$Planner", "timeOrder", "(LBuoyTender$Ship;)V"⟩, 16)]
theorem lw_r3 : ∀ q ∈ lw_privs_3, lw_okq q := List.forall_mem_cons.mpr ⟨lw_p32, List.forall_mem_cons.mpr ⟨lw_p33, List.forall_mem_cons.mpr ⟨lw_p34, List.forall_mem_cons.mpr ⟨lw_p35, List.forall_mem_cons.mpr ⟨lw_p36, List.forall_mem_cons.mpr ⟨lw_p37, List.forall_mem_cons.mpr ⟨lw_p38, List.forall_mem_cons.mpr ⟨lw_p39, List.forall_mem_cons.mpr ⟨lw_p40, List.forall_mem_cons.mpr ⟨lw_p41, List.forall_mem_cons.mpr ⟨lw_p42, List.forall_mem_cons.mpr ⟨lw_p43, List.forall_mem_cons.mpr ⟨lw_p44, List.forall_mem_cons.mpr ⟨lw_p45, List.forall_mem_cons.mpr ⟨lw_p46, List.forall_mem_cons.mpr ⟨lw_p47, fun _ h => absurd h List.not_mem_nil⟩⟩⟩⟩⟩⟩⟩⟩⟩⟩⟩⟩⟩⟩⟩⟩
theorem lw_p48 : lw_okq (⟨"BuoyTender$Planner", "loadDone", "()I"⟩, 16) := ⟨⟨by decide +kernel, by decide +kernel⟩, List.mem_of_getElem? (i := 518) (by decide +kernel), List.mem_of_getElem? (i := 669) (by decide +kernel), List.mem_of_getElem? (i := 670) (by decide +kernel)⟩
theorem lw_p49 : lw_okq (⟨"BuoyTender$Planner", "step", "(I)I"⟩, 16) := ⟨⟨by decide +kernel, by decide +kernel⟩, List.mem_of_getElem? (i := 518) (by decide +kernel), List.mem_of_getElem? (i := 673) (by decide +kernel), List.mem_of_getElem? (i := 674) (by decide +kernel)⟩
theorem lw_p50 : lw_okq (⟨"BuoyTender", "jobCount", "()I"⟩, 12) := ⟨⟨by decide +kernel, by decide +kernel⟩, List.mem_of_getElem? (i := 15) (by decide +kernel), List.mem_of_getElem? (i := 681) (by decide +kernel), List.mem_of_getElem? (i := 682) (by decide +kernel)⟩
theorem lw_p51 : lw_okq (⟨"BuoyTenderModel", "isMark", "(I)Z"⟩, 46) := ⟨⟨by decide +kernel, by decide +kernel⟩, List.mem_of_getElem? (i := 685) (by decide +kernel), List.mem_of_getElem? (i := 849) (by decide +kernel), List.mem_of_getElem? (i := 850) (by decide +kernel)⟩
theorem lw_p52 : lw_okq (⟨"BuoyTenderModel", "clashes", "(II)Z"⟩, 46) := ⟨⟨by decide +kernel, by decide +kernel⟩, List.mem_of_getElem? (i := 685) (by decide +kernel), List.mem_of_getElem? (i := 891) (by decide +kernel), List.mem_of_getElem? (i := 892) (by decide +kernel)⟩
theorem lw_p53 : lw_okq (⟨"BuoyTenderModel", "isNear", "(III)Z"⟩, 46) := ⟨⟨by decide +kernel, by decide +kernel⟩, List.mem_of_getElem? (i := 685) (by decide +kernel), List.mem_of_getElem? (i := 895) (by decide +kernel), List.mem_of_getElem? (i := 896) (by decide +kernel)⟩
theorem lw_p54 : lw_okq (⟨"BuoyTenderModel", "isAlike", "(II)Z"⟩, 46) := ⟨⟨by decide +kernel, by decide +kernel⟩, List.mem_of_getElem? (i := 685) (by decide +kernel), List.mem_of_getElem? (i := 899) (by decide +kernel), List.mem_of_getElem? (i := 900) (by decide +kernel)⟩
theorem lw_p55 : lw_okq (⟨"BuoyTenderModel", "isForce", "(II)Z"⟩, 46) := ⟨⟨by decide +kernel, by decide +kernel⟩, List.mem_of_getElem? (i := 685) (by decide +kernel), List.mem_of_getElem? (i := 923) (by decide +kernel), List.mem_of_getElem? (i := 924) (by decide +kernel)⟩
theorem lw_p56 : lw_okq (⟨"BuoyTenderModel", "rounds", "()V"⟩, 46) := ⟨⟨by decide +kernel, by decide +kernel⟩, List.mem_of_getElem? (i := 685) (by decide +kernel), List.mem_of_getElem? (i := 955) (by decide +kernel), List.mem_of_getElem? (i := 956) (by decide +kernel)⟩
theorem lw_p57 : lw_okq (⟨"BuoyTenderModel", "sums", "()V"⟩, 46) := ⟨⟨by decide +kernel, by decide +kernel⟩, List.mem_of_getElem? (i := 685) (by decide +kernel), List.mem_of_getElem? (i := 959) (by decide +kernel), List.mem_of_getElem? (i := 960) (by decide +kernel)⟩
theorem lw_p58 : lw_okq (⟨"BuoyTenderModel", "goesOn", "(III)V"⟩, 46) := ⟨⟨by decide +kernel, by decide +kernel⟩, List.mem_of_getElem? (i := 685) (by decide +kernel), List.mem_of_getElem? (i := 963) (by decide +kernel), List.mem_of_getElem? (i := 964) (by decide +kernel)⟩
theorem lw_p59 : lw_okq (⟨"BuoyTenderModel", "back", "(III)V"⟩, 46) := ⟨⟨by decide +kernel, by decide +kernel⟩, List.mem_of_getElem? (i := 685) (by decide +kernel), List.mem_of_getElem? (i := 967) (by decide +kernel), List.mem_of_getElem? (i := 968) (by decide +kernel)⟩
theorem lw_p60 : lw_okq (⟨"BuoyTenderModel", "way", "(II)I"⟩, 46) := ⟨⟨by decide +kernel, by decide +kernel⟩, List.mem_of_getElem? (i := 685) (by decide +kernel), List.mem_of_getElem? (i := 971) (by decide +kernel), List.mem_of_getElem? (i := 972) (by decide +kernel)⟩
theorem lw_p61 : lw_okq (⟨"BuoyTenderModel", "steps", "(III)V"⟩, 46) := ⟨⟨by decide +kernel, by decide +kernel⟩, List.mem_of_getElem? (i := 685) (by decide +kernel), List.mem_of_getElem? (i := 978) (by decide +kernel), List.mem_of_getElem? (i := 979) (by decide +kernel)⟩
theorem lw_p62 : lw_okq (⟨"BuoyTenderModel", "does", "(IIII)I"⟩, 46) := ⟨⟨by decide +kernel, by decide +kernel⟩, List.mem_of_getElem? (i := 685) (by decide +kernel), List.mem_of_getElem? (i := 982) (by decide +kernel), List.mem_of_getElem? (i := 983) (by decide +kernel)⟩
theorem lw_p63 : lw_okq (⟨"BuoyTenderModel", "begins", "(II)I"⟩, 46) := ⟨⟨by decide +kernel, by decide +kernel⟩, List.mem_of_getElem? (i := 685) (by decide +kernel), List.mem_of_getElem? (i := 986) (by decide +kernel), List.mem_of_getElem? (i := 987) (by decide +kernel)⟩
def lw_privs_4 : List (MethodName × Nat) := [(⟨"BuoyTender$Planner", "loadDone", "()I"⟩, 16), (⟨"BuoyTender$Planner", "step", "(I)I"⟩, 16), (⟨"BuoyTender", "jobCount", "()I"⟩, 12), (⟨"BuoyTenderModel", "isMark", "(I)Z"⟩, 46), (⟨"BuoyTenderModel", "clashes", "(II)Z"⟩, 46), (⟨"BuoyTenderModel", "isNear", "(III)Z"⟩, 46), (⟨"BuoyTenderModel", "isAlike", "(II)Z"⟩, 46), (⟨"BuoyTenderModel", "isForce", "(II)Z"⟩, 46), (⟨"BuoyTenderModel", "rounds", "()V"⟩, 46), (⟨"BuoyTenderModel", "sums", "()V"⟩, 46), (⟨"BuoyTenderModel", "goesOn", "(III)V"⟩, 46), (⟨"BuoyTenderModel", "back", "(III)V"⟩, 46), (⟨"BuoyTenderModel", "way", "(II)I"⟩, 46), (⟨"BuoyTenderModel", "steps", "(III)V"⟩, 46), (⟨"BuoyTenderModel", "does", "(IIII)I"⟩, 46), (⟨"BuoyTenderModel", "begins", "(II)I"⟩, 46)]
theorem lw_r4 : ∀ q ∈ lw_privs_4, lw_okq q := List.forall_mem_cons.mpr ⟨lw_p48, List.forall_mem_cons.mpr ⟨lw_p49, List.forall_mem_cons.mpr ⟨lw_p50, List.forall_mem_cons.mpr ⟨lw_p51, List.forall_mem_cons.mpr ⟨lw_p52, List.forall_mem_cons.mpr ⟨lw_p53, List.forall_mem_cons.mpr ⟨lw_p54, List.forall_mem_cons.mpr ⟨lw_p55, List.forall_mem_cons.mpr ⟨lw_p56, List.forall_mem_cons.mpr ⟨lw_p57, List.forall_mem_cons.mpr ⟨lw_p58, List.forall_mem_cons.mpr ⟨lw_p59, List.forall_mem_cons.mpr ⟨lw_p60, List.forall_mem_cons.mpr ⟨lw_p61, List.forall_mem_cons.mpr ⟨lw_p62, List.forall_mem_cons.mpr ⟨lw_p63, fun _ h => absurd h List.not_mem_nil⟩⟩⟩⟩⟩⟩⟩⟩⟩⟩⟩⟩⟩⟩⟩⟩
def lw_privs : List (MethodName × Nat) := lw_privs_1 ++ (lw_privs_2 ++ (lw_privs_3 ++ (lw_privs_4)))
def lw_tbl : List Cond := k2_sels lw_privs ++ tables_1
theorem lw_privs_ok : ∀ q ∈ lw_privs, lw_okq q := by
  show ∀ q ∈ lw_privs_1 ++ (lw_privs_2 ++ (lw_privs_3 ++ (lw_privs_4))), lw_okq q
  exact List.forall_mem_append.mpr ⟨lw_r1, List.forall_mem_append.mpr ⟨lw_r2, List.forall_mem_append.mpr ⟨lw_r3, lw_r4⟩⟩⟩
end
section
/-! ===== BEGIN words of one list among another's, by their places ===== -/
theorem goodIn_r {big : List Cond} (ws : List Cond) (ps : List Nat) (hp : ws = ps.filterMap (fun i => big[i]?)) (h : ws.all goodWord = true) : GoodIn big ws := by
  intro w hw
  have h1 := List.all_eq_true.mp h w hw
  rw [hp] at hw
  obtain ⟨i, -, hi⟩ := List.mem_filterMap.mp hw
  have hm : w ∈ big := by first | exact List.mem_of_getElem? hi | exact List.getElem?_mem hi
  exact ⟨hm, good_of_word h1⟩
theorem goodIn_app {big a b : List Cond} (ha : GoodIn big a) (hb : GoodIn big b) : GoodIn big (a ++ b) := fun w h => (List.mem_append.mp h).elim (ha w) (hb w)
theorem goodIn_ca {big a b : List Cond} {c : Cond} (ha : GoodIn big (c :: a)) (hb : GoodIn big b) : GoodIn big (c :: (a ++ b)) := fun w h => (List.mem_cons.mp h).elim (fun e => ha w (List.mem_cons.mpr (Or.inl e))) (fun h => (List.mem_append.mp h).elim (fun h => ha w (List.mem_cons.mpr (Or.inr h))) (hb w))
theorem goodIn_sub {big ws : List Cond} (hm : ∀ w ∈ ws, w ∈ big) (h : ws.all goodWord = true) : GoodIn big ws := fun w hw => ⟨hm w hw, good_of_word (List.all_eq_true.mp h w hw)⟩
/-! ===== END ===== -/

/-! ===== BEGIN printed: names, fields, word lists, decode rows ===== -/
def RX0 : String := "BuoyTender$Chain"
def TX0 : u_T := fun k => match k with
  | 0 => ("BuoyTender$Chain", "laid", "Z", false)
  | 1 => ("BuoyTender$Chain", "thickness", "I", false)
  | 2 => ("BuoyTender$Chain", "least", "I", false)
  | 3 => ("BuoyTender$Chain", "kind", "I", false)
  | _ => ("BuoyTender$Chain", "since", "I", false)
def tyX0 : Nat → FieldType := fun k => match k with
  | 0 => .boolean
  | 1 => .int
  | 2 => .int
  | 3 => .int
  | _ => .int
abbrev wsX00 : List Cond := u_ws RX0 TX0 5
theorem nmX0 : ∀ a, a < 5 → ∀ b, b < 5 → a ≠ b → (TX0 a).2.1 ≠ (TX0 b).2.1 := by decide +kernel
theorem tyX0_ok : ∀ k, k < 5 → parseFieldDescriptor (TX0 k).2.2.1 = some (tyX0 k) := by decide +kernel
abbrev cX0_init : ByteArray := prog_2_method_1_code
def yX0_init : MethodName := ⟨RX0, "<init>", "()V"⟩
abbrev cX0_lay : ByteArray := prog_2_method_2_code
def yX0_lay : MethodName := ⟨RX0, "lay", "(IIII)V"⟩
abbrev cX0_wornIn : ByteArray := prog_2_method_3_code
def yX0_wornIn : MethodName := ⟨RX0, "wornIn", "(I[I)I"⟩
abbrev cX0_leftBehind : ByteArray := prog_2_method_4_code
def yX0_leftBehind : MethodName := ⟨RX0, "leftBehind", "(I[I)I"⟩
abbrev cX0_lifeEnds : ByteArray := prog_2_method_5_code
def yX0_lifeEnds : MethodName := ⟨RX0, "lifeEnds", "([I)I"⟩
def RX1 : String := "BuoyTender$Mark"
def TX1 : u_T := fun k => match k with
  | 0 => ("BuoyTender$Mark", "x", "I", true)
  | 1 => ("BuoyTender$Mark", "y", "I", true)
  | 2 => ("BuoyTender$Mark", "radius", "I", true)
  | 3 => ("BuoyTender$Mark", "sighting", "LBuoyTender$Sighting;", true)
  | 4 => ("BuoyTender$Mark", "chain", "LBuoyTender$Chain;", true)
  | 5 => ("BuoyTender$Mark", "rhythm", "LBuoyTender$Rhythm;", true)
  | 6 => ("BuoyTender$Mark", "minutes", "I", false)
  | 7 => ("BuoyTender$Mark", "load", "I", false)
  | _ => ("BuoyTender$Mark", "weight", "I", false)
def tyX1 : Nat → FieldType := fun k => match k with
  | 0 => .int
  | 1 => .int
  | 2 => .int
  | 3 => .object "BuoyTender$Sighting"
  | 4 => .object "BuoyTender$Chain"
  | 5 => .object "BuoyTender$Rhythm"
  | 6 => .int
  | 7 => .int
  | _ => .int
abbrev wsX10 : List Cond := u_ws RX1 TX1 9
theorem nmX1 : ∀ a, a < 9 → ∀ b, b < 9 → a ≠ b → (TX1 a).2.1 ≠ (TX1 b).2.1 := by decide +kernel
theorem tyX1_ok : ∀ k, k < 9 → parseFieldDescriptor (TX1 k).2.2.1 = some (tyX1 k) := by decide +kernel
abbrev cX1_init : ByteArray := prog_3_method_1_code
def yX1_init : MethodName := ⟨RX1, "<init>", "(III)V"⟩
abbrev cX1_isNear : ByteArray := prog_3_method_2_code
def yX1_isNear : MethodName := ⟨RX1, "isNear", "(LBuoyTender$Mark;I)Z"⟩
def RX2 : String := "BuoyTender$Planner"
def TX2 : u_T := fun k => match k with
  | 0 => ("BuoyTender$Planner", "numbers", "[I", true)
  | 1 => ("BuoyTender$Planner", "minutes", "[I", true)
  | 2 => ("BuoyTender$Planner", "loads", "[I", true)
  | 3 => ("BuoyTender$Planner", "weights", "[I", true)
  | 4 => ("BuoyTender$Planner", "ways", "[I", true)
  | 5 => ("BuoyTender$Planner", "opensIn", "[I", true)
  | 6 => ("BuoyTender$Planner", "openedIn", "[I", true)
  | 7 => ("BuoyTender$Planner", "ends", "[I", true)
  | 8 => ("BuoyTender$Planner", "backs", "[I", true)
  | 9 => ("BuoyTender$Planner", "tried", "[I", true)
  | 10 => ("BuoyTender$Planner", "order", "[I", true)
  | 11 => ("BuoyTender$Planner", "begins", "[I", true)
  | 12 => ("BuoyTender$Planner", "count", "I", false)
  | 13 => ("BuoyTender$Planner", "length", "I", false)
  | 14 => ("BuoyTender$Planner", "bestWeight", "I", false)
  | _ => ("BuoyTender$Planner", "bestBack", "I", false)
def tyX2 : Nat → FieldType := fun k => match k with
  | 0 => .array .int
  | 1 => .array .int
  | 2 => .array .int
  | 3 => .array .int
  | 4 => .array .int
  | 5 => .array .int
  | 6 => .array .int
  | 7 => .array .int
  | 8 => .array .int
  | 9 => .array .int
  | 10 => .array .int
  | 11 => .array .int
  | 12 => .int
  | 13 => .int
  | 14 => .int
  | _ => .int
abbrev wsX20 : List Cond := u_ws RX2 TX2 16
theorem nmX2 : ∀ a, a < 16 → ∀ b, b < 16 → a ≠ b → (TX2 a).2.1 ≠ (TX2 b).2.1 := by decide +kernel
theorem tyX2_ok : ∀ k, k < 16 → parseFieldDescriptor (TX2 k).2.2.1 = some (tyX2 k) := by decide +kernel
abbrev cX2_init : ByteArray := prog_4_method_1_code
def yX2_init : MethodName := ⟨RX2, "<init>", "()V"⟩
abbrev cX2_plan : ByteArray := prog_4_method_2_code
def yX2_plan : MethodName := ⟨RX2, "plan", "([LBuoyTender$Mark;[ILBuoyTender$Ship;)V"⟩
abbrev cX2_loadDone : ByteArray := prog_4_method_3_code
def yX2_loadDone : MethodName := ⟨RX2, "loadDone", "()I"⟩
abbrev cX2_step : ByteArray := prog_4_method_4_code
def yX2_step : MethodName := ⟨RX2, "step", "(I)I"⟩
abbrev cX2_gather : ByteArray := prog_4_method_5_code
def yX2_gather : MethodName := ⟨RX2, "gather", "([LBuoyTender$Mark;[ILBuoyTender$Ship;)V"⟩
abbrev cX2_openHours : ByteArray := prog_4_method_6_code
def yX2_openHours : MethodName := ⟨RX2, "openHours", "(IILBuoyTender$Ship;)V"⟩
abbrev cX2_measure : ByteArray := prog_4_method_7_code
def yX2_measure : MethodName := ⟨RX2, "measure", "([LBuoyTender$Mark;LBuoyTender$Ship;)V"⟩
abbrev cX2_markOfJob : ByteArray := prog_4_method_8_code
def yX2_markOfJob : MethodName := ⟨RX2, "markOfJob", "([LBuoyTender$Mark;I)LBuoyTender$Mark;"⟩
abbrev cX2_way : ByteArray := prog_4_method_9_code
def yX2_way : MethodName := ⟨RX2, "way", "(LBuoyTender$Mark;IILBuoyTender$Ship;)I"⟩
abbrev cX2_isIn : ByteArray := prog_4_method_10_code
def yX2_isIn : MethodName := ⟨RX2, "isIn", "(II)Z"⟩
abbrev cX2_without : ByteArray := prog_4_method_11_code
def yX2_without : MethodName := ⟨RX2, "without", "(II)I"⟩
abbrev cX2_sumOver : ByteArray := prog_4_method_12_code
def yX2_sumOver : MethodName := ⟨RX2, "sumOver", "(I[I)I"⟩
abbrev cX2_beginFrom : ByteArray := prog_4_method_13_code
def yX2_beginFrom : MethodName := ⟨RX2, "beginFrom", "(II)I"⟩
abbrev cX2_beginUpTo : ByteArray := prog_4_method_14_code
def yX2_beginUpTo : MethodName := ⟨RX2, "beginUpTo", "(II)I"⟩
abbrev cX2_findEarliestEnds : ByteArray := prog_4_method_15_code
def yX2_findEarliestEnds : MethodName := ⟨RX2, "findEarliestEnds", "(LBuoyTender$Ship;)V"⟩
abbrev cX2_earliestEnd : ByteArray := prog_4_method_16_code
def yX2_earliestEnd : MethodName := ⟨RX2, "earliestEnd", "(IILBuoyTender$Ship;)I"⟩
abbrev cX2_chooseBest : ByteArray := prog_4_method_17_code
def yX2_chooseBest : MethodName := ⟨RX2, "chooseBest", "()V"⟩
abbrev cX2_findLatestEnds : ByteArray := prog_4_method_18_code
def yX2_findLatestEnds : MethodName := ⟨RX2, "findLatestEnds", "()V"⟩
abbrev cX2_latestEnd : ByteArray := prog_4_method_19_code
def yX2_latestEnd : MethodName := ⟨RX2, "latestEnd", "(II)I"⟩
abbrev cX2_chooseOrder : ByteArray := prog_4_method_20_code
def yX2_chooseOrder : MethodName := ⟨RX2, "chooseOrder", "(LBuoyTender$Ship;)V"⟩
abbrev cX2_tryFirstOrder : ByteArray := prog_4_method_21_code
def yX2_tryFirstOrder : MethodName := ⟨RX2, "tryFirstOrder", "(ILBuoyTender$Ship;)I"⟩
abbrev cX2_lowestNext : ByteArray := prog_4_method_22_code
def yX2_lowestNext : MethodName := ⟨RX2, "lowestNext", "(III)I"⟩
abbrev cX2_isTriedFirst : ByteArray := prog_4_method_23_code
def yX2_isTriedFirst : MethodName := ⟨RX2, "isTriedFirst", "(I)Z"⟩
abbrev cX2_timeOrder : ByteArray := prog_4_method_24_code
def yX2_timeOrder : MethodName := ⟨RX2, "timeOrder", "(LBuoyTender$Ship;)V"⟩
def RX3 : String := "BuoyTender$Rhythm"
def TX3 : u_T := fun k => match k with
  | 0 => ("BuoyTender$Rhythm", "steps", "[I", true)
  | _ => ("BuoyTender$Rhythm", "many", "I", false)
def tyX3 : Nat → FieldType := fun k => match k with
  | 0 => .array .int
  | _ => .int
abbrev wsX30 : List Cond := u_ws RX3 TX3 2
theorem nmX3 : ∀ a, a < 2 → ∀ b, b < 2 → a ≠ b → (TX3 a).2.1 ≠ (TX3 b).2.1 := by decide +kernel
theorem tyX3_ok : ∀ k, k < 2 → parseFieldDescriptor (TX3 k).2.2.1 = some (tyX3 k) := by decide +kernel
abbrev cX3_init : ByteArray := prog_5_method_1_code
def yX3_init : MethodName := ⟨RX3, "<init>", "()V"⟩
abbrev cX3_isLit : ByteArray := prog_5_method_2_code
def yX3_isLit : MethodName := ⟨RX3, "isLit", "()Z"⟩
abbrev cX3_goDark : ByteArray := prog_5_method_3_code
def yX3_goDark : MethodName := ⟨RX3, "goDark", "()V"⟩
abbrev cX3_read : ByteArray := prog_5_method_4_code
def yX3_read : MethodName := ⟨RX3, "read", "(II)Z"⟩
abbrev cX3_copyFrom : ByteArray := prog_5_method_5_code
def yX3_copyFrom : MethodName := ⟨RX3, "copyFrom", "(LBuoyTender$Rhythm;)V"⟩
abbrev cX3_matches : ByteArray := prog_5_method_6_code
def yX3_matches : MethodName := ⟨RX3, "matches", "(LBuoyTender$Rhythm;)Z"⟩
abbrev cX3_matchesTurned : ByteArray := prog_5_method_7_code
def yX3_matchesTurned : MethodName := ⟨RX3, "matchesTurned", "(LBuoyTender$Rhythm;I)Z"⟩
def RX4 : String := "BuoyTender$Ship"
def TX4 : u_T := fun k => match k with
  | 0 => ("BuoyTender$Ship", "tides", "[I", true)
  | 1 => ("BuoyTender$Ship", "winds", "[I", true)
  | 2 => ("BuoyTender$Ship", "x", "I", false)
  | 3 => ("BuoyTender$Ship", "y", "I", false)
  | 4 => ("BuoyTender$Ship", "minute", "I", false)
  | 5 => ("BuoyTender$Ship", "end", "I", false)
  | 6 => ("BuoyTender$Ship", "pace", "I", false)
  | 7 => ("BuoyTender$Ship", "draught", "I", false)
  | 8 => ("BuoyTender$Ship", "mostWind", "I", false)
  | _ => ("BuoyTender$Ship", "carried", "I", false)
def tyX4 : Nat → FieldType := fun k => match k with
  | 0 => .array .int
  | 1 => .array .int
  | 2 => .int
  | 3 => .int
  | 4 => .int
  | 5 => .int
  | 6 => .int
  | 7 => .int
  | 8 => .int
  | _ => .int
abbrev wsX40 : List Cond := u_ws RX4 TX4 10
theorem nmX4 : ∀ a, a < 10 → ∀ b, b < 10 → a ≠ b → (TX4 a).2.1 ≠ (TX4 b).2.1 := by decide +kernel
theorem tyX4_ok : ∀ k, k < 10 → parseFieldDescriptor (TX4 k).2.2.1 = some (tyX4 k) := by decide +kernel
abbrev cX4_init : ByteArray := prog_6_method_1_code
def yX4_init : MethodName := ⟨RX4, "<init>", "()V"⟩
abbrev cX4_mayBegin : ByteArray := prog_6_method_2_code
def yX4_mayBegin : MethodName := ⟨RX4, "mayBegin", "(II)Z"⟩
def RX5 : String := "BuoyTender$Sighting"
def TX5 : u_T := fun k => match k with
  | 0 => ("BuoyTender$Sighting", "ruledOut", "[J", true)
  | 1 => ("BuoyTender$Sighting", "shallowest", "I", false)
  | 2 => ("BuoyTender$Sighting", "deepest", "I", false)
  | _ => ("BuoyTender$Sighting", "told", "Z", false)
def tyX5 : Nat → FieldType := fun k => match k with
  | 0 => .array .long
  | 1 => .int
  | 2 => .int
  | _ => .boolean
abbrev wsX50 : List Cond := u_ws RX5 TX5 4
theorem nmX5 : ∀ a, a < 4 → ∀ b, b < 4 → a ≠ b → (TX5 a).2.1 ≠ (TX5 b).2.1 := by decide +kernel
theorem tyX5_ok : ∀ k, k < 4 → parseFieldDescriptor (TX5 k).2.2.1 = some (tyX5 k) := by decide +kernel
abbrev cX5_init : ByteArray := prog_7_method_1_code
def yX5_init : MethodName := ⟨RX5, "<init>", "()V"⟩
abbrev cX5_begin : ByteArray := prog_7_method_2_code
def yX5_begin : MethodName := ⟨RX5, "begin", "()V"⟩
abbrev cX5_tellBearing : ByteArray := prog_7_method_3_code
def yX5_tellBearing : MethodName := ⟨RX5, "tellBearing", "(IIIIII)V"⟩
abbrev cX5_tellSounding : ByteArray := prog_7_method_4_code
def yX5_tellSounding : MethodName := ⟨RX5, "tellSounding", "(II)V"⟩
def RX6 : String := "BuoyTender$Survey"
def TX6 : u_T := fun k => match k with
  | 0 => ("BuoyTender$Survey", "left", "I", false)
  | 1 => ("BuoyTender$Survey", "inRadius", "I", false)
  | 2 => ("BuoyTender$Survey", "leastX", "I", false)
  | 3 => ("BuoyTender$Survey", "leastY", "I", false)
  | 4 => ("BuoyTender$Survey", "mostX", "I", false)
  | _ => ("BuoyTender$Survey", "mostY", "I", false)
def tyX6 : Nat → FieldType := fun k => match k with
  | 0 => .int
  | 1 => .int
  | 2 => .int
  | 3 => .int
  | 4 => .int
  | _ => .int
abbrev wsX60 : List Cond := u_ws RX6 TX6 6
theorem nmX6 : ∀ a, a < 6 → ∀ b, b < 6 → a ≠ b → (TX6 a).2.1 ≠ (TX6 b).2.1 := by decide +kernel
theorem tyX6_ok : ∀ k, k < 6 → parseFieldDescriptor (TX6 k).2.2.1 = some (tyX6 k) := by decide +kernel
abbrev cX6_init : ByteArray := prog_8_method_1_code
def yX6_init : MethodName := ⟨RX6, "<init>", "()V"⟩
abbrev cX6_take : ByteArray := prog_8_method_2_code
def yX6_take : MethodName := ⟨RX6, "take", "(LBuoyTender$Mark;[I)V"⟩
abbrev cX6_count : ByteArray := prog_8_method_3_code
def yX6_count : MethodName := ⟨RX6, "count", "(LBuoyTender$Mark;II)V"⟩
abbrev cX6_how : ByteArray := prog_8_method_4_code
def yX6_how : MethodName := ⟨RX6, "how", "()I"⟩
def RX7 : String := "BuoyTender$Warnings"
def TX7 : u_T := fun k => match k with
  | 0 => ("BuoyTender$Warnings", "markOf", "[I", true)
  | 1 => ("BuoyTender$Warnings", "reasonOf", "[I", true)
  | 2 => ("BuoyTender$Warnings", "toldOn", "[I", true)
  | 3 => ("BuoyTender$Warnings", "cancelledOn", "[I", true)
  | _ => ("BuoyTender$Warnings", "count", "I", false)
def tyX7 : Nat → FieldType := fun k => match k with
  | 0 => .array .int
  | 1 => .array .int
  | 2 => .array .int
  | 3 => .array .int
  | _ => .int
abbrev wsX70 : List Cond := u_ws RX7 TX7 5
theorem nmX7 : ∀ a, a < 5 → ∀ b, b < 5 → a ≠ b → (TX7 a).2.1 ≠ (TX7 b).2.1 := by decide +kernel
theorem tyX7_ok : ∀ k, k < 5 → parseFieldDescriptor (TX7 k).2.2.1 = some (tyX7 k) := by decide +kernel
abbrev cX7_init : ByteArray := prog_9_method_1_code
def yX7_init : MethodName := ⟨RX7, "<init>", "()V"⟩
abbrev cX7_has : ByteArray := prog_9_method_2_code
def yX7_has : MethodName := ⟨RX7, "has", "(I)Z"⟩
abbrev cX7_tell : ByteArray := prog_9_method_3_code
def yX7_tell : MethodName := ⟨RX7, "tell", "(III)I"⟩
abbrev cX7_isOpen : ByteArray := prog_9_method_4_code
def yX7_isOpen : MethodName := ⟨RX7, "isOpen", "(II)Z"⟩
abbrev cX7_end : ByteArray := prog_9_method_5_code
def yX7_end : MethodName := ⟨RX7, "end", "(II)Z"⟩
abbrev cX7_isOutOn : ByteArray := prog_9_method_6_code
def yX7_isOutOn : MethodName := ⟨RX7, "isOutOn", "(II)Z"⟩
abbrev cX7_countOn : ByteArray := prog_9_method_7_code
def yX7_countOn : MethodName := ⟨RX7, "countOn", "(I)I"⟩
abbrev cX7_numberOn : ByteArray := prog_9_method_8_code
def yX7_numberOn : MethodName := ⟨RX7, "numberOn", "(II)I"⟩
def RX8 : String := "BuoyTender"
def TX8 : u_T := fun k => match k with
  | 0 => ("BuoyTender", "depths", "[I", true)
  | 1 => ("BuoyTender", "marks", "[LBuoyTender$Mark;", true)
  | 2 => ("BuoyTender", "wears", "[I", true)
  | 3 => ("BuoyTender", "warnings", "LBuoyTender$Warnings;", true)
  | 4 => ("BuoyTender", "vessel", "LBuoyTender$Ship;", true)
  | 5 => ("BuoyTender", "survey", "LBuoyTender$Survey;", true)
  | 6 => ("BuoyTender", "proposed", "LBuoyTender$Rhythm;", true)
  | 7 => ("BuoyTender", "planner", "LBuoyTender$Planner;", false)
  | 8 => ("BuoyTender", "markCount", "I", false)
  | 9 => ("BuoyTender", "today", "I", false)
  | 10 => ("BuoyTender", "nearness", "I", false)
  | _ => ("BuoyTender", "planned", "Z", false)
def tyX8 : Nat → FieldType := fun k => match k with
  | 0 => .array .int
  | 1 => .array (.object "BuoyTender$Mark")
  | 2 => .array .int
  | 3 => .object "BuoyTender$Warnings"
  | 4 => .object "BuoyTender$Ship"
  | 5 => .object "BuoyTender$Survey"
  | 6 => .object "BuoyTender$Rhythm"
  | 7 => .object "BuoyTender$Planner"
  | 8 => .int
  | 9 => .int
  | 10 => .int
  | _ => .boolean
abbrev wsX80 : List Cond := u_ws RX8 TX8 12
theorem nmX8 : ∀ a, a < 12 → ∀ b, b < 12 → a ≠ b → (TX8 a).2.1 ≠ (TX8 b).2.1 := by decide +kernel
theorem tyX8_ok : ∀ k, k < 12 → parseFieldDescriptor (TX8 k).2.2.1 = some (tyX8 k) := by decide +kernel
abbrev cX8_init : ByteArray := prog_1_method_1_code
def yX8_init : MethodName := ⟨RX8, "<init>", "()V"⟩
abbrev cX8_depth : ByteArray := prog_1_method_2_code
def yX8_depth : MethodName := ⟨RX8, "depth", "(IIIII)Z"⟩
abbrev cX8_mark : ByteArray := prog_1_method_3_code
def yX8_mark : MethodName := ⟨RX8, "mark", "(III)I"⟩
abbrev cX8_sight : ByteArray := prog_1_method_4_code
def yX8_sight : MethodName := ⟨RX8, "sight", "(I)Z"⟩
abbrev cX8_bearing : ByteArray := prog_1_method_5_code
def yX8_bearing : MethodName := ⟨RX8, "bearing", "(IIIIII)Z"⟩
abbrev cX8_sounding : ByteArray := prog_1_method_6_code
def yX8_sounding : MethodName := ⟨RX8, "sounding", "(III)Z"⟩
abbrev cX8_lies : ByteArray := prog_1_method_7_code
def yX8_lies : MethodName := ⟨RX8, "lies", "(II)I"⟩
abbrev cX8_day : ByteArray := prog_1_method_8_code
def yX8_day : MethodName := ⟨RX8, "day", "(I)Z"⟩
abbrev cX8_chain : ByteArray := prog_1_method_9_code
def yX8_chain : MethodName := ⟨RX8, "chain", "(IIII)Z"⟩
abbrev cX8_wear : ByteArray := prog_1_method_10_code
def yX8_wear : MethodName := ⟨RX8, "wear", "(III)Z"⟩
abbrev cX8_chainOf : ByteArray := prog_1_method_11_code
def yX8_chainOf : MethodName := ⟨RX8, "chainOf", "(II)I"⟩
abbrev cX8_light : ByteArray := prog_1_method_12_code
def yX8_light : MethodName := ⟨RX8, "light", "(III)Z"⟩
abbrev cX8_near : ByteArray := prog_1_method_13_code
def yX8_near : MethodName := ⟨RX8, "near", "(I)Z"⟩
abbrev cX8_alike : ByteArray := prog_1_method_14_code
def yX8_alike : MethodName := ⟨RX8, "alike", "(II)I"⟩
abbrev cX8_warn : ByteArray := prog_1_method_15_code
def yX8_warn : MethodName := ⟨RX8, "warn", "(II)I"⟩
abbrev cX8_cancel : ByteArray := prog_1_method_16_code
def yX8_cancel : MethodName := ⟨RX8, "cancel", "(I)Z"⟩
abbrev cX8_list : ByteArray := prog_1_method_17_code
def yX8_list : MethodName := ⟨RX8, "list", "(I)I"⟩
abbrev cX8_listed : ByteArray := prog_1_method_18_code
def yX8_listed : MethodName := ⟨RX8, "listed", "(II)I"⟩
abbrev cX8_warning : ByteArray := prog_1_method_19_code
def yX8_warning : MethodName := ⟨RX8, "warning", "(II)I"⟩
abbrev cX8_job : ByteArray := prog_1_method_20_code
def yX8_job : MethodName := ⟨RX8, "job", "(IIII)Z"⟩
abbrev cX8_weather : ByteArray := prog_1_method_21_code
def yX8_weather : MethodName := ⟨RX8, "weather", "(III)Z"⟩
abbrev cX8_ship : ByteArray := prog_1_method_22_code
def yX8_ship : MethodName := ⟨RX8, "ship", "(IIII)Z"⟩
abbrev cX8_at : ByteArray := prog_1_method_23_code
def yX8_at : MethodName := ⟨RX8, "at", "(IIII)Z"⟩
abbrev cX8_round : ByteArray := prog_1_method_24_code
def yX8_round : MethodName := ⟨RX8, "round", "(I)I"⟩
abbrev cX8_about : ByteArray := prog_1_method_25_code
def yX8_about : MethodName := ⟨RX8, "about", "(I)I"⟩
abbrev cX8_within : ByteArray := prog_1_method_26_code
def yX8_within : MethodName := ⟨RX8, "within", "(III)Z"⟩
abbrev cX8_isPlace : ByteArray := prog_1_method_27_code
def yX8_isPlace : MethodName := ⟨RX8, "isPlace", "(II)Z"⟩
abbrev cX8_isWay : ByteArray := prog_1_method_28_code
def yX8_isWay : MethodName := ⟨RX8, "isWay", "(II)Z"⟩
abbrev cX8_squareBetween : ByteArray := prog_1_method_29_code
def yX8_squareBetween : MethodName := ⟨RX8, "squareBetween", "(IIII)I"⟩
abbrev cX8_known : ByteArray := prog_1_method_30_code
def yX8_known : MethodName := ⟨RX8, "known", "(I)LBuoyTender$Mark;"⟩
abbrev cX8_thisMonth : ByteArray := prog_1_method_31_code
def yX8_thisMonth : MethodName := ⟨RX8, "thisMonth", "()I"⟩
abbrev cX8_surveyed : ByteArray := prog_1_method_32_code
def yX8_surveyed : MethodName := ⟨RX8, "surveyed", "(IZ)I"⟩
abbrev cX8_clashesNearby : ByteArray := prog_1_method_33_code
def yX8_clashesNearby : MethodName := ⟨RX8, "clashesNearby", "(ILBuoyTender$Mark;)Z"⟩
abbrev cX8_clashesWithin : ByteArray := prog_1_method_34_code
def yX8_clashesWithin : MethodName := ⟨RX8, "clashesWithin", "(I)Z"⟩
abbrev cX8_jobCount : ByteArray := prog_1_method_35_code
def yX8_jobCount : MethodName := ⟨RX8, "jobCount", "()I"⟩
def RX9 : String := "BuoyTenderModel"
def TX9 : u_T := fun k => match k with
  | 0 => ("BuoyTenderModel", "depth", "[I", true)
  | 1 => ("BuoyTenderModel", "marks", "I", false)
  | 2 => ("BuoyTenderModel", "stationX", "[I", true)
  | 3 => ("BuoyTenderModel", "stationY", "[I", true)
  | 4 => ("BuoyTenderModel", "radius", "[I", true)
  | 5 => ("BuoyTenderModel", "isOut", "[Z", true)
  | 6 => ("BuoyTenderModel", "isSighted", "[Z", true)
  | 7 => ("BuoyTenderModel", "clock", "I", false)
  | 8 => ("BuoyTenderModel", "chainMonth", "[I", true)
  | 9 => ("BuoyTenderModel", "thickness", "[I", true)
  | 10 => ("BuoyTenderModel", "least", "[I", true)
  | 11 => ("BuoyTenderModel", "ground", "[I", true)
  | 12 => ("BuoyTenderModel", "wear", "[I", true)
  | 13 => ("BuoyTenderModel", "steps", "[I", true)
  | 14 => ("BuoyTenderModel", "rhythm", "[I", true)
  | 15 => ("BuoyTenderModel", "nearness", "I", false)
  | 16 => ("BuoyTenderModel", "warnings", "I", false)
  | 17 => ("BuoyTenderModel", "warnMark", "[I", true)
  | 18 => ("BuoyTenderModel", "warnKind", "[I", true)
  | 19 => ("BuoyTenderModel", "warnFrom", "[I", true)
  | 20 => ("BuoyTenderModel", "warnTo", "[I", true)
  | 21 => ("BuoyTenderModel", "minutes", "[I", true)
  | 22 => ("BuoyTenderModel", "load", "[I", true)
  | 23 => ("BuoyTenderModel", "weight", "[I", true)
  | 24 => ("BuoyTenderModel", "tide", "[I", true)
  | 25 => ("BuoyTenderModel", "wind", "[I", true)
  | 26 => ("BuoyTenderModel", "pace", "I", false)
  | 27 => ("BuoyTenderModel", "draught", "I", false)
  | 28 => ("BuoyTenderModel", "mostWind", "I", false)
  | 29 => ("BuoyTenderModel", "carries", "I", false)
  | 30 => ("BuoyTenderModel", "shipX", "I", false)
  | 31 => ("BuoyTenderModel", "shipY", "I", false)
  | 32 => ("BuoyTenderModel", "begin", "I", false)
  | 33 => ("BuoyTenderModel", "last", "I", false)
  | 34 => ("BuoyTenderModel", "hadSteps", "[I", true)
  | 35 => ("BuoyTenderModel", "earliest", "[I", true)
  | 36 => ("BuoyTenderModel", "bestWeight", "I", false)
  | 37 => ("BuoyTenderModel", "bestBack", "I", false)
  | 38 => ("BuoyTenderModel", "many", "I", false)
  | 39 => ("BuoyTenderModel", "row", "[I", true)
  | 40 => ("BuoyTenderModel", "rowBegin", "[I", true)
  | 41 => ("BuoyTenderModel", "loadOf", "[I", true)
  | 42 => ("BuoyTenderModel", "weightOf", "[I", true)
  | 43 => ("BuoyTenderModel", "isKnown", "Z", false)
  | 44 => ("BuoyTenderModel", "foundWeight", "I", false)
  | _ => ("BuoyTenderModel", "foundBack", "I", false)
def tyX9 : Nat → FieldType := fun k => match k with
  | 0 => .array .int
  | 1 => .int
  | 2 => .array .int
  | 3 => .array .int
  | 4 => .array .int
  | 5 => .array .boolean
  | 6 => .array .boolean
  | 7 => .int
  | 8 => .array .int
  | 9 => .array .int
  | 10 => .array .int
  | 11 => .array .int
  | 12 => .array .int
  | 13 => .array .int
  | 14 => .array .int
  | 15 => .int
  | 16 => .int
  | 17 => .array .int
  | 18 => .array .int
  | 19 => .array .int
  | 20 => .array .int
  | 21 => .array .int
  | 22 => .array .int
  | 23 => .array .int
  | 24 => .array .int
  | 25 => .array .int
  | 26 => .int
  | 27 => .int
  | 28 => .int
  | 29 => .int
  | 30 => .int
  | 31 => .int
  | 32 => .int
  | 33 => .int
  | 34 => .array .int
  | 35 => .array .int
  | 36 => .int
  | 37 => .int
  | 38 => .int
  | 39 => .array .int
  | 40 => .array .int
  | 41 => .array .int
  | 42 => .array .int
  | 43 => .boolean
  | 44 => .int
  | _ => .int
abbrev wsX90 : List Cond := u_ws RX9 TX9 46
theorem nmX9 : ∀ a, a < 46 → ∀ b, b < 46 → a ≠ b → (TX9 a).2.1 ≠ (TX9 b).2.1 := by decide +kernel
theorem tyX9_ok : ∀ k, k < 46 → parseFieldDescriptor (TX9 k).2.2.1 = some (tyX9 k) := by decide +kernel
abbrev cX9_init : ByteArray := prog_11_method_1_code
def yX9_init : MethodName := ⟨RX9, "<init>", "()V"⟩
abbrev cX9_in : ByteArray := prog_11_method_2_code
def yX9_in : MethodName := ⟨RX9, "in", "(III)Z"⟩
abbrev cX9_isPlace : ByteArray := prog_11_method_3_code
def yX9_isPlace : MethodName := ⟨RX9, "isPlace", "(II)Z"⟩
abbrev cX9_isMark : ByteArray := prog_11_method_4_code
def yX9_isMark : MethodName := ⟨RX9, "isMark", "(I)Z"⟩
abbrev cX9_depth : ByteArray := prog_11_method_5_code
def yX9_depth : MethodName := ⟨RX9, "depth", "(IIIII)Z"⟩
abbrev cX9_mark : ByteArray := prog_11_method_6_code
def yX9_mark : MethodName := ⟨RX9, "mark", "(III)I"⟩
abbrev cX9_sight : ByteArray := prog_11_method_7_code
def yX9_sight : MethodName := ⟨RX9, "sight", "(I)Z"⟩
abbrev cX9_isWay : ByteArray := prog_11_method_8_code
def yX9_isWay : MethodName := ⟨RX9, "isWay", "(II)Z"⟩
abbrev cX9_bearing : ByteArray := prog_11_method_9_code
def yX9_bearing : MethodName := ⟨RX9, "bearing", "(IIIIII)Z"⟩
abbrev cX9_sounding : ByteArray := prog_11_method_10_code
def yX9_sounding : MethodName := ⟨RX9, "sounding", "(III)Z"⟩
abbrev cX9_square : ByteArray := prog_11_method_11_code
def yX9_square : MethodName := ⟨RX9, "square", "(II)I"⟩
abbrev cX9_lies : ByteArray := prog_11_method_12_code
def yX9_lies : MethodName := ⟨RX9, "lies", "(II)I"⟩
abbrev cX9_day : ByteArray := prog_11_method_13_code
def yX9_day : MethodName := ⟨RX9, "day", "(I)Z"⟩
abbrev cX9_chain : ByteArray := prog_11_method_14_code
def yX9_chain : MethodName := ⟨RX9, "chain", "(IIII)Z"⟩
abbrev cX9_wear : ByteArray := prog_11_method_15_code
def yX9_wear : MethodName := ⟨RX9, "wear", "(III)Z"⟩
abbrev cX9_chainOf : ByteArray := prog_11_method_16_code
def yX9_chainOf : MethodName := ⟨RX9, "chainOf", "(II)I"⟩
abbrev cX9_isAlike : ByteArray := prog_11_method_17_code
def yX9_isAlike : MethodName := ⟨RX9, "isAlike", "(II)Z"⟩
abbrev cX9_isNear : ByteArray := prog_11_method_18_code
def yX9_isNear : MethodName := ⟨RX9, "isNear", "(III)Z"⟩
abbrev cX9_clashes : ByteArray := prog_11_method_19_code
def yX9_clashes : MethodName := ⟨RX9, "clashes", "(II)Z"⟩
abbrev cX9_light : ByteArray := prog_11_method_20_code
def yX9_light : MethodName := ⟨RX9, "light", "(III)Z"⟩
abbrev cX9_near : ByteArray := prog_11_method_21_code
def yX9_near : MethodName := ⟨RX9, "near", "(I)Z"⟩
abbrev cX9_alike : ByteArray := prog_11_method_22_code
def yX9_alike : MethodName := ⟨RX9, "alike", "(II)I"⟩
abbrev cX9_warn : ByteArray := prog_11_method_23_code
def yX9_warn : MethodName := ⟨RX9, "warn", "(II)I"⟩
abbrev cX9_cancel : ByteArray := prog_11_method_24_code
def yX9_cancel : MethodName := ⟨RX9, "cancel", "(I)Z"⟩
abbrev cX9_isForce : ByteArray := prog_11_method_25_code
def yX9_isForce : MethodName := ⟨RX9, "isForce", "(II)Z"⟩
abbrev cX9_list : ByteArray := prog_11_method_26_code
def yX9_list : MethodName := ⟨RX9, "list", "(I)I"⟩
abbrev cX9_listed : ByteArray := prog_11_method_27_code
def yX9_listed : MethodName := ⟨RX9, "listed", "(II)I"⟩
abbrev cX9_warning : ByteArray := prog_11_method_28_code
def yX9_warning : MethodName := ⟨RX9, "warning", "(II)I"⟩
abbrev cX9_job : ByteArray := prog_11_method_29_code
def yX9_job : MethodName := ⟨RX9, "job", "(IIII)Z"⟩
abbrev cX9_weather : ByteArray := prog_11_method_30_code
def yX9_weather : MethodName := ⟨RX9, "weather", "(III)Z"⟩
abbrev cX9_ship : ByteArray := prog_11_method_31_code
def yX9_ship : MethodName := ⟨RX9, "ship", "(IIII)Z"⟩
abbrev cX9_at : ByteArray := prog_11_method_32_code
def yX9_at : MethodName := ⟨RX9, "at", "(IIII)Z"⟩
abbrev cX9_greater : ByteArray := prog_11_method_33_code
def yX9_greater : MethodName := ⟨RX9, "greater", "(II)I"⟩
abbrev cX9_way : ByteArray := prog_11_method_34_code
def yX9_way : MethodName := ⟨RX9, "way", "(II)I"⟩
abbrev cX9_begins : ByteArray := prog_11_method_35_code
def yX9_begins : MethodName := ⟨RX9, "begins", "(II)I"⟩
abbrev cX9_sums : ByteArray := prog_11_method_36_code
def yX9_sums : MethodName := ⟨RX9, "sums", "()V"⟩
abbrev cX9_goesOn : ByteArray := prog_11_method_37_code
def yX9_goesOn : MethodName := ⟨RX9, "goesOn", "(III)V"⟩
abbrev cX9_back : ByteArray := prog_11_method_38_code
def yX9_back : MethodName := ⟨RX9, "back", "(III)V"⟩
abbrev cX9_steps : ByteArray := prog_11_method_39_code
def yX9_steps : MethodName := ⟨RX9, "steps", "(III)V"⟩
abbrev cX9_does : ByteArray := prog_11_method_40_code
def yX9_does : MethodName := ⟨RX9, "does", "(IIII)I"⟩
abbrev cX9_rounds : ByteArray := prog_11_method_41_code
def yX9_rounds : MethodName := ⟨RX9, "rounds", "()V"⟩
abbrev cX9_round : ByteArray := prog_11_method_42_code
def yX9_round : MethodName := ⟨RX9, "round", "(I)I"⟩
abbrev cX9_about : ByteArray := prog_11_method_43_code
def yX9_about : MethodName := ⟨RX9, "about", "(I)I"⟩
def RJ9 : String := "java/lang/Math"
def TJ9 : u_T := fun k => match k with
  | _ => ("", "", "", false)
def tyJ9 : Nat → FieldType := fun k => match k with
  | _ => .int
abbrev wsJ90 : List Cond := u_ws RJ9 TJ9 0
theorem nmJ9 : ∀ a, a < 0 → ∀ b, b < 0 → a ≠ b → (TJ9 a).2.1 ≠ (TJ9 b).2.1 := by decide +kernel
theorem tyJ9_ok : ∀ k, k < 0 → parseFieldDescriptor (TJ9 k).2.2.1 = some (tyJ9 k) := by decide +kernel
abbrev cJ9_abs_0f7a4 : ByteArray := prog_12_method_59_code
def yJ9_abs_0f7a4 : MethodName := ⟨RJ9, "abs", "(I)I"⟩
abbrev cJ9_max_7cf53 : ByteArray := prog_12_method_65_code
def yJ9_max_7cf53 : MethodName := ⟨RJ9, "max", "(II)I"⟩
abbrev cJ9_min_7cf53 : ByteArray := prog_12_method_69_code
def yJ9_min_7cf53 : MethodName := ⟨RJ9, "min", "(II)I"⟩
def RJ10 : String := "java/lang/System"
def TJ10 : u_T := fun k => match k with
  | _ => ("", "", "", false)
def tyJ10 : Nat → FieldType := fun k => match k with
  | _ => .int
abbrev wsJ100 : List Cond := u_ws RJ10 TJ10 0
theorem nmJ10 : ∀ a, a < 0 → ∀ b, b < 0 → a ≠ b → (TJ10 a).2.1 ≠ (TJ10 b).2.1 := by decide +kernel
theorem tyJ10_ok : ∀ k, k < 0 → parseFieldDescriptor (TJ10 k).2.2.1 = some (tyJ10 k) := by decide +kernel
def RJ7 : String := "java/util/Arrays"
def TJ7 : u_T := fun k => match k with
  | _ => ("", "", "", false)
def tyJ7 : Nat → FieldType := fun k => match k with
  | _ => .int
abbrev wsJ70 : List Cond := u_ws RJ7 TJ7 0
theorem nmJ7 : ∀ a, a < 0 → ∀ b, b < 0 → a ≠ b → (TJ7 a).2.1 ≠ (TJ7 b).2.1 := by decide +kernel
theorem tyJ7_ok : ∀ k, k < 0 → parseFieldDescriptor (TJ7 k).2.2.1 = some (tyJ7 k) := by decide +kernel
abbrev cJ7_fill_d0a16 : ByteArray := prog_14_method_101_code
def yJ7_fill_d0a16 : MethodName := ⟨RJ7, "fill", "([JJ)V"⟩
def RL : String := "BuoyTenderLaw"
def wsX0_init : List Cond := .code yX0_init cX0_init 1 none :: ([.methodLink RX0 3 objectInit, .instanceMethod objectInit, .code objectInit ⟨#[0xb1]⟩ 1 none])
def wsX0_lay : List Cond := .code yX0_lay cX0_lay 5 none :: ([.fieldLink RX0 9 "BuoyTender$Chain" "laid" "Z", .fieldLink RX0 15 "BuoyTender$Chain" "thickness" "I", .fieldLink RX0 19 "BuoyTender$Chain" "least" "I", .fieldLink RX0 22 "BuoyTender$Chain" "kind" "I", .fieldLink RX0 25 "BuoyTender$Chain" "since" "I"] ++ wsX00)
def wsX0_wornIn : List Cond := .code yX0_wornIn cX0_wornIn 4 (some .int) :: ([.fieldLink RX0 22 "BuoyTender$Chain" "kind" "I"] ++ wsX00)
def wsX0_leftBehind : List Cond := .code yX0_leftBehind cX0_leftBehind 5 (some .int) :: ([.fieldLink RX0 15 "BuoyTender$Chain" "thickness" "I", .fieldLink RX0 25 "BuoyTender$Chain" "since" "I", .methodLink RX0 28 yX0_wornIn, .instanceMethod yX0_wornIn, .selects RX0 yX0_wornIn yX0_wornIn, .initialized RX0, .code yX0_wornIn cX0_wornIn 4 (some .int), .fieldLink RX0 22 "BuoyTender$Chain" "kind" "I"] ++ wsX00)
def wsX0_lifeEnds : List Cond := .code yX0_lifeEnds cX0_lifeEnds 4 (some .int) :: ([.fieldLink RX0 15 "BuoyTender$Chain" "thickness" "I", .fieldLink RX0 25 "BuoyTender$Chain" "since" "I", .fieldLink RX0 19 "BuoyTender$Chain" "least" "I", .methodLink RX0 28 yX0_wornIn, .instanceMethod yX0_wornIn, .selects RX0 yX0_wornIn yX0_wornIn, .initialized RX0, .code yX0_wornIn cX0_wornIn 4 (some .int), .fieldLink RX0 22 "BuoyTender$Chain" "kind" "I"] ++ wsX00)
def wsX5_init : List Cond := .code yX5_init cX5_init 1 none :: ([.methodLink RX5 3 objectInit, .instanceMethod objectInit, .code objectInit ⟨#[0xb1]⟩ 1 none, .arrayClass .long, .fieldLink RX5 9 "BuoyTender$Sighting" "ruledOut" "[J", .fieldLink RX5 15 "BuoyTender$Sighting" "deepest" "I"] ++ wsX50)
def wsX3_init : List Cond := .code yX3_init cX3_init 1 none :: ([.methodLink RX3 3 objectInit, .instanceMethod objectInit, .code objectInit ⟨#[0xb1]⟩ 1 none, .arrayClass .int, .fieldLink RX3 9 "BuoyTender$Rhythm" "steps" "[I"] ++ wsX30)
def wsX1_init_r1 : List Cond := [Cond.methodLink RX1 1 objectInit, Cond.instanceMethod objectInit, Cond.code objectInit ⟨#[0xb1]⟩ 1 none, Cond.classLink RX1 7 RX5, Cond.instantiable RX5 4, Cond.initialized RX5, Cond.fieldLink RX1 10 "BuoyTender$Mark" "sighting" "LBuoyTender$Sighting;", Cond.classLink RX1 16 RX0, Cond.instantiable RX0 5, Cond.initialized RX0, Cond.fieldLink RX1 19 "BuoyTender$Mark" "chain" "LBuoyTender$Chain;", Cond.classLink RX1 23 RX3, Cond.instantiable RX3 2, Cond.initialized RX3, Cond.fieldLink RX1 26 "BuoyTender$Mark" "rhythm" "LBuoyTender$Rhythm;", Cond.fieldLink RX1 30 "BuoyTender$Mark" "x" "I", Cond.fieldLink RX1 34 "BuoyTender$Mark" "y" "I", Cond.fieldLink RX1 37 "BuoyTender$Mark" "radius" "I", Cond.instanceMethod yX5_init, Cond.code yX5_init cX5_init 1 none, Cond.methodLink RX5 3 objectInit, Cond.arrayClass .long, Cond.fieldLink RX5 9 "BuoyTender$Sighting" "ruledOut" "[J", Cond.fieldLink RX5 15 "BuoyTender$Sighting" "deepest" "I"]
def wsX1_init_r2 : List Cond := [Cond.instanceMethod yX0_init, Cond.code yX0_init cX0_init 1 none, Cond.methodLink RX0 3 objectInit, Cond.instanceMethod yX3_init, Cond.code yX3_init cX3_init 1 none, Cond.methodLink RX3 3 objectInit, Cond.arrayClass .int, Cond.fieldLink RX3 9 "BuoyTender$Rhythm" "steps" "[I"]
def wsX1_init : List Cond := .code yX1_init cX1_init 4 none :: ((wsX1_init_r1 ++ wsX1_init_r2) ++ wsX50 ++ wsX10 ++ wsX00 ++ wsX30)
def wsX8_squareBetween : List Cond := .code yX8_squareBetween cX8_squareBetween 4 (some .int) :: ([])
def wsX1_isNear : List Cond := .code yX1_isNear cX1_isNear 3 (some .boolean) :: ([.fieldLink RX1 30 "BuoyTender$Mark" "x" "I", .fieldLink RX1 34 "BuoyTender$Mark" "y" "I", .static yX8_squareBetween, .initialized RX8, .code yX8_squareBetween cX8_squareBetween 4 (some .int)] ++ wsX10)
def wsX2_init : List Cond := .code yX2_init cX2_init 1 none :: ([.methodLink RX2 3 objectInit, .instanceMethod objectInit, .code objectInit ⟨#[0xb1]⟩ 1 none, .arrayClass .int, .fieldLink RX2 9 "BuoyTender$Planner" "numbers" "[I", .fieldLink RX2 15 "BuoyTender$Planner" "minutes" "[I", .fieldLink RX2 18 "BuoyTender$Planner" "loads" "[I", .fieldLink RX2 21 "BuoyTender$Planner" "weights" "[I", .fieldLink RX2 24 "BuoyTender$Planner" "ways" "[I", .fieldLink RX2 27 "BuoyTender$Planner" "opensIn" "[I", .fieldLink RX2 30 "BuoyTender$Planner" "openedIn" "[I", .fieldLink RX2 33 "BuoyTender$Planner" "ends" "[I", .fieldLink RX2 36 "BuoyTender$Planner" "backs" "[I", .fieldLink RX2 39 "BuoyTender$Planner" "tried" "[I", .fieldLink RX2 42 "BuoyTender$Planner" "order" "[I", .fieldLink RX2 45 "BuoyTender$Planner" "begins" "[I"] ++ wsX20)
def wsX4_mayBegin : List Cond := .code yX4_mayBegin cX4_mayBegin 3 (some .boolean) :: ([.fieldLink RX4 9 "BuoyTender$Ship" "tides" "[I", .fieldLink RX4 28 "BuoyTender$Ship" "draught" "I", .fieldLink RX4 15 "BuoyTender$Ship" "winds" "[I", .fieldLink RX4 25 "BuoyTender$Ship" "mostWind" "I"] ++ wsX40)
def wsX2_openHours : List Cond := .code yX2_openHours cX2_openHours 7 none :: ([.fieldLink RX2 30 "BuoyTender$Planner" "openedIn" "[I", .fieldLink RX2 27 "BuoyTender$Planner" "opensIn" "[I", .instanceMethod yX4_mayBegin, .initialized RX4, .selects RX4 yX4_mayBegin yX4_mayBegin, .code yX4_mayBegin cX4_mayBegin 3 (some .boolean), .fieldLink RX4 9 "BuoyTender$Ship" "tides" "[I", .fieldLink RX4 28 "BuoyTender$Ship" "draught" "I", .fieldLink RX4 15 "BuoyTender$Ship" "winds" "[I", .fieldLink RX4 25 "BuoyTender$Ship" "mostWind" "I"] ++ wsX20 ++ wsX40)
def wsX2_gather : List Cond := .code yX2_gather cX2_gather 7 none :: ([.fieldLink RX2 76 "BuoyTender$Planner" "count" "I", .fieldLink RX2 9 "BuoyTender$Planner" "numbers" "[I", .fieldLink RX2 15 "BuoyTender$Planner" "minutes" "[I", .fieldLink RX2 18 "BuoyTender$Planner" "loads" "[I", .fieldLink RX2 21 "BuoyTender$Planner" "weights" "[I", .methodLink RX2 95 yX2_openHours, .instanceMethod yX2_openHours, .selects RX2 yX2_openHours yX2_openHours, .initialized RX2, .code yX2_openHours cX2_openHours 7 none, .fieldLink RX2 30 "BuoyTender$Planner" "openedIn" "[I", .fieldLink RX2 27 "BuoyTender$Planner" "opensIn" "[I", .instanceMethod yX4_mayBegin, .initialized RX4, .selects RX4 yX4_mayBegin yX4_mayBegin, .code yX4_mayBegin cX4_mayBegin 3 (some .boolean), .fieldLink RX4 9 "BuoyTender$Ship" "tides" "[I", .fieldLink RX4 28 "BuoyTender$Ship" "draught" "I", .fieldLink RX4 15 "BuoyTender$Ship" "winds" "[I", .fieldLink RX4 25 "BuoyTender$Ship" "mostWind" "I"] ++ wsX20 ++ wsX10 ++ wsX40)
def wsX2_markOfJob : List Cond := .code yX2_markOfJob cX2_markOfJob 4 (some (.object "BuoyTender$Mark")) :: ([.fieldLink RX2 9 "BuoyTender$Planner" "numbers" "[I"] ++ wsX20)
def wsX2_way : List Cond := .code yX2_way cX2_way 4 (some .int) :: ([.methodLink RX2 115 Lib.Math.abs.name, .static Lib.Math.abs.name, .initialized "java/lang/Math", .code Lib.Math.abs.name Lib.Math.abs.code 1 (some .int), .methodLink RX2 121 Lib.Math.max.name, .static Lib.Math.max.name, .code Lib.Math.max.name Lib.Math.max.code 2 (some .int)] ++ wsX10 ++ wsX40)
def wsX2_measure : List Cond := .code yX2_measure cX2_measure 7 none :: ([.fieldLink RX2 76 "BuoyTender$Planner" "count" "I", .fieldLink RX2 24 "BuoyTender$Planner" "ways" "[I", .methodLink RX2 105 yX2_markOfJob, .instanceMethod yX2_markOfJob, .selects RX2 yX2_markOfJob yX2_markOfJob, .initialized RX2, .code yX2_markOfJob cX2_markOfJob 4 (some (.object "BuoyTender$Mark")), .fieldLink RX2 9 "BuoyTender$Planner" "numbers" "[I", .methodLink RX2 109 yX2_way, .static yX2_way, .code yX2_way cX2_way 4 (some .int), .methodLink RX2 115 Lib.Math.abs.name, .static Lib.Math.abs.name, .initialized "java/lang/Math", .code Lib.Math.abs.name Lib.Math.abs.code 1 (some .int), .methodLink RX2 121 Lib.Math.max.name, .static Lib.Math.max.name, .code Lib.Math.max.name Lib.Math.max.code 2 (some .int)] ++ wsX20 ++ wsX10 ++ wsX40)
def wsX2_isIn : List Cond := .code yX2_isIn cX2_isIn 2 (some .boolean) :: ([])
def wsX2_sumOver : List Cond := .code yX2_sumOver cX2_sumOver 5 (some .int) :: ([.fieldLink RX2 76 "BuoyTender$Planner" "count" "I", .methodLink RX2 128 yX2_isIn, .static yX2_isIn, .initialized RX2, .code yX2_isIn cX2_isIn 2 (some .boolean)] ++ wsX20)
def wsX2_without : List Cond := .code yX2_without cX2_without 2 (some .int) :: ([])
def wsX2_beginFrom : List Cond := .code yX2_beginFrom cX2_beginFrom 5 (some .int) :: ([.constant RX2 131 (1000000), .fieldLink RX2 27 "BuoyTender$Planner" "opensIn" "[I"] ++ wsX20)
def wsX2_earliestEnd : List Cond := .code yX2_earliestEnd cX2_earliestEnd 7 (some .int) :: ([.fieldLink RX2 24 "BuoyTender$Planner" "ways" "[I", .constant RX2 131 (1000000), .fieldLink RX2 76 "BuoyTender$Planner" "count" "I", .fieldLink RX2 33 "BuoyTender$Planner" "ends" "[I", .methodLink RX2 133 Lib.Math.min.name, .static Lib.Math.min.name, .initialized "java/lang/Math", .code Lib.Math.min.name Lib.Math.min.code 2 (some .int), .fieldLink RX2 15 "BuoyTender$Planner" "minutes" "[I", .methodLink RX2 153 yX2_without, .static yX2_without, .initialized RX2, .code yX2_without cX2_without 2 (some .int), .methodLink RX2 128 yX2_isIn, .static yX2_isIn, .code yX2_isIn cX2_isIn 2 (some .boolean), .methodLink RX2 156 yX2_beginFrom, .instanceMethod yX2_beginFrom, .selects RX2 yX2_beginFrom yX2_beginFrom, .code yX2_beginFrom cX2_beginFrom 5 (some .int), .fieldLink RX2 27 "BuoyTender$Planner" "opensIn" "[I"] ++ wsX40 ++ wsX20)
def wsX2_findEarliestEnds_r1 : List Cond := [Cond.fieldLink RX2 36 "BuoyTender$Planner" "backs" "[I", Cond.fieldLink RX2 76 "BuoyTender$Planner" "count" "I", Cond.constant RX2 131 (1000000), Cond.fieldLink RX2 18 "BuoyTender$Planner" "loads" "[I", Cond.fieldLink RX2 33 "BuoyTender$Planner" "ends" "[I", Cond.fieldLink RX2 24 "BuoyTender$Planner" "ways" "[I", Cond.methodLink RX2 133 Lib.Math.min.name, Cond.static Lib.Math.min.name, Cond.initialized "java/lang/Math", Cond.code Lib.Math.min.name Lib.Math.min.code 2 (some .int), Cond.methodLink RX2 139 yX2_sumOver, Cond.instanceMethod yX2_sumOver, Cond.selects RX2 yX2_sumOver yX2_sumOver, Cond.initialized RX2, Cond.code yX2_sumOver cX2_sumOver 5 (some .int), Cond.methodLink RX2 128 yX2_isIn, Cond.static yX2_isIn, Cond.code yX2_isIn cX2_isIn 2 (some .boolean), Cond.methodLink RX2 146 yX2_earliestEnd, Cond.instanceMethod yX2_earliestEnd, Cond.selects RX2 yX2_earliestEnd yX2_earliestEnd, Cond.code yX2_earliestEnd cX2_earliestEnd 7 (some .int), Cond.fieldLink RX2 15 "BuoyTender$Planner" "minutes" "[I", Cond.methodLink RX2 153 yX2_without]
def wsX2_findEarliestEnds_r2 : List Cond := [Cond.static yX2_without, Cond.code yX2_without cX2_without 2 (some .int), Cond.methodLink RX2 156 yX2_beginFrom, Cond.instanceMethod yX2_beginFrom, Cond.selects RX2 yX2_beginFrom yX2_beginFrom, Cond.code yX2_beginFrom cX2_beginFrom 5 (some .int), Cond.fieldLink RX2 27 "BuoyTender$Planner" "opensIn" "[I"]
def wsX2_findEarliestEnds : List Cond := .code yX2_findEarliestEnds cX2_findEarliestEnds 7 none :: ((wsX2_findEarliestEnds_r1 ++ wsX2_findEarliestEnds_r2) ++ wsX20 ++ wsX40)
def wsX2_chooseBest : List Cond := .code yX2_chooseBest cX2_chooseBest 3 none :: ([.fieldLink RX2 159 "BuoyTender$Planner" "bestWeight" "I", .fieldLink RX2 36 "BuoyTender$Planner" "backs" "[I", .fieldLink RX2 162 "BuoyTender$Planner" "bestBack" "I", .fieldLink RX2 76 "BuoyTender$Planner" "count" "I", .constant RX2 131 (1000000), .fieldLink RX2 21 "BuoyTender$Planner" "weights" "[I", .methodLink RX2 139 yX2_sumOver, .instanceMethod yX2_sumOver, .selects RX2 yX2_sumOver yX2_sumOver, .initialized RX2, .code yX2_sumOver cX2_sumOver 5 (some .int), .methodLink RX2 128 yX2_isIn, .static yX2_isIn, .code yX2_isIn cX2_isIn 2 (some .boolean)] ++ wsX20)
def wsX2_beginUpTo : List Cond := .code yX2_beginUpTo cX2_beginUpTo 6 (some .int) :: ([.constant RX2 132 (-1000000), .methodLink RX2 133 Lib.Math.min.name, .static Lib.Math.min.name, .initialized "java/lang/Math", .code Lib.Math.min.name Lib.Math.min.code 2 (some .int), .fieldLink RX2 30 "BuoyTender$Planner" "openedIn" "[I"] ++ wsX20)
def wsX2_latestEnd_r1 : List Cond := [Cond.fieldLink RX2 162 "BuoyTender$Planner" "bestBack" "I", Cond.fieldLink RX2 24 "BuoyTender$Planner" "ways" "[I", Cond.constant RX2 132 (-1000000), Cond.fieldLink RX2 76 "BuoyTender$Planner" "count" "I", Cond.fieldLink RX2 33 "BuoyTender$Planner" "ends" "[I", Cond.fieldLink RX2 15 "BuoyTender$Planner" "minutes" "[I", Cond.methodLink RX2 121 Lib.Math.max.name, Cond.static Lib.Math.max.name, Cond.initialized "java/lang/Math", Cond.code Lib.Math.max.name Lib.Math.max.code 2 (some .int), Cond.methodLink RX2 128 yX2_isIn, Cond.static yX2_isIn, Cond.initialized RX2, Cond.code yX2_isIn cX2_isIn 2 (some .boolean), Cond.methodLink RX2 153 yX2_without, Cond.static yX2_without, Cond.code yX2_without cX2_without 2 (some .int), Cond.methodLink RX2 168 yX2_beginUpTo, Cond.instanceMethod yX2_beginUpTo, Cond.selects RX2 yX2_beginUpTo yX2_beginUpTo, Cond.code yX2_beginUpTo cX2_beginUpTo 6 (some .int), Cond.methodLink RX2 133 Lib.Math.min.name, Cond.static Lib.Math.min.name, Cond.code Lib.Math.min.name Lib.Math.min.code 2 (some .int)]
def wsX2_latestEnd_r2 : List Cond := [Cond.fieldLink RX2 30 "BuoyTender$Planner" "openedIn" "[I"]
def wsX2_latestEnd : List Cond := .code yX2_latestEnd cX2_latestEnd 6 (some .int) :: ((wsX2_latestEnd_r1 ++ wsX2_latestEnd_r2) ++ wsX20)
def wsX2_findLatestEnds_r1 : List Cond := [Cond.fieldLink RX2 76 "BuoyTender$Planner" "count" "I", Cond.fieldLink RX2 33 "BuoyTender$Planner" "ends" "[I", Cond.constant RX2 132 (-1000000), Cond.methodLink RX2 128 yX2_isIn, Cond.static yX2_isIn, Cond.initialized RX2, Cond.code yX2_isIn cX2_isIn 2 (some .boolean), Cond.methodLink RX2 165 yX2_latestEnd, Cond.instanceMethod yX2_latestEnd, Cond.selects RX2 yX2_latestEnd yX2_latestEnd, Cond.code yX2_latestEnd cX2_latestEnd 6 (some .int), Cond.fieldLink RX2 162 "BuoyTender$Planner" "bestBack" "I", Cond.fieldLink RX2 24 "BuoyTender$Planner" "ways" "[I", Cond.fieldLink RX2 15 "BuoyTender$Planner" "minutes" "[I", Cond.methodLink RX2 121 Lib.Math.max.name, Cond.static Lib.Math.max.name, Cond.initialized "java/lang/Math", Cond.code Lib.Math.max.name Lib.Math.max.code 2 (some .int), Cond.methodLink RX2 153 yX2_without, Cond.static yX2_without, Cond.code yX2_without cX2_without 2 (some .int), Cond.methodLink RX2 168 yX2_beginUpTo, Cond.instanceMethod yX2_beginUpTo, Cond.selects RX2 yX2_beginUpTo yX2_beginUpTo]
def wsX2_findLatestEnds_r2 : List Cond := [Cond.code yX2_beginUpTo cX2_beginUpTo 6 (some .int), Cond.methodLink RX2 133 Lib.Math.min.name, Cond.static Lib.Math.min.name, Cond.code Lib.Math.min.name Lib.Math.min.code 2 (some .int), Cond.fieldLink RX2 30 "BuoyTender$Planner" "openedIn" "[I"]
def wsX2_findLatestEnds : List Cond := .code yX2_findLatestEnds cX2_findLatestEnds 3 none :: ((wsX2_findLatestEnds_r1 ++ wsX2_findLatestEnds_r2) ++ wsX20)
def wsX2_lowestNext : List Cond := .code yX2_lowestNext cX2_lowestNext 6 (some .int) :: ([.fieldLink RX2 76 "BuoyTender$Planner" "count" "I", .fieldLink RX2 24 "BuoyTender$Planner" "ways" "[I", .fieldLink RX2 15 "BuoyTender$Planner" "minutes" "[I", .fieldLink RX2 33 "BuoyTender$Planner" "ends" "[I", .methodLink RX2 128 yX2_isIn, .static yX2_isIn, .initialized RX2, .code yX2_isIn cX2_isIn 2 (some .boolean), .methodLink RX2 156 yX2_beginFrom, .instanceMethod yX2_beginFrom, .selects RX2 yX2_beginFrom yX2_beginFrom, .code yX2_beginFrom cX2_beginFrom 5 (some .int), .constant RX2 131 (1000000), .fieldLink RX2 27 "BuoyTender$Planner" "opensIn" "[I", .methodLink RX2 153 yX2_without, .static yX2_without, .code yX2_without cX2_without 2 (some .int)] ++ wsX20)
def wsX2_tryFirstOrder : List Cond := .code yX2_tryFirstOrder cX2_tryFirstOrder 9 (some .int) :: ([.fieldLink RX2 76 "BuoyTender$Planner" "count" "I", .fieldLink RX2 39 "BuoyTender$Planner" "tried" "[I", .fieldLink RX2 24 "BuoyTender$Planner" "ways" "[I", .fieldLink RX2 15 "BuoyTender$Planner" "minutes" "[I", .methodLink RX2 185 yX2_lowestNext, .instanceMethod yX2_lowestNext, .selects RX2 yX2_lowestNext yX2_lowestNext, .initialized RX2, .code yX2_lowestNext cX2_lowestNext 6 (some .int), .fieldLink RX2 33 "BuoyTender$Planner" "ends" "[I", .methodLink RX2 128 yX2_isIn, .static yX2_isIn, .code yX2_isIn cX2_isIn 2 (some .boolean), .methodLink RX2 156 yX2_beginFrom, .instanceMethod yX2_beginFrom, .selects RX2 yX2_beginFrom yX2_beginFrom, .code yX2_beginFrom cX2_beginFrom 5 (some .int), .constant RX2 131 (1000000), .fieldLink RX2 27 "BuoyTender$Planner" "opensIn" "[I", .methodLink RX2 153 yX2_without, .static yX2_without, .code yX2_without cX2_without 2 (some .int)] ++ wsX40 ++ wsX20)
def wsX2_isTriedFirst : List Cond := .code yX2_isTriedFirst cX2_isTriedFirst 3 (some .boolean) :: ([.fieldLink RX2 72 "BuoyTender$Planner" "length" "I", .fieldLink RX2 39 "BuoyTender$Planner" "tried" "[I", .fieldLink RX2 42 "BuoyTender$Planner" "order" "[I"] ++ wsX20)
def wsX2_chooseOrder_r1 : List Cond := [Cond.fieldLink RX2 72 "BuoyTender$Planner" "length" "I", Cond.fieldLink RX2 76 "BuoyTender$Planner" "count" "I", Cond.fieldLink RX2 36 "BuoyTender$Planner" "backs" "[I", Cond.fieldLink RX2 162 "BuoyTender$Planner" "bestBack" "I", Cond.fieldLink RX2 21 "BuoyTender$Planner" "weights" "[I", Cond.fieldLink RX2 159 "BuoyTender$Planner" "bestWeight" "I", Cond.fieldLink RX2 39 "BuoyTender$Planner" "tried" "[I", Cond.fieldLink RX2 42 "BuoyTender$Planner" "order" "[I", Cond.methodLink RX2 179 arraycopyName, Cond.native arraycopyName, Cond.static arraycopyName, Cond.initialized "java/lang/System", Cond.methodLink RX2 139 yX2_sumOver, Cond.instanceMethod yX2_sumOver, Cond.selects RX2 yX2_sumOver yX2_sumOver, Cond.initialized RX2, Cond.code yX2_sumOver cX2_sumOver 5 (some .int), Cond.methodLink RX2 128 yX2_isIn, Cond.static yX2_isIn, Cond.code yX2_isIn cX2_isIn 2 (some .boolean), Cond.methodLink RX2 171 yX2_tryFirstOrder, Cond.instanceMethod yX2_tryFirstOrder, Cond.selects RX2 yX2_tryFirstOrder yX2_tryFirstOrder, Cond.code yX2_tryFirstOrder cX2_tryFirstOrder 9 (some .int)]
def wsX2_chooseOrder_r2 : List Cond := [Cond.fieldLink RX2 24 "BuoyTender$Planner" "ways" "[I", Cond.fieldLink RX2 15 "BuoyTender$Planner" "minutes" "[I", Cond.methodLink RX2 185 yX2_lowestNext, Cond.instanceMethod yX2_lowestNext, Cond.selects RX2 yX2_lowestNext yX2_lowestNext, Cond.code yX2_lowestNext cX2_lowestNext 6 (some .int), Cond.fieldLink RX2 33 "BuoyTender$Planner" "ends" "[I", Cond.methodLink RX2 156 yX2_beginFrom, Cond.instanceMethod yX2_beginFrom, Cond.selects RX2 yX2_beginFrom yX2_beginFrom, Cond.code yX2_beginFrom cX2_beginFrom 5 (some .int), Cond.constant RX2 131 (1000000), Cond.fieldLink RX2 27 "BuoyTender$Planner" "opensIn" "[I", Cond.methodLink RX2 153 yX2_without, Cond.static yX2_without, Cond.code yX2_without cX2_without 2 (some .int), Cond.methodLink RX2 175 yX2_isTriedFirst, Cond.instanceMethod yX2_isTriedFirst, Cond.selects RX2 yX2_isTriedFirst yX2_isTriedFirst, Cond.code yX2_isTriedFirst cX2_isTriedFirst 3 (some .boolean)]
def wsX2_chooseOrder : List Cond := .code yX2_chooseOrder cX2_chooseOrder 4 none :: ((wsX2_chooseOrder_r1 ++ wsX2_chooseOrder_r2) ++ wsX20 ++ wsX40)
def wsX2_timeOrder : List Cond := .code yX2_timeOrder cX2_timeOrder 6 none :: ([.fieldLink RX2 72 "BuoyTender$Planner" "length" "I", .fieldLink RX2 42 "BuoyTender$Planner" "order" "[I", .fieldLink RX2 45 "BuoyTender$Planner" "begins" "[I", .fieldLink RX2 24 "BuoyTender$Planner" "ways" "[I", .fieldLink RX2 15 "BuoyTender$Planner" "minutes" "[I", .methodLink RX2 156 yX2_beginFrom, .instanceMethod yX2_beginFrom, .selects RX2 yX2_beginFrom yX2_beginFrom, .initialized RX2, .code yX2_beginFrom cX2_beginFrom 5 (some .int), .constant RX2 131 (1000000), .fieldLink RX2 27 "BuoyTender$Planner" "opensIn" "[I"] ++ wsX40 ++ wsX20)
def wsX2_plan_r1 : List Cond := [Cond.methodLink RX2 48 yX2_gather, Cond.instanceMethod yX2_gather, Cond.selects RX2 yX2_gather yX2_gather, Cond.initialized RX2, Cond.code yX2_gather cX2_gather 7 none, Cond.fieldLink RX2 76 "BuoyTender$Planner" "count" "I", Cond.fieldLink RX2 9 "BuoyTender$Planner" "numbers" "[I", Cond.fieldLink RX2 15 "BuoyTender$Planner" "minutes" "[I", Cond.fieldLink RX2 18 "BuoyTender$Planner" "loads" "[I", Cond.fieldLink RX2 21 "BuoyTender$Planner" "weights" "[I", Cond.methodLink RX2 95 yX2_openHours, Cond.instanceMethod yX2_openHours, Cond.selects RX2 yX2_openHours yX2_openHours, Cond.code yX2_openHours cX2_openHours 7 none, Cond.fieldLink RX2 30 "BuoyTender$Planner" "openedIn" "[I", Cond.fieldLink RX2 27 "BuoyTender$Planner" "opensIn" "[I", Cond.instanceMethod yX4_mayBegin, Cond.initialized RX4, Cond.selects RX4 yX4_mayBegin yX4_mayBegin, Cond.code yX4_mayBegin cX4_mayBegin 3 (some .boolean), Cond.fieldLink RX4 9 "BuoyTender$Ship" "tides" "[I", Cond.fieldLink RX4 28 "BuoyTender$Ship" "draught" "I", Cond.fieldLink RX4 15 "BuoyTender$Ship" "winds" "[I", Cond.fieldLink RX4 25 "BuoyTender$Ship" "mostWind" "I"]
def wsX2_plan_r2 : List Cond := [Cond.methodLink RX2 52 yX2_measure, Cond.instanceMethod yX2_measure, Cond.selects RX2 yX2_measure yX2_measure, Cond.code yX2_measure cX2_measure 7 none, Cond.fieldLink RX2 24 "BuoyTender$Planner" "ways" "[I", Cond.methodLink RX2 105 yX2_markOfJob, Cond.instanceMethod yX2_markOfJob, Cond.selects RX2 yX2_markOfJob yX2_markOfJob, Cond.code yX2_markOfJob cX2_markOfJob 4 (some (.object "BuoyTender$Mark")), Cond.methodLink RX2 109 yX2_way, Cond.static yX2_way, Cond.code yX2_way cX2_way 4 (some .int), Cond.methodLink RX2 115 Lib.Math.abs.name, Cond.static Lib.Math.abs.name, Cond.initialized "java/lang/Math", Cond.code Lib.Math.abs.name Lib.Math.abs.code 1 (some .int), Cond.methodLink RX2 121 Lib.Math.max.name, Cond.static Lib.Math.max.name, Cond.code Lib.Math.max.name Lib.Math.max.code 2 (some .int), Cond.methodLink RX2 56 yX2_findEarliestEnds, Cond.instanceMethod yX2_findEarliestEnds, Cond.selects RX2 yX2_findEarliestEnds yX2_findEarliestEnds, Cond.code yX2_findEarliestEnds cX2_findEarliestEnds 7 none, Cond.fieldLink RX2 36 "BuoyTender$Planner" "backs" "[I"]
def wsX2_plan_r3 : List Cond := [Cond.constant RX2 131 (1000000), Cond.fieldLink RX2 33 "BuoyTender$Planner" "ends" "[I", Cond.methodLink RX2 133 Lib.Math.min.name, Cond.static Lib.Math.min.name, Cond.code Lib.Math.min.name Lib.Math.min.code 2 (some .int), Cond.methodLink RX2 139 yX2_sumOver, Cond.instanceMethod yX2_sumOver, Cond.selects RX2 yX2_sumOver yX2_sumOver, Cond.code yX2_sumOver cX2_sumOver 5 (some .int), Cond.methodLink RX2 128 yX2_isIn, Cond.static yX2_isIn, Cond.code yX2_isIn cX2_isIn 2 (some .boolean), Cond.methodLink RX2 146 yX2_earliestEnd, Cond.instanceMethod yX2_earliestEnd, Cond.selects RX2 yX2_earliestEnd yX2_earliestEnd, Cond.code yX2_earliestEnd cX2_earliestEnd 7 (some .int), Cond.methodLink RX2 153 yX2_without, Cond.static yX2_without, Cond.code yX2_without cX2_without 2 (some .int), Cond.methodLink RX2 156 yX2_beginFrom, Cond.instanceMethod yX2_beginFrom, Cond.selects RX2 yX2_beginFrom yX2_beginFrom, Cond.code yX2_beginFrom cX2_beginFrom 5 (some .int), Cond.methodLink RX2 60 yX2_chooseBest]
def wsX2_plan_r4 : List Cond := [Cond.instanceMethod yX2_chooseBest, Cond.selects RX2 yX2_chooseBest yX2_chooseBest, Cond.code yX2_chooseBest cX2_chooseBest 3 none, Cond.fieldLink RX2 159 "BuoyTender$Planner" "bestWeight" "I", Cond.fieldLink RX2 162 "BuoyTender$Planner" "bestBack" "I", Cond.methodLink RX2 63 yX2_findLatestEnds, Cond.instanceMethod yX2_findLatestEnds, Cond.selects RX2 yX2_findLatestEnds yX2_findLatestEnds, Cond.code yX2_findLatestEnds cX2_findLatestEnds 3 none, Cond.constant RX2 132 (-1000000), Cond.methodLink RX2 165 yX2_latestEnd, Cond.instanceMethod yX2_latestEnd, Cond.selects RX2 yX2_latestEnd yX2_latestEnd, Cond.code yX2_latestEnd cX2_latestEnd 6 (some .int), Cond.methodLink RX2 168 yX2_beginUpTo, Cond.instanceMethod yX2_beginUpTo, Cond.selects RX2 yX2_beginUpTo yX2_beginUpTo, Cond.code yX2_beginUpTo cX2_beginUpTo 6 (some .int), Cond.methodLink RX2 66 yX2_chooseOrder, Cond.instanceMethod yX2_chooseOrder, Cond.selects RX2 yX2_chooseOrder yX2_chooseOrder, Cond.code yX2_chooseOrder cX2_chooseOrder 4 none, Cond.fieldLink RX2 72 "BuoyTender$Planner" "length" "I", Cond.fieldLink RX2 39 "BuoyTender$Planner" "tried" "[I"]
def wsX2_plan_r5 : List Cond := [Cond.fieldLink RX2 42 "BuoyTender$Planner" "order" "[I", Cond.methodLink RX2 179 arraycopyName, Cond.native arraycopyName, Cond.static arraycopyName, Cond.initialized "java/lang/System", Cond.methodLink RX2 171 yX2_tryFirstOrder, Cond.instanceMethod yX2_tryFirstOrder, Cond.selects RX2 yX2_tryFirstOrder yX2_tryFirstOrder, Cond.code yX2_tryFirstOrder cX2_tryFirstOrder 9 (some .int), Cond.methodLink RX2 185 yX2_lowestNext, Cond.instanceMethod yX2_lowestNext, Cond.selects RX2 yX2_lowestNext yX2_lowestNext, Cond.code yX2_lowestNext cX2_lowestNext 6 (some .int), Cond.methodLink RX2 175 yX2_isTriedFirst, Cond.instanceMethod yX2_isTriedFirst, Cond.selects RX2 yX2_isTriedFirst yX2_isTriedFirst, Cond.code yX2_isTriedFirst cX2_isTriedFirst 3 (some .boolean), Cond.methodLink RX2 69 yX2_timeOrder, Cond.instanceMethod yX2_timeOrder, Cond.selects RX2 yX2_timeOrder yX2_timeOrder, Cond.code yX2_timeOrder cX2_timeOrder 6 none, Cond.fieldLink RX2 45 "BuoyTender$Planner" "begins" "[I"]
def wsX2_plan : List Cond := .code yX2_plan cX2_plan 4 none :: ((wsX2_plan_r1 ++ (wsX2_plan_r2 ++ (wsX2_plan_r3 ++ (wsX2_plan_r4 ++ wsX2_plan_r5)))) ++ wsX20 ++ wsX10 ++ wsX40)
def wsX2_loadDone : List Cond := .code yX2_loadDone cX2_loadDone 3 (some .int) :: ([.fieldLink RX2 72 "BuoyTender$Planner" "length" "I", .fieldLink RX2 18 "BuoyTender$Planner" "loads" "[I", .fieldLink RX2 42 "BuoyTender$Planner" "order" "[I"] ++ wsX20)
def wsX2_step : List Cond := .code yX2_step cX2_step 2 (some .int) :: ([.fieldLink RX2 72 "BuoyTender$Planner" "length" "I", .fieldLink RX2 9 "BuoyTender$Planner" "numbers" "[I", .fieldLink RX2 42 "BuoyTender$Planner" "order" "[I", .fieldLink RX2 45 "BuoyTender$Planner" "begins" "[I"] ++ wsX20)
def wsX3_isLit : List Cond := .code yX3_isLit cX3_isLit 1 (some .boolean) :: ([.fieldLink RX3 15 "BuoyTender$Rhythm" "many" "I"] ++ wsX30)
def wsX3_goDark : List Cond := .code yX3_goDark cX3_goDark 1 none :: ([.fieldLink RX3 15 "BuoyTender$Rhythm" "many" "I"] ++ wsX30)
def wsX8_within : List Cond := .code yX8_within cX8_within 3 (some .boolean) :: ([])
def wsX3_read : List Cond := .code yX3_read cX3_read 6 (some .boolean) :: ([.fieldLink RX3 9 "BuoyTender$Rhythm" "steps" "[I", .fieldLink RX3 15 "BuoyTender$Rhythm" "many" "I", .static yX8_within, .initialized RX8, .code yX8_within cX8_within 3 (some .boolean)] ++ wsX30)
def wsX3_copyFrom : List Cond := .code yX3_copyFrom cX3_copyFrom 2 none :: ([.fieldLink RX3 9 "BuoyTender$Rhythm" "steps" "[I", .methodLink RX3 23 arraycopyName, .native arraycopyName, .static arraycopyName, .initialized "java/lang/System", .fieldLink RX3 15 "BuoyTender$Rhythm" "many" "I"] ++ wsX30)
def wsX3_matchesTurned : List Cond := .code yX3_matchesTurned cX3_matchesTurned 4 (some .boolean) :: ([.fieldLink RX3 15 "BuoyTender$Rhythm" "many" "I", .fieldLink RX3 9 "BuoyTender$Rhythm" "steps" "[I"] ++ wsX30)
def wsX3_matches : List Cond := .code yX3_matches cX3_matches 3 (some .boolean) :: ([.fieldLink RX3 15 "BuoyTender$Rhythm" "many" "I", .methodLink RX3 29 yX3_matchesTurned, .instanceMethod yX3_matchesTurned, .selects RX3 yX3_matchesTurned yX3_matchesTurned, .initialized RX3, .code yX3_matchesTurned cX3_matchesTurned 4 (some .boolean), .fieldLink RX3 9 "BuoyTender$Rhythm" "steps" "[I"] ++ wsX30)
def wsX4_init : List Cond := .code yX4_init cX4_init 1 none :: ([.methodLink RX4 3 objectInit, .instanceMethod objectInit, .code objectInit ⟨#[0xb1]⟩ 1 none, .arrayClass .int, .fieldLink RX4 9 "BuoyTender$Ship" "tides" "[I", .fieldLink RX4 15 "BuoyTender$Ship" "winds" "[I", .fieldLink RX4 18 "BuoyTender$Ship" "end" "I", .fieldLink RX4 22 "BuoyTender$Ship" "pace" "I", .fieldLink RX4 25 "BuoyTender$Ship" "mostWind" "I"] ++ wsX40)
def wsJ7_fill_d0a16 : List Cond := .code yJ7_fill_d0a16 cJ7_fill_d0a16 5 none :: ([])
def wsX5_begin : List Cond := .code yX5_begin cX5_begin 1 none :: ([.fieldLink RX5 9 "BuoyTender$Sighting" "ruledOut" "[J", .fieldLink RX5 25 "BuoyTender$Sighting" "shallowest" "I", .fieldLink RX5 15 "BuoyTender$Sighting" "deepest" "I", .fieldLink RX5 28 "BuoyTender$Sighting" "told" "Z", .methodLink RX5 19 yJ7_fill_d0a16, .static yJ7_fill_d0a16, .initialized RJ7, .code yJ7_fill_d0a16 cJ7_fill_d0a16 5 none] ++ wsX50)
def wsX5_tellBearing : List Cond := .code yX5_tellBearing cX5_tellBearing 12 none :: ([.fieldLink RX5 9 "BuoyTender$Sighting" "ruledOut" "[J", .fieldLink RX5 28 "BuoyTender$Sighting" "told" "Z"] ++ wsX50)
def wsX5_tellSounding : List Cond := .code yX5_tellSounding cX5_tellSounding 3 none :: ([.fieldLink RX5 25 "BuoyTender$Sighting" "shallowest" "I", .methodLink RX5 32 Lib.Math.max.name, .static Lib.Math.max.name, .initialized "java/lang/Math", .code Lib.Math.max.name Lib.Math.max.code 2 (some .int), .fieldLink RX5 15 "BuoyTender$Sighting" "deepest" "I", .methodLink RX5 38 Lib.Math.min.name, .static Lib.Math.min.name, .code Lib.Math.min.name Lib.Math.min.code 2 (some .int), .fieldLink RX5 28 "BuoyTender$Sighting" "told" "Z"] ++ wsX50)
def wsX6_init : List Cond := .code yX6_init cX6_init 1 none :: ([.methodLink RX6 3 objectInit, .instanceMethod objectInit, .code objectInit ⟨#[0xb1]⟩ 1 none])
def wsX6_count : List Cond := .code yX6_count cX6_count 4 none :: ([.fieldLink RX6 9 "BuoyTender$Survey" "left" "I", .fieldLink RX6 18 "BuoyTender$Survey" "leastX" "I", .methodLink RX6 52 Lib.Math.min.name, .static Lib.Math.min.name, .initialized "java/lang/Math", .code Lib.Math.min.name Lib.Math.min.code 2 (some .int), .fieldLink RX6 21 "BuoyTender$Survey" "leastY" "I", .fieldLink RX6 24 "BuoyTender$Survey" "mostX" "I", .methodLink RX6 58 Lib.Math.max.name, .static Lib.Math.max.name, .code Lib.Math.max.name Lib.Math.max.code 2 (some .int), .fieldLink RX6 27 "BuoyTender$Survey" "mostY" "I", .fieldLink RX6 15 "BuoyTender$Survey" "inRadius" "I", .static yX8_squareBetween, .initialized RX8, .code yX8_squareBetween cX8_squareBetween 4 (some .int)] ++ wsX60 ++ wsX10)
def wsX6_take : List Cond := .code yX6_take cX6_take 8 none :: ([.fieldLink RX6 9 "BuoyTender$Survey" "left" "I", .fieldLink RX6 15 "BuoyTender$Survey" "inRadius" "I", .fieldLink RX6 18 "BuoyTender$Survey" "leastX" "I", .fieldLink RX6 21 "BuoyTender$Survey" "leastY" "I", .fieldLink RX6 24 "BuoyTender$Survey" "mostX" "I", .fieldLink RX6 27 "BuoyTender$Survey" "mostY" "I", .methodLink RX6 48 yX6_count, .instanceMethod yX6_count, .selects RX6 yX6_count yX6_count, .initialized RX6, .code yX6_count cX6_count 4 none, .methodLink RX6 52 Lib.Math.min.name, .static Lib.Math.min.name, .initialized "java/lang/Math", .code Lib.Math.min.name Lib.Math.min.code 2 (some .int), .methodLink RX6 58 Lib.Math.max.name, .static Lib.Math.max.name, .code Lib.Math.max.name Lib.Math.max.code 2 (some .int), .static yX8_squareBetween, .initialized RX8, .code yX8_squareBetween cX8_squareBetween 4 (some .int)] ++ wsX60 ++ wsX10 ++ wsX50)
def wsX6_how : List Cond := .code yX6_how cX6_how 1 (some .int) :: ([.fieldLink RX6 9 "BuoyTender$Survey" "left" "I", .fieldLink RX6 15 "BuoyTender$Survey" "inRadius" "I"] ++ wsX60)
def wsX7_init : List Cond := .code yX7_init cX7_init 1 none :: ([.methodLink RX7 3 objectInit, .instanceMethod objectInit, .code objectInit ⟨#[0xb1]⟩ 1 none, .arrayClass .int, .fieldLink RX7 9 "BuoyTender$Warnings" "markOf" "[I", .fieldLink RX7 15 "BuoyTender$Warnings" "reasonOf" "[I", .fieldLink RX7 18 "BuoyTender$Warnings" "toldOn" "[I", .fieldLink RX7 21 "BuoyTender$Warnings" "cancelledOn" "[I"] ++ wsX70)
def wsX7_has : List Cond := .code yX7_has cX7_has 2 (some .boolean) :: ([.fieldLink RX7 24 "BuoyTender$Warnings" "count" "I"] ++ wsX70)
def wsX7_isOpen : List Cond := .code yX7_isOpen cX7_isOpen 4 (some .boolean) :: ([.fieldLink RX7 24 "BuoyTender$Warnings" "count" "I", .fieldLink RX7 9 "BuoyTender$Warnings" "markOf" "[I", .fieldLink RX7 15 "BuoyTender$Warnings" "reasonOf" "[I", .fieldLink RX7 21 "BuoyTender$Warnings" "cancelledOn" "[I"] ++ wsX70)
def wsX7_tell : List Cond := .code yX7_tell cX7_tell 5 (some .int) :: ([.fieldLink RX7 24 "BuoyTender$Warnings" "count" "I", .fieldLink RX7 9 "BuoyTender$Warnings" "markOf" "[I", .fieldLink RX7 15 "BuoyTender$Warnings" "reasonOf" "[I", .fieldLink RX7 18 "BuoyTender$Warnings" "toldOn" "[I", .fieldLink RX7 21 "BuoyTender$Warnings" "cancelledOn" "[I", .methodLink RX7 28 yX7_isOpen, .instanceMethod yX7_isOpen, .selects RX7 yX7_isOpen yX7_isOpen, .initialized RX7, .code yX7_isOpen cX7_isOpen 4 (some .boolean)] ++ wsX70)
def wsX7_end : List Cond := .code yX7_end cX7_end 3 (some .boolean) :: ([.fieldLink RX7 21 "BuoyTender$Warnings" "cancelledOn" "[I", .methodLink RX7 32 yX7_has, .instanceMethod yX7_has, .selects RX7 yX7_has yX7_has, .initialized RX7, .code yX7_has cX7_has 2 (some .boolean), .fieldLink RX7 24 "BuoyTender$Warnings" "count" "I"] ++ wsX70)
def wsX7_isOutOn : List Cond := .code yX7_isOutOn cX7_isOutOn 3 (some .boolean) :: ([.fieldLink RX7 18 "BuoyTender$Warnings" "toldOn" "[I", .fieldLink RX7 21 "BuoyTender$Warnings" "cancelledOn" "[I"] ++ wsX70)
def wsX7_countOn : List Cond := .code yX7_countOn cX7_countOn 4 (some .int) :: ([.fieldLink RX7 24 "BuoyTender$Warnings" "count" "I", .methodLink RX7 36 yX7_isOutOn, .instanceMethod yX7_isOutOn, .selects RX7 yX7_isOutOn yX7_isOutOn, .initialized RX7, .code yX7_isOutOn cX7_isOutOn 3 (some .boolean), .fieldLink RX7 18 "BuoyTender$Warnings" "toldOn" "[I", .fieldLink RX7 21 "BuoyTender$Warnings" "cancelledOn" "[I"] ++ wsX70)
def wsX7_numberOn : List Cond := .code yX7_numberOn cX7_numberOn 5 (some .int) :: ([.fieldLink RX7 24 "BuoyTender$Warnings" "count" "I", .methodLink RX7 36 yX7_isOutOn, .instanceMethod yX7_isOutOn, .selects RX7 yX7_isOutOn yX7_isOutOn, .initialized RX7, .code yX7_isOutOn cX7_isOutOn 3 (some .boolean), .fieldLink RX7 18 "BuoyTender$Warnings" "toldOn" "[I", .fieldLink RX7 21 "BuoyTender$Warnings" "cancelledOn" "[I"] ++ wsX70)
def wsX8_init_r1 : List Cond := [Cond.methodLink RX8 1 objectInit, Cond.instanceMethod objectInit, Cond.code objectInit ⟨#[0xb1]⟩ 1 none, Cond.arrayClass .int, Cond.fieldLink RX8 9 "BuoyTender" "depths" "[I", Cond.classLink RX8 13 RX1, Cond.fieldLink RX8 15 "BuoyTender" "marks" "[LBuoyTender$Mark;", Cond.fieldLink RX8 19 "BuoyTender" "wears" "[I", Cond.classLink RX8 22 RX7, Cond.instantiable RX7 5, Cond.initialized RX7, Cond.fieldLink RX8 25 "BuoyTender" "warnings" "LBuoyTender$Warnings;", Cond.classLink RX8 29 RX4, Cond.instantiable RX4 10, Cond.initialized RX4, Cond.fieldLink RX8 32 "BuoyTender" "vessel" "LBuoyTender$Ship;", Cond.classLink RX8 36 RX6, Cond.instantiable RX6 6, Cond.initialized RX6, Cond.fieldLink RX8 39 "BuoyTender" "survey" "LBuoyTender$Survey;", Cond.classLink RX8 43 RX3, Cond.instantiable RX3 2, Cond.initialized RX3, Cond.fieldLink RX8 46 "BuoyTender" "proposed" "LBuoyTender$Rhythm;"]
def wsX8_init_r2 : List Cond := [Cond.instanceMethod yX7_init, Cond.code yX7_init cX7_init 1 none, Cond.methodLink RX7 3 objectInit, Cond.fieldLink RX7 9 "BuoyTender$Warnings" "markOf" "[I", Cond.fieldLink RX7 15 "BuoyTender$Warnings" "reasonOf" "[I", Cond.fieldLink RX7 18 "BuoyTender$Warnings" "toldOn" "[I", Cond.fieldLink RX7 21 "BuoyTender$Warnings" "cancelledOn" "[I", Cond.instanceMethod yX4_init, Cond.code yX4_init cX4_init 1 none, Cond.methodLink RX4 3 objectInit, Cond.fieldLink RX4 9 "BuoyTender$Ship" "tides" "[I", Cond.fieldLink RX4 15 "BuoyTender$Ship" "winds" "[I", Cond.fieldLink RX4 18 "BuoyTender$Ship" "end" "I", Cond.fieldLink RX4 22 "BuoyTender$Ship" "pace" "I", Cond.fieldLink RX4 25 "BuoyTender$Ship" "mostWind" "I", Cond.instanceMethod yX6_init, Cond.code yX6_init cX6_init 1 none, Cond.methodLink RX6 3 objectInit, Cond.instanceMethod yX3_init, Cond.code yX3_init cX3_init 1 none, Cond.methodLink RX3 3 objectInit, Cond.fieldLink RX3 9 "BuoyTender$Rhythm" "steps" "[I"]
def wsX8_init : List Cond := .code yX8_init cX8_init 1 none :: ((wsX8_init_r1 ++ wsX8_init_r2) ++ wsX80 ++ wsX70 ++ wsX40 ++ wsX60 ++ wsX30)
def wsX8_isPlace : List Cond := .code yX8_isPlace cX8_isPlace 2 (some .boolean) :: ([.methodLink RX8 54 yX8_within, .static yX8_within, .initialized RX8, .code yX8_within cX8_within 3 (some .boolean)])
def wsX8_depth : List Cond := .code yX8_depth cX8_depth 8 (some .boolean) :: ([.fieldLink RX8 9 "BuoyTender" "depths" "[I", .fieldLink RX8 58 "BuoyTender" "planned" "Z", .methodLink RX8 50 yX8_isPlace, .static yX8_isPlace, .initialized RX8, .code yX8_isPlace cX8_isPlace 2 (some .boolean), .methodLink RX8 54 yX8_within, .static yX8_within, .code yX8_within cX8_within 3 (some .boolean)] ++ wsX80)
def wsX8_mark_r1 : List Cond := [Cond.fieldLink RX8 62 "BuoyTender" "markCount" "I", Cond.fieldLink RX8 15 "BuoyTender" "marks" "[LBuoyTender$Mark;", Cond.classLink RX8 13 RX1, Cond.instantiable RX1 9, Cond.initialized RX1, Cond.methodLink RX8 50 yX8_isPlace, Cond.static yX8_isPlace, Cond.initialized RX8, Cond.code yX8_isPlace cX8_isPlace 2 (some .boolean), Cond.methodLink RX8 54 yX8_within, Cond.static yX8_within, Cond.code yX8_within cX8_within 3 (some .boolean), Cond.instanceMethod yX1_init, Cond.code yX1_init cX1_init 4 none, Cond.methodLink RX1 1 objectInit, Cond.instanceMethod objectInit, Cond.code objectInit ⟨#[0xb1]⟩ 1 none, Cond.classLink RX1 7 RX5, Cond.instantiable RX5 4, Cond.initialized RX5, Cond.fieldLink RX1 10 "BuoyTender$Mark" "sighting" "LBuoyTender$Sighting;", Cond.classLink RX1 16 RX0, Cond.instantiable RX0 5, Cond.initialized RX0]
def wsX8_mark_r2 : List Cond := [Cond.fieldLink RX1 19 "BuoyTender$Mark" "chain" "LBuoyTender$Chain;", Cond.classLink RX1 23 RX3, Cond.instantiable RX3 2, Cond.initialized RX3, Cond.fieldLink RX1 26 "BuoyTender$Mark" "rhythm" "LBuoyTender$Rhythm;", Cond.fieldLink RX1 30 "BuoyTender$Mark" "x" "I", Cond.fieldLink RX1 34 "BuoyTender$Mark" "y" "I", Cond.fieldLink RX1 37 "BuoyTender$Mark" "radius" "I", Cond.instanceMethod yX5_init, Cond.code yX5_init cX5_init 1 none, Cond.methodLink RX5 3 objectInit, Cond.arrayClass .long, Cond.fieldLink RX5 9 "BuoyTender$Sighting" "ruledOut" "[J", Cond.fieldLink RX5 15 "BuoyTender$Sighting" "deepest" "I", Cond.instanceMethod yX0_init, Cond.code yX0_init cX0_init 1 none, Cond.methodLink RX0 3 objectInit, Cond.instanceMethod yX3_init, Cond.code yX3_init cX3_init 1 none, Cond.methodLink RX3 3 objectInit, Cond.arrayClass .int, Cond.fieldLink RX3 9 "BuoyTender$Rhythm" "steps" "[I"]
def wsX8_mark : List Cond := .code yX8_mark cX8_mark 5 (some .int) :: ((wsX8_mark_r1 ++ wsX8_mark_r2) ++ wsX80 ++ wsX10 ++ wsX50 ++ wsX00 ++ wsX30)
def wsX8_known : List Cond := .code yX8_known cX8_known 2 (some (.object "BuoyTender$Mark")) :: ([.fieldLink RX8 62 "BuoyTender" "markCount" "I", .fieldLink RX8 15 "BuoyTender" "marks" "[LBuoyTender$Mark;"] ++ wsX80)
def wsX8_sight : List Cond := .code yX8_sight cX8_sight 3 (some .boolean) :: ([.methodLink RX8 69 yX8_known, .instanceMethod yX8_known, .selects RX8 yX8_known yX8_known, .initialized RX8, .code yX8_known cX8_known 2 (some (.object "BuoyTender$Mark")), .fieldLink RX8 62 "BuoyTender" "markCount" "I", .fieldLink RX8 15 "BuoyTender" "marks" "[LBuoyTender$Mark;", .instanceMethod yX5_begin, .initialized RX5, .selects RX5 yX5_begin yX5_begin, .code yX5_begin cX5_begin 1 none, .fieldLink RX5 9 "BuoyTender$Sighting" "ruledOut" "[J", .fieldLink RX5 25 "BuoyTender$Sighting" "shallowest" "I", .fieldLink RX5 15 "BuoyTender$Sighting" "deepest" "I", .fieldLink RX5 28 "BuoyTender$Sighting" "told" "Z", .methodLink RX5 19 yJ7_fill_d0a16, .static yJ7_fill_d0a16, .initialized RJ7, .code yJ7_fill_d0a16 cJ7_fill_d0a16 5 none] ++ wsX10 ++ wsX80 ++ wsX50)
def wsX8_isWay : List Cond := .code yX8_isWay cX8_isWay 2 (some .boolean) :: ([.methodLink RX8 54 yX8_within, .static yX8_within, .initialized RX8, .code yX8_within cX8_within 3 (some .boolean)])
def wsX8_bearing : List Cond := .code yX8_bearing cX8_bearing 9 (some .boolean) :: ([.methodLink RX8 69 yX8_known, .instanceMethod yX8_known, .selects RX8 yX8_known yX8_known, .initialized RX8, .code yX8_known cX8_known 2 (some (.object "BuoyTender$Mark")), .fieldLink RX8 62 "BuoyTender" "markCount" "I", .fieldLink RX8 15 "BuoyTender" "marks" "[LBuoyTender$Mark;", .methodLink RX8 82 yX8_isWay, .static yX8_isWay, .code yX8_isWay cX8_isWay 2 (some .boolean), .methodLink RX8 54 yX8_within, .static yX8_within, .code yX8_within cX8_within 3 (some .boolean), .instanceMethod yX5_tellBearing, .initialized RX5, .selects RX5 yX5_tellBearing yX5_tellBearing, .code yX5_tellBearing cX5_tellBearing 12 none, .fieldLink RX5 9 "BuoyTender$Sighting" "ruledOut" "[J", .fieldLink RX5 28 "BuoyTender$Sighting" "told" "Z"] ++ wsX10 ++ wsX80 ++ wsX50)
def wsX8_sounding : List Cond := .code yX8_sounding cX8_sounding 5 (some .boolean) :: ([.methodLink RX8 69 yX8_known, .instanceMethod yX8_known, .selects RX8 yX8_known yX8_known, .initialized RX8, .code yX8_known cX8_known 2 (some (.object "BuoyTender$Mark")), .fieldLink RX8 62 "BuoyTender" "markCount" "I", .fieldLink RX8 15 "BuoyTender" "marks" "[LBuoyTender$Mark;", .methodLink RX8 54 yX8_within, .static yX8_within, .code yX8_within cX8_within 3 (some .boolean), .instanceMethod yX5_tellSounding, .initialized RX5, .selects RX5 yX5_tellSounding yX5_tellSounding, .code yX5_tellSounding cX5_tellSounding 3 none, .fieldLink RX5 25 "BuoyTender$Sighting" "shallowest" "I", .methodLink RX5 32 Lib.Math.max.name, .static Lib.Math.max.name, .initialized "java/lang/Math", .code Lib.Math.max.name Lib.Math.max.code 2 (some .int), .fieldLink RX5 15 "BuoyTender$Sighting" "deepest" "I", .methodLink RX5 38 Lib.Math.min.name, .static Lib.Math.min.name, .code Lib.Math.min.name Lib.Math.min.code 2 (some .int), .fieldLink RX5 28 "BuoyTender$Sighting" "told" "Z"] ++ wsX10 ++ wsX80 ++ wsX50)
def wsX8_surveyed : List Cond := .code yX8_surveyed cX8_surveyed 3 (some .int) :: ([.fieldLink RX8 39 "BuoyTender" "survey" "LBuoyTender$Survey;", .instanceMethod yX6_how, .initialized RX6, .selects RX6 yX6_how yX6_how, .code yX6_how cX6_how 1 (some .int), .fieldLink RX6 9 "BuoyTender$Survey" "left" "I", .fieldLink RX6 15 "BuoyTender$Survey" "inRadius" "I"] ++ wsX80 ++ wsX60)
def wsX8_lies_r1 : List Cond := [Cond.fieldLink RX8 39 "BuoyTender" "survey" "LBuoyTender$Survey;", Cond.fieldLink RX8 9 "BuoyTender" "depths" "[I", Cond.methodLink RX8 69 yX8_known, Cond.instanceMethod yX8_known, Cond.selects RX8 yX8_known yX8_known, Cond.initialized RX8, Cond.code yX8_known cX8_known 2 (some (.object "BuoyTender$Mark")), Cond.fieldLink RX8 62 "BuoyTender" "markCount" "I", Cond.fieldLink RX8 15 "BuoyTender" "marks" "[LBuoyTender$Mark;", Cond.methodLink RX8 54 yX8_within, Cond.static yX8_within, Cond.code yX8_within cX8_within 3 (some .boolean), Cond.instanceMethod yX6_take, Cond.initialized RX6, Cond.selects RX6 yX6_take yX6_take, Cond.code yX6_take cX6_take 8 none, Cond.fieldLink RX6 9 "BuoyTender$Survey" "left" "I", Cond.fieldLink RX6 15 "BuoyTender$Survey" "inRadius" "I", Cond.fieldLink RX6 18 "BuoyTender$Survey" "leastX" "I", Cond.fieldLink RX6 21 "BuoyTender$Survey" "leastY" "I", Cond.fieldLink RX6 24 "BuoyTender$Survey" "mostX" "I", Cond.fieldLink RX6 27 "BuoyTender$Survey" "mostY" "I", Cond.methodLink RX6 48 yX6_count, Cond.instanceMethod yX6_count]
def wsX8_lies_r2 : List Cond := [Cond.selects RX6 yX6_count yX6_count, Cond.code yX6_count cX6_count 4 none, Cond.methodLink RX6 52 Lib.Math.min.name, Cond.static Lib.Math.min.name, Cond.initialized "java/lang/Math", Cond.code Lib.Math.min.name Lib.Math.min.code 2 (some .int), Cond.methodLink RX6 58 Lib.Math.max.name, Cond.static Lib.Math.max.name, Cond.code Lib.Math.max.name Lib.Math.max.code 2 (some .int), Cond.static yX8_squareBetween, Cond.code yX8_squareBetween cX8_squareBetween 4 (some .int), Cond.methodLink RX8 109 yX8_surveyed, Cond.instanceMethod yX8_surveyed, Cond.selects RX8 yX8_surveyed yX8_surveyed, Cond.code yX8_surveyed cX8_surveyed 3 (some .int), Cond.instanceMethod yX6_how, Cond.selects RX6 yX6_how yX6_how, Cond.code yX6_how cX6_how 1 (some .int)]
def wsX8_lies : List Cond := .code yX8_lies cX8_lies 4 (some .int) :: ((wsX8_lies_r1 ++ wsX8_lies_r2) ++ wsX10 ++ wsX80 ++ wsX50 ++ wsX60)
def wsX8_day : List Cond := .code yX8_day cX8_day 2 (some .boolean) :: ([.fieldLink RX8 113 "BuoyTender" "today" "I", .methodLink RX8 54 yX8_within, .static yX8_within, .initialized RX8, .code yX8_within cX8_within 3 (some .boolean)] ++ wsX80)
def wsX8_thisMonth : List Cond := .code yX8_thisMonth cX8_thisMonth 1 (some .int) :: ([.fieldLink RX8 113 "BuoyTender" "today" "I"] ++ wsX80)
def wsX8_chain : List Cond := .code yX8_chain cX8_chain 6 (some .boolean) :: ([.methodLink RX8 69 yX8_known, .instanceMethod yX8_known, .selects RX8 yX8_known yX8_known, .initialized RX8, .code yX8_known cX8_known 2 (some (.object "BuoyTender$Mark")), .fieldLink RX8 62 "BuoyTender" "markCount" "I", .fieldLink RX8 15 "BuoyTender" "marks" "[LBuoyTender$Mark;", .methodLink RX8 54 yX8_within, .static yX8_within, .code yX8_within cX8_within 3 (some .boolean), .methodLink RX8 120 yX8_thisMonth, .instanceMethod yX8_thisMonth, .selects RX8 yX8_thisMonth yX8_thisMonth, .code yX8_thisMonth cX8_thisMonth 1 (some .int), .fieldLink RX8 113 "BuoyTender" "today" "I", .instanceMethod yX0_lay, .initialized RX0, .selects RX0 yX0_lay yX0_lay, .code yX0_lay cX0_lay 5 none, .fieldLink RX0 9 "BuoyTender$Chain" "laid" "Z", .fieldLink RX0 15 "BuoyTender$Chain" "thickness" "I", .fieldLink RX0 19 "BuoyTender$Chain" "least" "I", .fieldLink RX0 22 "BuoyTender$Chain" "kind" "I", .fieldLink RX0 25 "BuoyTender$Chain" "since" "I"] ++ wsX10 ++ wsX80 ++ wsX00)
def wsX8_wear : List Cond := .code yX8_wear cX8_wear 4 (some .boolean) :: ([.fieldLink RX8 19 "BuoyTender" "wears" "[I", .methodLink RX8 54 yX8_within, .static yX8_within, .initialized RX8, .code yX8_within cX8_within 3 (some .boolean)] ++ wsX80)
def wsX8_chainOf_r1 : List Cond := [Cond.fieldLink RX8 19 "BuoyTender" "wears" "[I", Cond.methodLink RX8 137 Lib.Math.max.name, Cond.static Lib.Math.max.name, Cond.initialized "java/lang/Math", Cond.code Lib.Math.max.name Lib.Math.max.code 2 (some .int), Cond.methodLink RX8 69 yX8_known, Cond.instanceMethod yX8_known, Cond.selects RX8 yX8_known yX8_known, Cond.initialized RX8, Cond.code yX8_known cX8_known 2 (some (.object "BuoyTender$Mark")), Cond.fieldLink RX8 62 "BuoyTender" "markCount" "I", Cond.fieldLink RX8 15 "BuoyTender" "marks" "[LBuoyTender$Mark;", Cond.methodLink RX8 120 yX8_thisMonth, Cond.instanceMethod yX8_thisMonth, Cond.selects RX8 yX8_thisMonth yX8_thisMonth, Cond.code yX8_thisMonth cX8_thisMonth 1 (some .int), Cond.fieldLink RX8 113 "BuoyTender" "today" "I", Cond.instanceMethod yX0_leftBehind, Cond.initialized RX0, Cond.selects RX0 yX0_leftBehind yX0_leftBehind, Cond.code yX0_leftBehind cX0_leftBehind 5 (some .int), Cond.fieldLink RX0 15 "BuoyTender$Chain" "thickness" "I", Cond.fieldLink RX0 25 "BuoyTender$Chain" "since" "I", Cond.methodLink RX0 28 yX0_wornIn]
def wsX8_chainOf_r2 : List Cond := [Cond.instanceMethod yX0_wornIn, Cond.selects RX0 yX0_wornIn yX0_wornIn, Cond.code yX0_wornIn cX0_wornIn 4 (some .int), Cond.fieldLink RX0 22 "BuoyTender$Chain" "kind" "I", Cond.instanceMethod yX0_lifeEnds, Cond.selects RX0 yX0_lifeEnds yX0_lifeEnds, Cond.code yX0_lifeEnds cX0_lifeEnds 4 (some .int), Cond.fieldLink RX0 19 "BuoyTender$Chain" "least" "I"]
def wsX8_chainOf : List Cond := .code yX8_chainOf cX8_chainOf 4 (some .int) :: ((wsX8_chainOf_r1 ++ wsX8_chainOf_r2) ++ wsX10 ++ wsX00 ++ wsX80)
def wsX8_clashesNearby_r1 : List Cond := [Cond.fieldLink RX8 62 "BuoyTender" "markCount" "I", Cond.fieldLink RX8 171 "BuoyTender" "nearness" "I", Cond.fieldLink RX8 46 "BuoyTender" "proposed" "LBuoyTender$Rhythm;", Cond.methodLink RX8 69 yX8_known, Cond.instanceMethod yX8_known, Cond.selects RX8 yX8_known yX8_known, Cond.initialized RX8, Cond.code yX8_known cX8_known 2 (some (.object "BuoyTender$Mark")), Cond.fieldLink RX8 15 "BuoyTender" "marks" "[LBuoyTender$Mark;", Cond.instanceMethod yX1_isNear, Cond.initialized RX1, Cond.selects RX1 yX1_isNear yX1_isNear, Cond.code yX1_isNear cX1_isNear 3 (some .boolean), Cond.fieldLink RX1 30 "BuoyTender$Mark" "x" "I", Cond.fieldLink RX1 34 "BuoyTender$Mark" "y" "I", Cond.static yX8_squareBetween, Cond.code yX8_squareBetween cX8_squareBetween 4 (some .int), Cond.instanceMethod yX3_matches, Cond.initialized RX3, Cond.selects RX3 yX3_matches yX3_matches, Cond.code yX3_matches cX3_matches 3 (some .boolean), Cond.fieldLink RX3 15 "BuoyTender$Rhythm" "many" "I", Cond.methodLink RX3 29 yX3_matchesTurned, Cond.instanceMethod yX3_matchesTurned]
def wsX8_clashesNearby_r2 : List Cond := [Cond.selects RX3 yX3_matchesTurned yX3_matchesTurned, Cond.code yX3_matchesTurned cX3_matchesTurned 4 (some .boolean), Cond.fieldLink RX3 9 "BuoyTender$Rhythm" "steps" "[I"]
def wsX8_clashesNearby : List Cond := .code yX8_clashesNearby cX8_clashesNearby 5 (some .boolean) :: ((wsX8_clashesNearby_r1 ++ wsX8_clashesNearby_r2) ++ wsX80 ++ wsX10 ++ wsX30)
def wsX8_light_r1 : List Cond := [Cond.fieldLink RX8 46 "BuoyTender" "proposed" "LBuoyTender$Rhythm;", Cond.methodLink RX8 69 yX8_known, Cond.instanceMethod yX8_known, Cond.selects RX8 yX8_known yX8_known, Cond.initialized RX8, Cond.code yX8_known cX8_known 2 (some (.object "BuoyTender$Mark")), Cond.fieldLink RX8 62 "BuoyTender" "markCount" "I", Cond.fieldLink RX8 15 "BuoyTender" "marks" "[LBuoyTender$Mark;", Cond.instanceMethod yX3_goDark, Cond.initialized RX3, Cond.selects RX3 yX3_goDark yX3_goDark, Cond.code yX3_goDark cX3_goDark 1 none, Cond.fieldLink RX3 15 "BuoyTender$Rhythm" "many" "I", Cond.instanceMethod yX3_read, Cond.selects RX3 yX3_read yX3_read, Cond.code yX3_read cX3_read 6 (some .boolean), Cond.fieldLink RX3 9 "BuoyTender$Rhythm" "steps" "[I", Cond.static yX8_within, Cond.code yX8_within cX8_within 3 (some .boolean), Cond.methodLink RX8 159 yX8_clashesNearby, Cond.instanceMethod yX8_clashesNearby, Cond.selects RX8 yX8_clashesNearby yX8_clashesNearby, Cond.code yX8_clashesNearby cX8_clashesNearby 5 (some .boolean), Cond.fieldLink RX8 171 "BuoyTender" "nearness" "I"]
def wsX8_light_r2 : List Cond := [Cond.instanceMethod yX1_isNear, Cond.initialized RX1, Cond.selects RX1 yX1_isNear yX1_isNear, Cond.code yX1_isNear cX1_isNear 3 (some .boolean), Cond.fieldLink RX1 30 "BuoyTender$Mark" "x" "I", Cond.fieldLink RX1 34 "BuoyTender$Mark" "y" "I", Cond.static yX8_squareBetween, Cond.code yX8_squareBetween cX8_squareBetween 4 (some .int), Cond.instanceMethod yX3_matches, Cond.selects RX3 yX3_matches yX3_matches, Cond.code yX3_matches cX3_matches 3 (some .boolean), Cond.methodLink RX3 29 yX3_matchesTurned, Cond.instanceMethod yX3_matchesTurned, Cond.selects RX3 yX3_matchesTurned yX3_matchesTurned, Cond.code yX3_matchesTurned cX3_matchesTurned 4 (some .boolean), Cond.instanceMethod yX3_copyFrom, Cond.selects RX3 yX3_copyFrom yX3_copyFrom, Cond.code yX3_copyFrom cX3_copyFrom 2 none, Cond.methodLink RX3 23 arraycopyName, Cond.native arraycopyName, Cond.static arraycopyName, Cond.initialized "java/lang/System"]
def wsX8_light : List Cond := .code yX8_light cX8_light 5 (some .boolean) :: ((wsX8_light_r1 ++ wsX8_light_r2) ++ wsX10 ++ wsX80 ++ wsX30)
def wsX8_clashesWithin_r1 : List Cond := [Cond.fieldLink RX8 62 "BuoyTender" "markCount" "I", Cond.methodLink RX8 69 yX8_known, Cond.instanceMethod yX8_known, Cond.selects RX8 yX8_known yX8_known, Cond.initialized RX8, Cond.code yX8_known cX8_known 2 (some (.object "BuoyTender$Mark")), Cond.fieldLink RX8 15 "BuoyTender" "marks" "[LBuoyTender$Mark;", Cond.instanceMethod yX1_isNear, Cond.initialized RX1, Cond.selects RX1 yX1_isNear yX1_isNear, Cond.code yX1_isNear cX1_isNear 3 (some .boolean), Cond.fieldLink RX1 30 "BuoyTender$Mark" "x" "I", Cond.fieldLink RX1 34 "BuoyTender$Mark" "y" "I", Cond.static yX8_squareBetween, Cond.code yX8_squareBetween cX8_squareBetween 4 (some .int), Cond.instanceMethod yX3_matches, Cond.initialized RX3, Cond.selects RX3 yX3_matches yX3_matches, Cond.code yX3_matches cX3_matches 3 (some .boolean), Cond.fieldLink RX3 15 "BuoyTender$Rhythm" "many" "I", Cond.methodLink RX3 29 yX3_matchesTurned, Cond.instanceMethod yX3_matchesTurned, Cond.selects RX3 yX3_matchesTurned yX3_matchesTurned, Cond.code yX3_matchesTurned cX3_matchesTurned 4 (some .boolean)]
def wsX8_clashesWithin_r2 : List Cond := [Cond.fieldLink RX3 9 "BuoyTender$Rhythm" "steps" "[I"]
def wsX8_clashesWithin : List Cond := .code yX8_clashesWithin cX8_clashesWithin 6 (some .boolean) :: ((wsX8_clashesWithin_r1 ++ wsX8_clashesWithin_r2) ++ wsX80 ++ wsX10 ++ wsX30)
def wsX8_near_r1 : List Cond := [Cond.fieldLink RX8 171 "BuoyTender" "nearness" "I", Cond.methodLink RX8 54 yX8_within, Cond.static yX8_within, Cond.initialized RX8, Cond.code yX8_within cX8_within 3 (some .boolean), Cond.methodLink RX8 167 yX8_clashesWithin, Cond.instanceMethod yX8_clashesWithin, Cond.selects RX8 yX8_clashesWithin yX8_clashesWithin, Cond.code yX8_clashesWithin cX8_clashesWithin 6 (some .boolean), Cond.fieldLink RX8 62 "BuoyTender" "markCount" "I", Cond.methodLink RX8 69 yX8_known, Cond.instanceMethod yX8_known, Cond.selects RX8 yX8_known yX8_known, Cond.code yX8_known cX8_known 2 (some (.object "BuoyTender$Mark")), Cond.fieldLink RX8 15 "BuoyTender" "marks" "[LBuoyTender$Mark;", Cond.instanceMethod yX1_isNear, Cond.initialized RX1, Cond.selects RX1 yX1_isNear yX1_isNear, Cond.code yX1_isNear cX1_isNear 3 (some .boolean), Cond.fieldLink RX1 30 "BuoyTender$Mark" "x" "I", Cond.fieldLink RX1 34 "BuoyTender$Mark" "y" "I", Cond.static yX8_squareBetween, Cond.code yX8_squareBetween cX8_squareBetween 4 (some .int), Cond.instanceMethod yX3_matches]
def wsX8_near_r2 : List Cond := [Cond.initialized RX3, Cond.selects RX3 yX3_matches yX3_matches, Cond.code yX3_matches cX3_matches 3 (some .boolean), Cond.fieldLink RX3 15 "BuoyTender$Rhythm" "many" "I", Cond.methodLink RX3 29 yX3_matchesTurned, Cond.instanceMethod yX3_matchesTurned, Cond.selects RX3 yX3_matchesTurned yX3_matchesTurned, Cond.code yX3_matchesTurned cX3_matchesTurned 4 (some .boolean), Cond.fieldLink RX3 9 "BuoyTender$Rhythm" "steps" "[I"]
def wsX8_near : List Cond := .code yX8_near cX8_near 2 (some .boolean) :: ((wsX8_near_r1 ++ wsX8_near_r2) ++ wsX80 ++ wsX10 ++ wsX30)
def wsX8_alike : List Cond := .code yX8_alike cX8_alike 5 (some .int) :: ([.methodLink RX8 69 yX8_known, .instanceMethod yX8_known, .selects RX8 yX8_known yX8_known, .initialized RX8, .code yX8_known cX8_known 2 (some (.object "BuoyTender$Mark")), .fieldLink RX8 62 "BuoyTender" "markCount" "I", .fieldLink RX8 15 "BuoyTender" "marks" "[LBuoyTender$Mark;", .instanceMethod yX3_isLit, .initialized RX3, .selects RX3 yX3_isLit yX3_isLit, .code yX3_isLit cX3_isLit 1 (some .boolean), .fieldLink RX3 15 "BuoyTender$Rhythm" "many" "I", .instanceMethod yX3_matches, .selects RX3 yX3_matches yX3_matches, .code yX3_matches cX3_matches 3 (some .boolean), .methodLink RX3 29 yX3_matchesTurned, .instanceMethod yX3_matchesTurned, .selects RX3 yX3_matchesTurned yX3_matchesTurned, .code yX3_matchesTurned cX3_matchesTurned 4 (some .boolean), .fieldLink RX3 9 "BuoyTender$Rhythm" "steps" "[I"] ++ wsX10 ++ wsX80 ++ wsX30)
def wsX8_warn_r1 : List Cond := [Cond.fieldLink RX8 25 "BuoyTender" "warnings" "LBuoyTender$Warnings;", Cond.fieldLink RX8 113 "BuoyTender" "today" "I", Cond.methodLink RX8 69 yX8_known, Cond.instanceMethod yX8_known, Cond.selects RX8 yX8_known yX8_known, Cond.initialized RX8, Cond.code yX8_known cX8_known 2 (some (.object "BuoyTender$Mark")), Cond.fieldLink RX8 62 "BuoyTender" "markCount" "I", Cond.fieldLink RX8 15 "BuoyTender" "marks" "[LBuoyTender$Mark;", Cond.methodLink RX8 54 yX8_within, Cond.static yX8_within, Cond.code yX8_within cX8_within 3 (some .boolean), Cond.instanceMethod yX7_tell, Cond.initialized RX7, Cond.selects RX7 yX7_tell yX7_tell, Cond.code yX7_tell cX7_tell 5 (some .int), Cond.fieldLink RX7 24 "BuoyTender$Warnings" "count" "I", Cond.fieldLink RX7 9 "BuoyTender$Warnings" "markOf" "[I", Cond.fieldLink RX7 15 "BuoyTender$Warnings" "reasonOf" "[I", Cond.fieldLink RX7 18 "BuoyTender$Warnings" "toldOn" "[I", Cond.fieldLink RX7 21 "BuoyTender$Warnings" "cancelledOn" "[I", Cond.methodLink RX7 28 yX7_isOpen, Cond.instanceMethod yX7_isOpen, Cond.selects RX7 yX7_isOpen yX7_isOpen]
def wsX8_warn_r2 : List Cond := [Cond.code yX7_isOpen cX7_isOpen 4 (some .boolean)]
def wsX8_warn : List Cond := .code yX8_warn cX8_warn 3 (some .int) :: ((wsX8_warn_r1 ++ wsX8_warn_r2) ++ wsX80 ++ wsX70)
def wsX8_cancel : List Cond := .code yX8_cancel cX8_cancel 2 (some .boolean) :: ([.fieldLink RX8 25 "BuoyTender" "warnings" "LBuoyTender$Warnings;", .fieldLink RX8 113 "BuoyTender" "today" "I", .instanceMethod yX7_end, .initialized RX7, .selects RX7 yX7_end yX7_end, .code yX7_end cX7_end 3 (some .boolean), .fieldLink RX7 21 "BuoyTender$Warnings" "cancelledOn" "[I", .methodLink RX7 32 yX7_has, .instanceMethod yX7_has, .selects RX7 yX7_has yX7_has, .code yX7_has cX7_has 2 (some .boolean), .fieldLink RX7 24 "BuoyTender$Warnings" "count" "I"] ++ wsX80 ++ wsX70)
def wsX8_list : List Cond := .code yX8_list cX8_list 2 (some .int) :: ([.fieldLink RX8 113 "BuoyTender" "today" "I", .fieldLink RX8 25 "BuoyTender" "warnings" "LBuoyTender$Warnings;", .methodLink RX8 54 yX8_within, .static yX8_within, .initialized RX8, .code yX8_within cX8_within 3 (some .boolean), .instanceMethod yX7_countOn, .initialized RX7, .selects RX7 yX7_countOn yX7_countOn, .code yX7_countOn cX7_countOn 4 (some .int), .fieldLink RX7 24 "BuoyTender$Warnings" "count" "I", .methodLink RX7 36 yX7_isOutOn, .instanceMethod yX7_isOutOn, .selects RX7 yX7_isOutOn yX7_isOutOn, .code yX7_isOutOn cX7_isOutOn 3 (some .boolean), .fieldLink RX7 18 "BuoyTender$Warnings" "toldOn" "[I", .fieldLink RX7 21 "BuoyTender$Warnings" "cancelledOn" "[I"] ++ wsX80 ++ wsX70)
def wsX8_listed : List Cond := .code yX8_listed cX8_listed 3 (some .int) :: ([.fieldLink RX8 113 "BuoyTender" "today" "I", .fieldLink RX8 25 "BuoyTender" "warnings" "LBuoyTender$Warnings;", .methodLink RX8 54 yX8_within, .static yX8_within, .initialized RX8, .code yX8_within cX8_within 3 (some .boolean), .instanceMethod yX7_numberOn, .initialized RX7, .selects RX7 yX7_numberOn yX7_numberOn, .code yX7_numberOn cX7_numberOn 5 (some .int), .fieldLink RX7 24 "BuoyTender$Warnings" "count" "I", .methodLink RX7 36 yX7_isOutOn, .instanceMethod yX7_isOutOn, .selects RX7 yX7_isOutOn yX7_isOutOn, .code yX7_isOutOn cX7_isOutOn 3 (some .boolean), .fieldLink RX7 18 "BuoyTender$Warnings" "toldOn" "[I", .fieldLink RX7 21 "BuoyTender$Warnings" "cancelledOn" "[I"] ++ wsX80 ++ wsX70)
def wsX8_warning : List Cond := .code yX8_warning cX8_warning 3 (some .int) :: ([.fieldLink RX8 25 "BuoyTender" "warnings" "LBuoyTender$Warnings;", .instanceMethod yX7_has, .initialized RX7, .selects RX7 yX7_has yX7_has, .code yX7_has cX7_has 2 (some .boolean), .fieldLink RX7 24 "BuoyTender$Warnings" "count" "I"] ++ wsX80 ++ wsX70)
def wsX8_job : List Cond := .code yX8_job cX8_job 6 (some .boolean) :: ([.fieldLink RX8 58 "BuoyTender" "planned" "Z", .methodLink RX8 69 yX8_known, .instanceMethod yX8_known, .selects RX8 yX8_known yX8_known, .initialized RX8, .code yX8_known cX8_known 2 (some (.object "BuoyTender$Mark")), .fieldLink RX8 62 "BuoyTender" "markCount" "I", .fieldLink RX8 15 "BuoyTender" "marks" "[LBuoyTender$Mark;", .methodLink RX8 54 yX8_within, .static yX8_within, .code yX8_within cX8_within 3 (some .boolean)] ++ wsX10 ++ wsX80)
def wsX8_weather : List Cond := .code yX8_weather cX8_weather 4 (some .boolean) :: ([.fieldLink RX8 32 "BuoyTender" "vessel" "LBuoyTender$Ship;", .fieldLink RX8 58 "BuoyTender" "planned" "Z", .methodLink RX8 54 yX8_within, .static yX8_within, .initialized RX8, .code yX8_within cX8_within 3 (some .boolean)] ++ wsX80 ++ wsX40)
def wsX8_ship : List Cond := .code yX8_ship cX8_ship 5 (some .boolean) :: ([.fieldLink RX8 32 "BuoyTender" "vessel" "LBuoyTender$Ship;", .fieldLink RX8 58 "BuoyTender" "planned" "Z", .methodLink RX8 54 yX8_within, .static yX8_within, .initialized RX8, .code yX8_within cX8_within 3 (some .boolean)] ++ wsX80 ++ wsX40)
def wsX8_at : List Cond := .code yX8_at cX8_at 5 (some .boolean) :: ([.fieldLink RX8 32 "BuoyTender" "vessel" "LBuoyTender$Ship;", .fieldLink RX8 58 "BuoyTender" "planned" "Z", .methodLink RX8 50 yX8_isPlace, .static yX8_isPlace, .initialized RX8, .code yX8_isPlace cX8_isPlace 2 (some .boolean), .methodLink RX8 54 yX8_within, .static yX8_within, .code yX8_within cX8_within 3 (some .boolean)] ++ wsX80 ++ wsX40)
def wsX8_round_r1 : List Cond := [Cond.fieldLink RX8 245 "BuoyTender" "planner" "LBuoyTender$Planner;", Cond.classLink RX8 249 RX2, Cond.instantiable RX2 16, Cond.initialized RX2, Cond.fieldLink RX8 58 "BuoyTender" "planned" "Z", Cond.fieldLink RX8 15 "BuoyTender" "marks" "[LBuoyTender$Mark;", Cond.fieldLink RX8 9 "BuoyTender" "depths" "[I", Cond.fieldLink RX8 32 "BuoyTender" "vessel" "LBuoyTender$Ship;", Cond.instanceMethod yX2_init, Cond.code yX2_init cX2_init 1 none, Cond.methodLink RX2 3 objectInit, Cond.instanceMethod objectInit, Cond.code objectInit ⟨#[0xb1]⟩ 1 none, Cond.arrayClass .int, Cond.fieldLink RX2 9 "BuoyTender$Planner" "numbers" "[I", Cond.fieldLink RX2 15 "BuoyTender$Planner" "minutes" "[I", Cond.fieldLink RX2 18 "BuoyTender$Planner" "loads" "[I", Cond.fieldLink RX2 21 "BuoyTender$Planner" "weights" "[I", Cond.fieldLink RX2 24 "BuoyTender$Planner" "ways" "[I", Cond.fieldLink RX2 27 "BuoyTender$Planner" "opensIn" "[I", Cond.fieldLink RX2 30 "BuoyTender$Planner" "openedIn" "[I", Cond.fieldLink RX2 33 "BuoyTender$Planner" "ends" "[I", Cond.fieldLink RX2 36 "BuoyTender$Planner" "backs" "[I", Cond.fieldLink RX2 39 "BuoyTender$Planner" "tried" "[I"]
def wsX8_round_r2 : List Cond := [Cond.fieldLink RX2 42 "BuoyTender$Planner" "order" "[I", Cond.fieldLink RX2 45 "BuoyTender$Planner" "begins" "[I", Cond.instanceMethod yX2_plan, Cond.selects RX2 yX2_plan yX2_plan, Cond.code yX2_plan cX2_plan 4 none, Cond.methodLink RX2 48 yX2_gather, Cond.instanceMethod yX2_gather, Cond.selects RX2 yX2_gather yX2_gather, Cond.code yX2_gather cX2_gather 7 none, Cond.fieldLink RX2 76 "BuoyTender$Planner" "count" "I", Cond.methodLink RX2 95 yX2_openHours, Cond.instanceMethod yX2_openHours, Cond.selects RX2 yX2_openHours yX2_openHours, Cond.code yX2_openHours cX2_openHours 7 none, Cond.instanceMethod yX4_mayBegin, Cond.initialized RX4, Cond.selects RX4 yX4_mayBegin yX4_mayBegin, Cond.code yX4_mayBegin cX4_mayBegin 3 (some .boolean), Cond.fieldLink RX4 9 "BuoyTender$Ship" "tides" "[I", Cond.fieldLink RX4 28 "BuoyTender$Ship" "draught" "I", Cond.fieldLink RX4 15 "BuoyTender$Ship" "winds" "[I", Cond.fieldLink RX4 25 "BuoyTender$Ship" "mostWind" "I", Cond.methodLink RX2 52 yX2_measure, Cond.instanceMethod yX2_measure]
def wsX8_round_r3 : List Cond := [Cond.selects RX2 yX2_measure yX2_measure, Cond.code yX2_measure cX2_measure 7 none, Cond.methodLink RX2 105 yX2_markOfJob, Cond.instanceMethod yX2_markOfJob, Cond.selects RX2 yX2_markOfJob yX2_markOfJob, Cond.code yX2_markOfJob cX2_markOfJob 4 (some (.object "BuoyTender$Mark")), Cond.methodLink RX2 109 yX2_way, Cond.static yX2_way, Cond.code yX2_way cX2_way 4 (some .int), Cond.methodLink RX2 115 Lib.Math.abs.name, Cond.static Lib.Math.abs.name, Cond.initialized "java/lang/Math", Cond.code Lib.Math.abs.name Lib.Math.abs.code 1 (some .int), Cond.methodLink RX2 121 Lib.Math.max.name, Cond.static Lib.Math.max.name, Cond.code Lib.Math.max.name Lib.Math.max.code 2 (some .int), Cond.methodLink RX2 56 yX2_findEarliestEnds, Cond.instanceMethod yX2_findEarliestEnds, Cond.selects RX2 yX2_findEarliestEnds yX2_findEarliestEnds, Cond.code yX2_findEarliestEnds cX2_findEarliestEnds 7 none, Cond.constant RX2 131 (1000000), Cond.methodLink RX2 133 Lib.Math.min.name, Cond.static Lib.Math.min.name, Cond.code Lib.Math.min.name Lib.Math.min.code 2 (some .int)]
def wsX8_round_r4 : List Cond := [Cond.methodLink RX2 139 yX2_sumOver, Cond.instanceMethod yX2_sumOver, Cond.selects RX2 yX2_sumOver yX2_sumOver, Cond.code yX2_sumOver cX2_sumOver 5 (some .int), Cond.methodLink RX2 128 yX2_isIn, Cond.static yX2_isIn, Cond.code yX2_isIn cX2_isIn 2 (some .boolean), Cond.methodLink RX2 146 yX2_earliestEnd, Cond.instanceMethod yX2_earliestEnd, Cond.selects RX2 yX2_earliestEnd yX2_earliestEnd, Cond.code yX2_earliestEnd cX2_earliestEnd 7 (some .int), Cond.methodLink RX2 153 yX2_without, Cond.static yX2_without, Cond.code yX2_without cX2_without 2 (some .int), Cond.methodLink RX2 156 yX2_beginFrom, Cond.instanceMethod yX2_beginFrom, Cond.selects RX2 yX2_beginFrom yX2_beginFrom, Cond.code yX2_beginFrom cX2_beginFrom 5 (some .int), Cond.methodLink RX2 60 yX2_chooseBest, Cond.instanceMethod yX2_chooseBest, Cond.selects RX2 yX2_chooseBest yX2_chooseBest, Cond.code yX2_chooseBest cX2_chooseBest 3 none, Cond.fieldLink RX2 159 "BuoyTender$Planner" "bestWeight" "I", Cond.fieldLink RX2 162 "BuoyTender$Planner" "bestBack" "I"]
def wsX8_round_r5 : List Cond := [Cond.methodLink RX2 63 yX2_findLatestEnds, Cond.instanceMethod yX2_findLatestEnds, Cond.selects RX2 yX2_findLatestEnds yX2_findLatestEnds, Cond.code yX2_findLatestEnds cX2_findLatestEnds 3 none, Cond.constant RX2 132 (-1000000), Cond.methodLink RX2 165 yX2_latestEnd, Cond.instanceMethod yX2_latestEnd, Cond.selects RX2 yX2_latestEnd yX2_latestEnd, Cond.code yX2_latestEnd cX2_latestEnd 6 (some .int), Cond.methodLink RX2 168 yX2_beginUpTo, Cond.instanceMethod yX2_beginUpTo, Cond.selects RX2 yX2_beginUpTo yX2_beginUpTo, Cond.code yX2_beginUpTo cX2_beginUpTo 6 (some .int), Cond.methodLink RX2 66 yX2_chooseOrder, Cond.instanceMethod yX2_chooseOrder, Cond.selects RX2 yX2_chooseOrder yX2_chooseOrder, Cond.code yX2_chooseOrder cX2_chooseOrder 4 none, Cond.fieldLink RX2 72 "BuoyTender$Planner" "length" "I", Cond.methodLink RX2 179 arraycopyName, Cond.native arraycopyName, Cond.static arraycopyName, Cond.initialized "java/lang/System", Cond.methodLink RX2 171 yX2_tryFirstOrder, Cond.instanceMethod yX2_tryFirstOrder]
def wsX8_round_r6 : List Cond := [Cond.selects RX2 yX2_tryFirstOrder yX2_tryFirstOrder, Cond.code yX2_tryFirstOrder cX2_tryFirstOrder 9 (some .int), Cond.methodLink RX2 185 yX2_lowestNext, Cond.instanceMethod yX2_lowestNext, Cond.selects RX2 yX2_lowestNext yX2_lowestNext, Cond.code yX2_lowestNext cX2_lowestNext 6 (some .int), Cond.methodLink RX2 175 yX2_isTriedFirst, Cond.instanceMethod yX2_isTriedFirst, Cond.selects RX2 yX2_isTriedFirst yX2_isTriedFirst, Cond.code yX2_isTriedFirst cX2_isTriedFirst 3 (some .boolean), Cond.methodLink RX2 69 yX2_timeOrder, Cond.instanceMethod yX2_timeOrder, Cond.selects RX2 yX2_timeOrder yX2_timeOrder, Cond.code yX2_timeOrder cX2_timeOrder 6 none, Cond.instanceMethod yX2_loadDone, Cond.selects RX2 yX2_loadDone yX2_loadDone, Cond.code yX2_loadDone cX2_loadDone 3 (some .int), Cond.instanceMethod yX2_step, Cond.selects RX2 yX2_step yX2_step, Cond.code yX2_step cX2_step 2 (some .int)]
def wsX8_round : List Cond := .code yX8_round cX8_round 2 (some .int) :: ((wsX8_round_r1 ++ (wsX8_round_r2 ++ (wsX8_round_r3 ++ (wsX8_round_r4 ++ (wsX8_round_r5 ++ wsX8_round_r6))))) ++ wsX80 ++ wsX20 ++ wsX10 ++ wsX40)
def wsX8_jobCount : List Cond := .code yX8_jobCount cX8_jobCount 4 (some .int) :: ([.fieldLink RX8 62 "BuoyTender" "markCount" "I", .methodLink RX8 69 yX8_known, .instanceMethod yX8_known, .selects RX8 yX8_known yX8_known, .initialized RX8, .code yX8_known cX8_known 2 (some (.object "BuoyTender$Mark")), .fieldLink RX8 15 "BuoyTender" "marks" "[LBuoyTender$Mark;"] ++ wsX80 ++ wsX10)
def wsX8_about : List Cond := .code yX8_about cX8_about 2 (some .int) :: ([.fieldLink RX8 62 "BuoyTender" "markCount" "I", .fieldLink RX8 113 "BuoyTender" "today" "I", .fieldLink RX8 25 "BuoyTender" "warnings" "LBuoyTender$Warnings;", .fieldLink RX8 171 "BuoyTender" "nearness" "I", .fieldLink RX8 32 "BuoyTender" "vessel" "LBuoyTender$Ship;", .methodLink RX8 274 yX8_jobCount, .instanceMethod yX8_jobCount, .selects RX8 yX8_jobCount yX8_jobCount, .initialized RX8, .code yX8_jobCount cX8_jobCount 4 (some .int), .methodLink RX8 69 yX8_known, .instanceMethod yX8_known, .selects RX8 yX8_known yX8_known, .code yX8_known cX8_known 2 (some (.object "BuoyTender$Mark")), .fieldLink RX8 15 "BuoyTender" "marks" "[LBuoyTender$Mark;"] ++ wsX80 ++ wsX70 ++ wsX40 ++ wsX10)
def wsX9_init_r1 : List Cond := [Cond.methodLink RX9 1 objectInit, Cond.instanceMethod objectInit, Cond.code objectInit ⟨#[0xb1]⟩ 1 none, Cond.arrayClass .int, Cond.fieldLink RX9 7 "BuoyTenderModel" "depth" "[I", Cond.fieldLink RX9 13 "BuoyTenderModel" "stationX" "[I", Cond.fieldLink RX9 16 "BuoyTenderModel" "stationY" "[I", Cond.fieldLink RX9 19 "BuoyTenderModel" "radius" "[I", Cond.arrayClass .boolean, Cond.fieldLink RX9 22 "BuoyTenderModel" "isOut" "[Z", Cond.fieldLink RX9 26 "BuoyTenderModel" "isSighted" "[Z", Cond.fieldLink RX9 29 "BuoyTenderModel" "chainMonth" "[I", Cond.fieldLink RX9 32 "BuoyTenderModel" "thickness" "[I", Cond.fieldLink RX9 35 "BuoyTenderModel" "least" "[I", Cond.fieldLink RX9 38 "BuoyTenderModel" "ground" "[I", Cond.fieldLink RX9 41 "BuoyTenderModel" "wear" "[I", Cond.fieldLink RX9 44 "BuoyTenderModel" "steps" "[I", Cond.fieldLink RX9 47 "BuoyTenderModel" "rhythm" "[I", Cond.fieldLink RX9 50 "BuoyTenderModel" "warnMark" "[I", Cond.fieldLink RX9 53 "BuoyTenderModel" "warnKind" "[I", Cond.fieldLink RX9 56 "BuoyTenderModel" "warnFrom" "[I", Cond.fieldLink RX9 59 "BuoyTenderModel" "warnTo" "[I", Cond.fieldLink RX9 62 "BuoyTenderModel" "minutes" "[I", Cond.fieldLink RX9 65 "BuoyTenderModel" "load" "[I"]
def wsX9_init_r2 : List Cond := [Cond.fieldLink RX9 68 "BuoyTenderModel" "weight" "[I", Cond.fieldLink RX9 71 "BuoyTenderModel" "tide" "[I", Cond.fieldLink RX9 74 "BuoyTenderModel" "wind" "[I", Cond.fieldLink RX9 77 "BuoyTenderModel" "pace" "I", Cond.fieldLink RX9 81 "BuoyTenderModel" "mostWind" "I", Cond.fieldLink RX9 84 "BuoyTenderModel" "last" "I", Cond.fieldLink RX9 87 "BuoyTenderModel" "hadSteps" "[I", Cond.fieldLink RX9 90 "BuoyTenderModel" "earliest" "[I", Cond.fieldLink RX9 93 "BuoyTenderModel" "row" "[I", Cond.fieldLink RX9 96 "BuoyTenderModel" "rowBegin" "[I", Cond.fieldLink RX9 99 "BuoyTenderModel" "loadOf" "[I", Cond.fieldLink RX9 102 "BuoyTenderModel" "weightOf" "[I"]
def wsX9_init : List Cond := .code yX9_init cX9_init 1 none :: ((wsX9_init_r1 ++ wsX9_init_r2) ++ wsX90)
def wsX9_in : List Cond := .code yX9_in cX9_in 3 (some .boolean) :: ([])
def wsX9_isPlace : List Cond := .code yX9_isPlace cX9_isPlace 2 (some .boolean) :: ([.methodLink RX9 105 yX9_in, .static yX9_in, .initialized RX9, .code yX9_in cX9_in 3 (some .boolean)])
def wsX9_isMark : List Cond := .code yX9_isMark cX9_isMark 2 (some .boolean) :: ([.fieldLink RX9 109 "BuoyTenderModel" "marks" "I", .methodLink RX9 105 yX9_in, .static yX9_in, .initialized RX9, .code yX9_in cX9_in 3 (some .boolean)] ++ wsX90)
def wsX9_depth : List Cond := .code yX9_depth cX9_depth 8 (some .boolean) :: ([.fieldLink RX9 7 "BuoyTenderModel" "depth" "[I", .fieldLink RX9 116 "BuoyTenderModel" "isKnown" "Z", .methodLink RX9 112 yX9_isPlace, .static yX9_isPlace, .initialized RX9, .code yX9_isPlace cX9_isPlace 2 (some .boolean), .methodLink RX9 105 yX9_in, .static yX9_in, .code yX9_in cX9_in 3 (some .boolean)] ++ wsX90)
def wsX9_mark : List Cond := .code yX9_mark cX9_mark 4 (some .int) :: ([.fieldLink RX9 109 "BuoyTenderModel" "marks" "I", .fieldLink RX9 13 "BuoyTenderModel" "stationX" "[I", .fieldLink RX9 16 "BuoyTenderModel" "stationY" "[I", .fieldLink RX9 19 "BuoyTenderModel" "radius" "[I", .fieldLink RX9 116 "BuoyTenderModel" "isKnown" "Z", .methodLink RX9 112 yX9_isPlace, .static yX9_isPlace, .initialized RX9, .code yX9_isPlace cX9_isPlace 2 (some .boolean), .methodLink RX9 105 yX9_in, .static yX9_in, .code yX9_in cX9_in 3 (some .boolean)] ++ wsX90)
def wsX9_sight : List Cond := .code yX9_sight cX9_sight 3 (some .boolean) :: ([.fieldLink RX9 22 "BuoyTenderModel" "isOut" "[Z", .fieldLink RX9 26 "BuoyTenderModel" "isSighted" "[Z", .methodLink RX9 120 yX9_isMark, .instanceMethod yX9_isMark, .selects RX9 yX9_isMark yX9_isMark, .initialized RX9, .code yX9_isMark cX9_isMark 2 (some .boolean), .fieldLink RX9 109 "BuoyTenderModel" "marks" "I", .methodLink RX9 105 yX9_in, .static yX9_in, .code yX9_in cX9_in 3 (some .boolean)] ++ wsX90)
def wsX9_isWay : List Cond := .code yX9_isWay cX9_isWay 2 (some .boolean) :: ([.methodLink RX9 105 yX9_in, .static yX9_in, .initialized RX9, .code yX9_in cX9_in 3 (some .boolean)])
def wsX9_bearing : List Cond := .code yX9_bearing cX9_bearing 10 (some .boolean) :: ([.fieldLink RX9 13 "BuoyTenderModel" "stationX" "[I", .fieldLink RX9 16 "BuoyTenderModel" "stationY" "[I", .fieldLink RX9 22 "BuoyTenderModel" "isOut" "[Z", .fieldLink RX9 26 "BuoyTenderModel" "isSighted" "[Z", .methodLink RX9 120 yX9_isMark, .instanceMethod yX9_isMark, .selects RX9 yX9_isMark yX9_isMark, .initialized RX9, .code yX9_isMark cX9_isMark 2 (some .boolean), .fieldLink RX9 109 "BuoyTenderModel" "marks" "I", .methodLink RX9 105 yX9_in, .static yX9_in, .code yX9_in cX9_in 3 (some .boolean), .methodLink RX9 124 yX9_isWay, .static yX9_isWay, .code yX9_isWay cX9_isWay 2 (some .boolean)] ++ wsX90)
def wsX9_sounding : List Cond := .code yX9_sounding cX9_sounding 5 (some .boolean) :: ([.fieldLink RX9 22 "BuoyTenderModel" "isOut" "[Z", .fieldLink RX9 7 "BuoyTenderModel" "depth" "[I", .fieldLink RX9 26 "BuoyTenderModel" "isSighted" "[Z", .methodLink RX9 120 yX9_isMark, .instanceMethod yX9_isMark, .selects RX9 yX9_isMark yX9_isMark, .initialized RX9, .code yX9_isMark cX9_isMark 2 (some .boolean), .fieldLink RX9 109 "BuoyTenderModel" "marks" "I", .methodLink RX9 105 yX9_in, .static yX9_in, .code yX9_in cX9_in 3 (some .boolean)] ++ wsX90)
def wsX9_square : List Cond := .code yX9_square cX9_square 2 (some .int) :: ([])
def wsX9_lies : List Cond := .code yX9_lies cX9_lies 12 (some .int) :: ([.fieldLink RX9 22 "BuoyTenderModel" "isOut" "[Z", .fieldLink RX9 13 "BuoyTenderModel" "stationX" "[I", .fieldLink RX9 16 "BuoyTenderModel" "stationY" "[I", .fieldLink RX9 19 "BuoyTenderModel" "radius" "[I", .fieldLink RX9 26 "BuoyTenderModel" "isSighted" "[Z", .methodLink RX9 120 yX9_isMark, .instanceMethod yX9_isMark, .selects RX9 yX9_isMark yX9_isMark, .initialized RX9, .code yX9_isMark cX9_isMark 2 (some .boolean), .fieldLink RX9 109 "BuoyTenderModel" "marks" "I", .methodLink RX9 105 yX9_in, .static yX9_in, .code yX9_in cX9_in 3 (some .boolean), .methodLink RX9 127 yX9_square, .static yX9_square, .code yX9_square cX9_square 2 (some .int)] ++ wsX90)
def wsX9_day : List Cond := .code yX9_day cX9_day 2 (some .boolean) :: ([.fieldLink RX9 131 "BuoyTenderModel" "clock" "I", .methodLink RX9 105 yX9_in, .static yX9_in, .initialized RX9, .code yX9_in cX9_in 3 (some .boolean)] ++ wsX90)
def wsX9_chain : List Cond := .code yX9_chain cX9_chain 5 (some .boolean) :: ([.fieldLink RX9 29 "BuoyTenderModel" "chainMonth" "[I", .fieldLink RX9 131 "BuoyTenderModel" "clock" "I", .fieldLink RX9 32 "BuoyTenderModel" "thickness" "[I", .fieldLink RX9 35 "BuoyTenderModel" "least" "[I", .fieldLink RX9 38 "BuoyTenderModel" "ground" "[I", .methodLink RX9 120 yX9_isMark, .instanceMethod yX9_isMark, .selects RX9 yX9_isMark yX9_isMark, .initialized RX9, .code yX9_isMark cX9_isMark 2 (some .boolean), .fieldLink RX9 109 "BuoyTenderModel" "marks" "I", .methodLink RX9 105 yX9_in, .static yX9_in, .code yX9_in cX9_in 3 (some .boolean)] ++ wsX90)
def wsX9_wear : List Cond := .code yX9_wear cX9_wear 4 (some .boolean) :: ([.fieldLink RX9 41 "BuoyTenderModel" "wear" "[I", .methodLink RX9 105 yX9_in, .static yX9_in, .initialized RX9, .code yX9_in cX9_in 3 (some .boolean)] ++ wsX90)
def wsX9_chainOf : List Cond := .code yX9_chainOf cX9_chainOf 7 (some .int) :: ([.fieldLink RX9 29 "BuoyTenderModel" "chainMonth" "[I", .fieldLink RX9 32 "BuoyTenderModel" "thickness" "[I", .fieldLink RX9 41 "BuoyTenderModel" "wear" "[I", .fieldLink RX9 38 "BuoyTenderModel" "ground" "[I", .fieldLink RX9 35 "BuoyTenderModel" "least" "[I", .fieldLink RX9 131 "BuoyTenderModel" "clock" "I", .methodLink RX9 120 yX9_isMark, .instanceMethod yX9_isMark, .selects RX9 yX9_isMark yX9_isMark, .initialized RX9, .code yX9_isMark cX9_isMark 2 (some .boolean), .fieldLink RX9 109 "BuoyTenderModel" "marks" "I", .methodLink RX9 105 yX9_in, .static yX9_in, .code yX9_in cX9_in 3 (some .boolean)] ++ wsX90)
def wsX9_isAlike : List Cond := .code yX9_isAlike cX9_isAlike 7 (some .boolean) :: ([.fieldLink RX9 44 "BuoyTenderModel" "steps" "[I", .fieldLink RX9 47 "BuoyTenderModel" "rhythm" "[I"] ++ wsX90)
def wsX9_isNear : List Cond := .code yX9_isNear cX9_isNear 4 (some .boolean) :: ([.fieldLink RX9 13 "BuoyTenderModel" "stationX" "[I", .fieldLink RX9 16 "BuoyTenderModel" "stationY" "[I", .methodLink RX9 127 yX9_square, .static yX9_square, .initialized RX9, .code yX9_square cX9_square 2 (some .int)] ++ wsX90)
def wsX9_clashes : List Cond := .code yX9_clashes cX9_clashes 5 (some .boolean) :: ([.fieldLink RX9 109 "BuoyTenderModel" "marks" "I", .methodLink RX9 134 yX9_isNear, .instanceMethod yX9_isNear, .selects RX9 yX9_isNear yX9_isNear, .initialized RX9, .code yX9_isNear cX9_isNear 4 (some .boolean), .fieldLink RX9 13 "BuoyTenderModel" "stationX" "[I", .fieldLink RX9 16 "BuoyTenderModel" "stationY" "[I", .methodLink RX9 127 yX9_square, .static yX9_square, .code yX9_square cX9_square 2 (some .int), .methodLink RX9 137 yX9_isAlike, .instanceMethod yX9_isAlike, .selects RX9 yX9_isAlike yX9_isAlike, .code yX9_isAlike cX9_isAlike 7 (some .boolean), .fieldLink RX9 44 "BuoyTenderModel" "steps" "[I", .fieldLink RX9 47 "BuoyTenderModel" "rhythm" "[I"] ++ wsX90)
def wsX9_light_r1 : List Cond := [Cond.fieldLink RX9 44 "BuoyTenderModel" "steps" "[I", Cond.fieldLink RX9 87 "BuoyTenderModel" "hadSteps" "[I", Cond.fieldLink RX9 47 "BuoyTenderModel" "rhythm" "[I", Cond.fieldLink RX9 140 "BuoyTenderModel" "nearness" "I", Cond.methodLink RX9 120 yX9_isMark, Cond.instanceMethod yX9_isMark, Cond.selects RX9 yX9_isMark yX9_isMark, Cond.initialized RX9, Cond.code yX9_isMark cX9_isMark 2 (some .boolean), Cond.fieldLink RX9 109 "BuoyTenderModel" "marks" "I", Cond.methodLink RX9 105 yX9_in, Cond.static yX9_in, Cond.code yX9_in cX9_in 3 (some .boolean), Cond.methodLink RX9 143 yX9_clashes, Cond.instanceMethod yX9_clashes, Cond.selects RX9 yX9_clashes yX9_clashes, Cond.code yX9_clashes cX9_clashes 5 (some .boolean), Cond.methodLink RX9 134 yX9_isNear, Cond.instanceMethod yX9_isNear, Cond.selects RX9 yX9_isNear yX9_isNear, Cond.code yX9_isNear cX9_isNear 4 (some .boolean), Cond.fieldLink RX9 13 "BuoyTenderModel" "stationX" "[I", Cond.fieldLink RX9 16 "BuoyTenderModel" "stationY" "[I", Cond.methodLink RX9 127 yX9_square]
def wsX9_light_r2 : List Cond := [Cond.static yX9_square, Cond.code yX9_square cX9_square 2 (some .int), Cond.methodLink RX9 137 yX9_isAlike, Cond.instanceMethod yX9_isAlike, Cond.selects RX9 yX9_isAlike yX9_isAlike, Cond.code yX9_isAlike cX9_isAlike 7 (some .boolean)]
def wsX9_light : List Cond := .code yX9_light cX9_light 8 (some .boolean) :: ((wsX9_light_r1 ++ wsX9_light_r2) ++ wsX90)
def wsX9_near_r1 : List Cond := [Cond.fieldLink RX9 109 "BuoyTenderModel" "marks" "I", Cond.fieldLink RX9 140 "BuoyTenderModel" "nearness" "I", Cond.methodLink RX9 105 yX9_in, Cond.static yX9_in, Cond.initialized RX9, Cond.code yX9_in cX9_in 3 (some .boolean), Cond.methodLink RX9 143 yX9_clashes, Cond.instanceMethod yX9_clashes, Cond.selects RX9 yX9_clashes yX9_clashes, Cond.code yX9_clashes cX9_clashes 5 (some .boolean), Cond.methodLink RX9 134 yX9_isNear, Cond.instanceMethod yX9_isNear, Cond.selects RX9 yX9_isNear yX9_isNear, Cond.code yX9_isNear cX9_isNear 4 (some .boolean), Cond.fieldLink RX9 13 "BuoyTenderModel" "stationX" "[I", Cond.fieldLink RX9 16 "BuoyTenderModel" "stationY" "[I", Cond.methodLink RX9 127 yX9_square, Cond.static yX9_square, Cond.code yX9_square cX9_square 2 (some .int), Cond.methodLink RX9 137 yX9_isAlike, Cond.instanceMethod yX9_isAlike, Cond.selects RX9 yX9_isAlike yX9_isAlike, Cond.code yX9_isAlike cX9_isAlike 7 (some .boolean), Cond.fieldLink RX9 44 "BuoyTenderModel" "steps" "[I"]
def wsX9_near_r2 : List Cond := [Cond.fieldLink RX9 47 "BuoyTenderModel" "rhythm" "[I"]
def wsX9_near : List Cond := .code yX9_near cX9_near 3 (some .boolean) :: ((wsX9_near_r1 ++ wsX9_near_r2) ++ wsX90)
def wsX9_alike : List Cond := .code yX9_alike cX9_alike 3 (some .int) :: ([.fieldLink RX9 44 "BuoyTenderModel" "steps" "[I", .methodLink RX9 120 yX9_isMark, .instanceMethod yX9_isMark, .selects RX9 yX9_isMark yX9_isMark, .initialized RX9, .code yX9_isMark cX9_isMark 2 (some .boolean), .fieldLink RX9 109 "BuoyTenderModel" "marks" "I", .methodLink RX9 105 yX9_in, .static yX9_in, .code yX9_in cX9_in 3 (some .boolean), .methodLink RX9 137 yX9_isAlike, .instanceMethod yX9_isAlike, .selects RX9 yX9_isAlike yX9_isAlike, .code yX9_isAlike cX9_isAlike 7 (some .boolean), .fieldLink RX9 47 "BuoyTenderModel" "rhythm" "[I"] ++ wsX90)
def wsX9_warn : List Cond := .code yX9_warn cX9_warn 4 (some .int) :: ([.fieldLink RX9 146 "BuoyTenderModel" "warnings" "I", .fieldLink RX9 50 "BuoyTenderModel" "warnMark" "[I", .fieldLink RX9 53 "BuoyTenderModel" "warnKind" "[I", .fieldLink RX9 59 "BuoyTenderModel" "warnTo" "[I", .fieldLink RX9 56 "BuoyTenderModel" "warnFrom" "[I", .fieldLink RX9 131 "BuoyTenderModel" "clock" "I", .methodLink RX9 120 yX9_isMark, .instanceMethod yX9_isMark, .selects RX9 yX9_isMark yX9_isMark, .initialized RX9, .code yX9_isMark cX9_isMark 2 (some .boolean), .fieldLink RX9 109 "BuoyTenderModel" "marks" "I", .methodLink RX9 105 yX9_in, .static yX9_in, .code yX9_in cX9_in 3 (some .boolean)] ++ wsX90)
def wsX9_cancel : List Cond := .code yX9_cancel cX9_cancel 2 (some .boolean) :: ([.fieldLink RX9 146 "BuoyTenderModel" "warnings" "I", .fieldLink RX9 59 "BuoyTenderModel" "warnTo" "[I", .fieldLink RX9 131 "BuoyTenderModel" "clock" "I", .methodLink RX9 105 yX9_in, .static yX9_in, .initialized RX9, .code yX9_in cX9_in 3 (some .boolean)] ++ wsX90)
def wsX9_isForce : List Cond := .code yX9_isForce cX9_isForce 3 (some .boolean) :: ([.fieldLink RX9 56 "BuoyTenderModel" "warnFrom" "[I", .fieldLink RX9 59 "BuoyTenderModel" "warnTo" "[I"] ++ wsX90)
def wsX9_list : List Cond := .code yX9_list cX9_list 4 (some .int) :: ([.fieldLink RX9 131 "BuoyTenderModel" "clock" "I", .fieldLink RX9 146 "BuoyTenderModel" "warnings" "I", .methodLink RX9 105 yX9_in, .static yX9_in, .initialized RX9, .code yX9_in cX9_in 3 (some .boolean), .methodLink RX9 149 yX9_isForce, .instanceMethod yX9_isForce, .selects RX9 yX9_isForce yX9_isForce, .code yX9_isForce cX9_isForce 3 (some .boolean), .fieldLink RX9 56 "BuoyTenderModel" "warnFrom" "[I", .fieldLink RX9 59 "BuoyTenderModel" "warnTo" "[I"] ++ wsX90)
def wsX9_listed : List Cond := .code yX9_listed cX9_listed 5 (some .int) :: ([.fieldLink RX9 146 "BuoyTenderModel" "warnings" "I", .fieldLink RX9 131 "BuoyTenderModel" "clock" "I", .methodLink RX9 105 yX9_in, .static yX9_in, .initialized RX9, .code yX9_in cX9_in 3 (some .boolean), .methodLink RX9 149 yX9_isForce, .instanceMethod yX9_isForce, .selects RX9 yX9_isForce yX9_isForce, .code yX9_isForce cX9_isForce 3 (some .boolean), .fieldLink RX9 56 "BuoyTenderModel" "warnFrom" "[I", .fieldLink RX9 59 "BuoyTenderModel" "warnTo" "[I"] ++ wsX90)
def wsX9_warning : List Cond := .code yX9_warning cX9_warning 3 (some .int) :: ([.fieldLink RX9 146 "BuoyTenderModel" "warnings" "I", .fieldLink RX9 50 "BuoyTenderModel" "warnMark" "[I", .fieldLink RX9 53 "BuoyTenderModel" "warnKind" "[I", .fieldLink RX9 56 "BuoyTenderModel" "warnFrom" "[I", .fieldLink RX9 59 "BuoyTenderModel" "warnTo" "[I", .methodLink RX9 105 yX9_in, .static yX9_in, .initialized RX9, .code yX9_in cX9_in 3 (some .boolean)] ++ wsX90)
def wsX9_job : List Cond := .code yX9_job cX9_job 5 (some .boolean) :: ([.fieldLink RX9 62 "BuoyTenderModel" "minutes" "[I", .fieldLink RX9 65 "BuoyTenderModel" "load" "[I", .fieldLink RX9 68 "BuoyTenderModel" "weight" "[I", .fieldLink RX9 116 "BuoyTenderModel" "isKnown" "Z", .methodLink RX9 120 yX9_isMark, .instanceMethod yX9_isMark, .selects RX9 yX9_isMark yX9_isMark, .initialized RX9, .code yX9_isMark cX9_isMark 2 (some .boolean), .fieldLink RX9 109 "BuoyTenderModel" "marks" "I", .methodLink RX9 105 yX9_in, .static yX9_in, .code yX9_in cX9_in 3 (some .boolean)] ++ wsX90)
def wsX9_weather : List Cond := .code yX9_weather cX9_weather 4 (some .boolean) :: ([.fieldLink RX9 71 "BuoyTenderModel" "tide" "[I", .fieldLink RX9 74 "BuoyTenderModel" "wind" "[I", .fieldLink RX9 116 "BuoyTenderModel" "isKnown" "Z", .methodLink RX9 105 yX9_in, .static yX9_in, .initialized RX9, .code yX9_in cX9_in 3 (some .boolean)] ++ wsX90)
def wsX9_ship : List Cond := .code yX9_ship cX9_ship 5 (some .boolean) :: ([.fieldLink RX9 77 "BuoyTenderModel" "pace" "I", .fieldLink RX9 152 "BuoyTenderModel" "draught" "I", .fieldLink RX9 81 "BuoyTenderModel" "mostWind" "I", .fieldLink RX9 155 "BuoyTenderModel" "carries" "I", .fieldLink RX9 116 "BuoyTenderModel" "isKnown" "Z", .methodLink RX9 105 yX9_in, .static yX9_in, .initialized RX9, .code yX9_in cX9_in 3 (some .boolean)] ++ wsX90)
def wsX9_at : List Cond := .code yX9_at cX9_at 5 (some .boolean) :: ([.fieldLink RX9 158 "BuoyTenderModel" "shipX" "I", .fieldLink RX9 161 "BuoyTenderModel" "shipY" "I", .fieldLink RX9 164 "BuoyTenderModel" "begin" "I", .fieldLink RX9 84 "BuoyTenderModel" "last" "I", .fieldLink RX9 116 "BuoyTenderModel" "isKnown" "Z", .methodLink RX9 112 yX9_isPlace, .static yX9_isPlace, .initialized RX9, .code yX9_isPlace cX9_isPlace 2 (some .boolean), .methodLink RX9 105 yX9_in, .static yX9_in, .code yX9_in cX9_in 3 (some .boolean)] ++ wsX90)
def wsX9_greater : List Cond := .code yX9_greater cX9_greater 2 (some .int) :: ([])
def wsX9_way : List Cond := .code yX9_way cX9_way 5 (some .int) :: ([.fieldLink RX9 158 "BuoyTenderModel" "shipX" "I", .fieldLink RX9 13 "BuoyTenderModel" "stationX" "[I", .fieldLink RX9 161 "BuoyTenderModel" "shipY" "I", .fieldLink RX9 16 "BuoyTenderModel" "stationY" "[I", .fieldLink RX9 77 "BuoyTenderModel" "pace" "I", .methodLink RX9 167 yX9_greater, .static yX9_greater, .initialized RX9, .code yX9_greater cX9_greater 2 (some .int)] ++ wsX90)
def wsX9_begins : List Cond := .code yX9_begins cX9_begins 5 (some .int) :: ([.fieldLink RX9 7 "BuoyTenderModel" "depth" "[I", .fieldLink RX9 13 "BuoyTenderModel" "stationX" "[I", .fieldLink RX9 16 "BuoyTenderModel" "stationY" "[I", .fieldLink RX9 71 "BuoyTenderModel" "tide" "[I", .fieldLink RX9 152 "BuoyTenderModel" "draught" "I", .fieldLink RX9 74 "BuoyTenderModel" "wind" "[I", .fieldLink RX9 81 "BuoyTenderModel" "mostWind" "I"] ++ wsX90)
def wsX9_sums : List Cond := .code yX9_sums cX9_sums 3 none :: ([.fieldLink RX9 109 "BuoyTenderModel" "marks" "I", .fieldLink RX9 99 "BuoyTenderModel" "loadOf" "[I", .fieldLink RX9 102 "BuoyTenderModel" "weightOf" "[I", .fieldLink RX9 65 "BuoyTenderModel" "load" "[I", .fieldLink RX9 68 "BuoyTenderModel" "weight" "[I"] ++ wsX90)
def wsX9_back : List Cond := .code yX9_back cX9_back 6 none :: ([.fieldLink RX9 102 "BuoyTenderModel" "weightOf" "[I", .fieldLink RX9 84 "BuoyTenderModel" "last" "I", .fieldLink RX9 170 "BuoyTenderModel" "foundWeight" "I", .fieldLink RX9 182 "BuoyTenderModel" "foundBack" "I", .methodLink RX9 179 yX9_way, .instanceMethod yX9_way, .selects RX9 yX9_way yX9_way, .initialized RX9, .code yX9_way cX9_way 5 (some .int), .fieldLink RX9 158 "BuoyTenderModel" "shipX" "I", .fieldLink RX9 13 "BuoyTenderModel" "stationX" "[I", .fieldLink RX9 161 "BuoyTenderModel" "shipY" "I", .fieldLink RX9 16 "BuoyTenderModel" "stationY" "[I", .fieldLink RX9 77 "BuoyTenderModel" "pace" "I", .methodLink RX9 167 yX9_greater, .static yX9_greater, .code yX9_greater cX9_greater 2 (some .int)] ++ wsX90)
def wsX9_does_r1 : List Cond := [Cond.fieldLink RX9 68 "BuoyTenderModel" "weight" "[I", Cond.fieldLink RX9 99 "BuoyTenderModel" "loadOf" "[I", Cond.fieldLink RX9 155 "BuoyTenderModel" "carries" "I", Cond.fieldLink RX9 62 "BuoyTenderModel" "minutes" "[I", Cond.fieldLink RX9 84 "BuoyTenderModel" "last" "I", Cond.methodLink RX9 179 yX9_way, Cond.instanceMethod yX9_way, Cond.selects RX9 yX9_way yX9_way, Cond.initialized RX9, Cond.code yX9_way cX9_way 5 (some .int), Cond.fieldLink RX9 158 "BuoyTenderModel" "shipX" "I", Cond.fieldLink RX9 13 "BuoyTenderModel" "stationX" "[I", Cond.fieldLink RX9 161 "BuoyTenderModel" "shipY" "I", Cond.fieldLink RX9 16 "BuoyTenderModel" "stationY" "[I", Cond.fieldLink RX9 77 "BuoyTenderModel" "pace" "I", Cond.methodLink RX9 167 yX9_greater, Cond.static yX9_greater, Cond.code yX9_greater cX9_greater 2 (some .int), Cond.methodLink RX9 189 yX9_begins, Cond.instanceMethod yX9_begins, Cond.selects RX9 yX9_begins yX9_begins, Cond.code yX9_begins cX9_begins 5 (some .int), Cond.fieldLink RX9 7 "BuoyTenderModel" "depth" "[I", Cond.fieldLink RX9 71 "BuoyTenderModel" "tide" "[I"]
def wsX9_does_r2 : List Cond := [Cond.fieldLink RX9 152 "BuoyTenderModel" "draught" "I", Cond.fieldLink RX9 74 "BuoyTenderModel" "wind" "[I", Cond.fieldLink RX9 81 "BuoyTenderModel" "mostWind" "I"]
def wsX9_does : List Cond := .code yX9_does cX9_does 6 (some .int) :: ((wsX9_does_r1 ++ wsX9_does_r2) ++ wsX90)
def wsX9_steps_r1 : List Cond := [Cond.fieldLink RX9 109 "BuoyTenderModel" "marks" "I", Cond.fieldLink RX9 90 "BuoyTenderModel" "earliest" "[I", Cond.methodLink RX9 185 yX9_does, Cond.instanceMethod yX9_does, Cond.selects RX9 yX9_does yX9_does, Cond.initialized RX9, Cond.code yX9_does cX9_does 6 (some .int), Cond.fieldLink RX9 68 "BuoyTenderModel" "weight" "[I", Cond.fieldLink RX9 99 "BuoyTenderModel" "loadOf" "[I", Cond.fieldLink RX9 155 "BuoyTenderModel" "carries" "I", Cond.fieldLink RX9 62 "BuoyTenderModel" "minutes" "[I", Cond.fieldLink RX9 84 "BuoyTenderModel" "last" "I", Cond.methodLink RX9 179 yX9_way, Cond.instanceMethod yX9_way, Cond.selects RX9 yX9_way yX9_way, Cond.code yX9_way cX9_way 5 (some .int), Cond.fieldLink RX9 158 "BuoyTenderModel" "shipX" "I", Cond.fieldLink RX9 13 "BuoyTenderModel" "stationX" "[I", Cond.fieldLink RX9 161 "BuoyTenderModel" "shipY" "I", Cond.fieldLink RX9 16 "BuoyTenderModel" "stationY" "[I", Cond.fieldLink RX9 77 "BuoyTenderModel" "pace" "I", Cond.methodLink RX9 167 yX9_greater, Cond.static yX9_greater, Cond.code yX9_greater cX9_greater 2 (some .int)]
def wsX9_steps_r2 : List Cond := [Cond.methodLink RX9 189 yX9_begins, Cond.instanceMethod yX9_begins, Cond.selects RX9 yX9_begins yX9_begins, Cond.code yX9_begins cX9_begins 5 (some .int), Cond.fieldLink RX9 7 "BuoyTenderModel" "depth" "[I", Cond.fieldLink RX9 71 "BuoyTenderModel" "tide" "[I", Cond.fieldLink RX9 152 "BuoyTenderModel" "draught" "I", Cond.fieldLink RX9 74 "BuoyTenderModel" "wind" "[I", Cond.fieldLink RX9 81 "BuoyTenderModel" "mostWind" "I"]
def wsX9_steps : List Cond := .code yX9_steps cX9_steps 7 none :: ((wsX9_steps_r1 ++ wsX9_steps_r2) ++ wsX90)
def wsX9_goesOn_r1 : List Cond := [Cond.fieldLink RX9 109 "BuoyTenderModel" "marks" "I", Cond.fieldLink RX9 90 "BuoyTenderModel" "earliest" "[I", Cond.fieldLink RX9 170 "BuoyTenderModel" "foundWeight" "I", Cond.methodLink RX9 173 yX9_back, Cond.instanceMethod yX9_back, Cond.selects RX9 yX9_back yX9_back, Cond.initialized RX9, Cond.code yX9_back cX9_back 6 none, Cond.fieldLink RX9 102 "BuoyTenderModel" "weightOf" "[I", Cond.fieldLink RX9 84 "BuoyTenderModel" "last" "I", Cond.fieldLink RX9 182 "BuoyTenderModel" "foundBack" "I", Cond.methodLink RX9 179 yX9_way, Cond.instanceMethod yX9_way, Cond.selects RX9 yX9_way yX9_way, Cond.code yX9_way cX9_way 5 (some .int), Cond.fieldLink RX9 158 "BuoyTenderModel" "shipX" "I", Cond.fieldLink RX9 13 "BuoyTenderModel" "stationX" "[I", Cond.fieldLink RX9 161 "BuoyTenderModel" "shipY" "I", Cond.fieldLink RX9 16 "BuoyTenderModel" "stationY" "[I", Cond.fieldLink RX9 77 "BuoyTenderModel" "pace" "I", Cond.methodLink RX9 167 yX9_greater, Cond.static yX9_greater, Cond.code yX9_greater cX9_greater 2 (some .int), Cond.methodLink RX9 177 yX9_steps]
def wsX9_goesOn_r2 : List Cond := [Cond.instanceMethod yX9_steps, Cond.selects RX9 yX9_steps yX9_steps, Cond.code yX9_steps cX9_steps 7 none, Cond.methodLink RX9 185 yX9_does, Cond.instanceMethod yX9_does, Cond.selects RX9 yX9_does yX9_does, Cond.code yX9_does cX9_does 6 (some .int), Cond.fieldLink RX9 68 "BuoyTenderModel" "weight" "[I", Cond.fieldLink RX9 99 "BuoyTenderModel" "loadOf" "[I", Cond.fieldLink RX9 155 "BuoyTenderModel" "carries" "I", Cond.fieldLink RX9 62 "BuoyTenderModel" "minutes" "[I", Cond.methodLink RX9 189 yX9_begins, Cond.instanceMethod yX9_begins, Cond.selects RX9 yX9_begins yX9_begins, Cond.code yX9_begins cX9_begins 5 (some .int), Cond.fieldLink RX9 7 "BuoyTenderModel" "depth" "[I", Cond.fieldLink RX9 71 "BuoyTenderModel" "tide" "[I", Cond.fieldLink RX9 152 "BuoyTenderModel" "draught" "I", Cond.fieldLink RX9 74 "BuoyTenderModel" "wind" "[I", Cond.fieldLink RX9 81 "BuoyTenderModel" "mostWind" "I"]
def wsX9_goesOn : List Cond := .code yX9_goesOn cX9_goesOn 8 none :: ((wsX9_goesOn_r1 ++ wsX9_goesOn_r2) ++ wsX90)
def wsX9_rounds_r1 : List Cond := [Cond.fieldLink RX9 116 "BuoyTenderModel" "isKnown" "Z", Cond.fieldLink RX9 195 "BuoyTenderModel" "many" "I", Cond.fieldLink RX9 164 "BuoyTenderModel" "begin" "I", Cond.fieldLink RX9 170 "BuoyTenderModel" "foundWeight" "I", Cond.fieldLink RX9 201 "BuoyTenderModel" "bestWeight" "I", Cond.fieldLink RX9 182 "BuoyTenderModel" "foundBack" "I", Cond.fieldLink RX9 204 "BuoyTenderModel" "bestBack" "I", Cond.fieldLink RX9 102 "BuoyTenderModel" "weightOf" "[I", Cond.fieldLink RX9 93 "BuoyTenderModel" "row" "[I", Cond.fieldLink RX9 96 "BuoyTenderModel" "rowBegin" "[I", Cond.fieldLink RX9 62 "BuoyTenderModel" "minutes" "[I", Cond.methodLink RX9 192 yX9_sums, Cond.instanceMethod yX9_sums, Cond.selects RX9 yX9_sums yX9_sums, Cond.initialized RX9, Cond.code yX9_sums cX9_sums 3 none, Cond.fieldLink RX9 109 "BuoyTenderModel" "marks" "I", Cond.fieldLink RX9 99 "BuoyTenderModel" "loadOf" "[I", Cond.fieldLink RX9 65 "BuoyTenderModel" "load" "[I", Cond.fieldLink RX9 68 "BuoyTenderModel" "weight" "[I", Cond.methodLink RX9 198 yX9_goesOn, Cond.instanceMethod yX9_goesOn, Cond.selects RX9 yX9_goesOn yX9_goesOn, Cond.code yX9_goesOn cX9_goesOn 8 none]
def wsX9_rounds_r2 : List Cond := [Cond.fieldLink RX9 90 "BuoyTenderModel" "earliest" "[I", Cond.methodLink RX9 173 yX9_back, Cond.instanceMethod yX9_back, Cond.selects RX9 yX9_back yX9_back, Cond.code yX9_back cX9_back 6 none, Cond.fieldLink RX9 84 "BuoyTenderModel" "last" "I", Cond.methodLink RX9 179 yX9_way, Cond.instanceMethod yX9_way, Cond.selects RX9 yX9_way yX9_way, Cond.code yX9_way cX9_way 5 (some .int), Cond.fieldLink RX9 158 "BuoyTenderModel" "shipX" "I", Cond.fieldLink RX9 13 "BuoyTenderModel" "stationX" "[I", Cond.fieldLink RX9 161 "BuoyTenderModel" "shipY" "I", Cond.fieldLink RX9 16 "BuoyTenderModel" "stationY" "[I", Cond.fieldLink RX9 77 "BuoyTenderModel" "pace" "I", Cond.methodLink RX9 167 yX9_greater, Cond.static yX9_greater, Cond.code yX9_greater cX9_greater 2 (some .int), Cond.methodLink RX9 177 yX9_steps, Cond.instanceMethod yX9_steps, Cond.selects RX9 yX9_steps yX9_steps, Cond.code yX9_steps cX9_steps 7 none, Cond.methodLink RX9 185 yX9_does, Cond.instanceMethod yX9_does]
def wsX9_rounds_r3 : List Cond := [Cond.selects RX9 yX9_does yX9_does, Cond.code yX9_does cX9_does 6 (some .int), Cond.fieldLink RX9 155 "BuoyTenderModel" "carries" "I", Cond.methodLink RX9 189 yX9_begins, Cond.instanceMethod yX9_begins, Cond.selects RX9 yX9_begins yX9_begins, Cond.code yX9_begins cX9_begins 5 (some .int), Cond.fieldLink RX9 7 "BuoyTenderModel" "depth" "[I", Cond.fieldLink RX9 71 "BuoyTenderModel" "tide" "[I", Cond.fieldLink RX9 152 "BuoyTenderModel" "draught" "I", Cond.fieldLink RX9 74 "BuoyTenderModel" "wind" "[I", Cond.fieldLink RX9 81 "BuoyTenderModel" "mostWind" "I"]
def wsX9_rounds : List Cond := .code yX9_rounds cX9_rounds 7 none :: ((wsX9_rounds_r1 ++ (wsX9_rounds_r2 ++ wsX9_rounds_r3)) ++ wsX90)
def wsX9_round_r1 : List Cond := [Cond.fieldLink RX9 195 "BuoyTenderModel" "many" "I", Cond.fieldLink RX9 65 "BuoyTenderModel" "load" "[I", Cond.fieldLink RX9 93 "BuoyTenderModel" "row" "[I", Cond.fieldLink RX9 201 "BuoyTenderModel" "bestWeight" "I", Cond.fieldLink RX9 204 "BuoyTenderModel" "bestBack" "I", Cond.fieldLink RX9 96 "BuoyTenderModel" "rowBegin" "[I", Cond.methodLink RX9 207 yX9_rounds, Cond.instanceMethod yX9_rounds, Cond.selects RX9 yX9_rounds yX9_rounds, Cond.initialized RX9, Cond.code yX9_rounds cX9_rounds 7 none, Cond.fieldLink RX9 116 "BuoyTenderModel" "isKnown" "Z", Cond.fieldLink RX9 164 "BuoyTenderModel" "begin" "I", Cond.fieldLink RX9 170 "BuoyTenderModel" "foundWeight" "I", Cond.fieldLink RX9 182 "BuoyTenderModel" "foundBack" "I", Cond.fieldLink RX9 102 "BuoyTenderModel" "weightOf" "[I", Cond.fieldLink RX9 62 "BuoyTenderModel" "minutes" "[I", Cond.methodLink RX9 192 yX9_sums, Cond.instanceMethod yX9_sums, Cond.selects RX9 yX9_sums yX9_sums, Cond.code yX9_sums cX9_sums 3 none, Cond.fieldLink RX9 109 "BuoyTenderModel" "marks" "I", Cond.fieldLink RX9 99 "BuoyTenderModel" "loadOf" "[I", Cond.fieldLink RX9 68 "BuoyTenderModel" "weight" "[I"]
def wsX9_round_r2 : List Cond := [Cond.methodLink RX9 198 yX9_goesOn, Cond.instanceMethod yX9_goesOn, Cond.selects RX9 yX9_goesOn yX9_goesOn, Cond.code yX9_goesOn cX9_goesOn 8 none, Cond.fieldLink RX9 90 "BuoyTenderModel" "earliest" "[I", Cond.methodLink RX9 173 yX9_back, Cond.instanceMethod yX9_back, Cond.selects RX9 yX9_back yX9_back, Cond.code yX9_back cX9_back 6 none, Cond.fieldLink RX9 84 "BuoyTenderModel" "last" "I", Cond.methodLink RX9 179 yX9_way, Cond.instanceMethod yX9_way, Cond.selects RX9 yX9_way yX9_way, Cond.code yX9_way cX9_way 5 (some .int), Cond.fieldLink RX9 158 "BuoyTenderModel" "shipX" "I", Cond.fieldLink RX9 13 "BuoyTenderModel" "stationX" "[I", Cond.fieldLink RX9 161 "BuoyTenderModel" "shipY" "I", Cond.fieldLink RX9 16 "BuoyTenderModel" "stationY" "[I", Cond.fieldLink RX9 77 "BuoyTenderModel" "pace" "I", Cond.methodLink RX9 167 yX9_greater, Cond.static yX9_greater, Cond.code yX9_greater cX9_greater 2 (some .int), Cond.methodLink RX9 177 yX9_steps, Cond.instanceMethod yX9_steps]
def wsX9_round_r3 : List Cond := [Cond.selects RX9 yX9_steps yX9_steps, Cond.code yX9_steps cX9_steps 7 none, Cond.methodLink RX9 185 yX9_does, Cond.instanceMethod yX9_does, Cond.selects RX9 yX9_does yX9_does, Cond.code yX9_does cX9_does 6 (some .int), Cond.fieldLink RX9 155 "BuoyTenderModel" "carries" "I", Cond.methodLink RX9 189 yX9_begins, Cond.instanceMethod yX9_begins, Cond.selects RX9 yX9_begins yX9_begins, Cond.code yX9_begins cX9_begins 5 (some .int), Cond.fieldLink RX9 7 "BuoyTenderModel" "depth" "[I", Cond.fieldLink RX9 71 "BuoyTenderModel" "tide" "[I", Cond.fieldLink RX9 152 "BuoyTenderModel" "draught" "I", Cond.fieldLink RX9 74 "BuoyTenderModel" "wind" "[I", Cond.fieldLink RX9 81 "BuoyTenderModel" "mostWind" "I", Cond.methodLink RX9 105 yX9_in, Cond.static yX9_in, Cond.code yX9_in cX9_in 3 (some .boolean)]
def wsX9_round : List Cond := .code yX9_round cX9_round 4 (some .int) :: ((wsX9_round_r1 ++ (wsX9_round_r2 ++ wsX9_round_r3)) ++ wsX90)
def wsX9_about : List Cond := .code yX9_about cX9_about 4 (some .int) :: ([.fieldLink RX9 109 "BuoyTenderModel" "marks" "I", .fieldLink RX9 68 "BuoyTenderModel" "weight" "[I", .fieldLink RX9 131 "BuoyTenderModel" "clock" "I", .fieldLink RX9 146 "BuoyTenderModel" "warnings" "I", .fieldLink RX9 140 "BuoyTenderModel" "nearness" "I", .fieldLink RX9 84 "BuoyTenderModel" "last" "I"] ++ wsX90)
def wsJ9_abs_0f7a4 : List Cond := .code yJ9_abs_0f7a4 cJ9_abs_0f7a4 1 (some .int) :: ([])
def wsJ9_max_7cf53 : List Cond := .code yJ9_max_7cf53 cJ9_max_7cf53 2 (some .int) :: ([])
def wsJ9_min_7cf53 : List Cond := .code yJ9_min_7cf53 cJ9_min_7cf53 2 (some .int) :: ([])
theorem dJ9_abs_0f7a4_0 : decode cJ9_abs_0f7a4 0 = .ok (.iload_n 0, 1) := by decide +kernel
theorem dJ9_abs_0f7a4_1 : decode cJ9_abs_0f7a4 1 = .ok (.ifCond .ge 8, 3) := by decide +kernel
theorem dJ9_abs_0f7a4_4 : decode cJ9_abs_0f7a4 4 = .ok (.iload_n 0, 1) := by decide +kernel
theorem dJ9_abs_0f7a4_5 : decode cJ9_abs_0f7a4 5 = .ok (.ineg, 1) := by decide +kernel
theorem dJ9_abs_0f7a4_6 : decode cJ9_abs_0f7a4 6 = .ok (.goto 4, 3) := by decide +kernel
theorem dJ9_abs_0f7a4_9 : decode cJ9_abs_0f7a4 9 = .ok (.iload_n 0, 1) := by decide +kernel
theorem dJ9_abs_0f7a4_10 : decode cJ9_abs_0f7a4 10 = .ok (.ireturn, 1) := by decide +kernel
theorem dJ9_max_7cf53_0 : decode cJ9_max_7cf53 0 = .ok (.iload_n 0, 1) := by decide +kernel
theorem dJ9_max_7cf53_1 : decode cJ9_max_7cf53 1 = .ok (.iload_n 1, 1) := by decide +kernel
theorem dJ9_max_7cf53_2 : decode cJ9_max_7cf53 2 = .ok (.if_icmp .lt 7, 3) := by decide +kernel
theorem dJ9_max_7cf53_5 : decode cJ9_max_7cf53 5 = .ok (.iload_n 0, 1) := by decide +kernel
theorem dJ9_max_7cf53_6 : decode cJ9_max_7cf53 6 = .ok (.goto 4, 3) := by decide +kernel
theorem dJ9_max_7cf53_9 : decode cJ9_max_7cf53 9 = .ok (.iload_n 1, 1) := by decide +kernel
theorem dJ9_max_7cf53_10 : decode cJ9_max_7cf53 10 = .ok (.ireturn, 1) := by decide +kernel
theorem dJ9_min_7cf53_0 : decode cJ9_min_7cf53 0 = .ok (.iload_n 0, 1) := by decide +kernel
theorem dJ9_min_7cf53_1 : decode cJ9_min_7cf53 1 = .ok (.iload_n 1, 1) := by decide +kernel
theorem dJ9_min_7cf53_2 : decode cJ9_min_7cf53 2 = .ok (.if_icmp .gt 7, 3) := by decide +kernel
theorem dJ9_min_7cf53_5 : decode cJ9_min_7cf53 5 = .ok (.iload_n 0, 1) := by decide +kernel
theorem dJ9_min_7cf53_6 : decode cJ9_min_7cf53 6 = .ok (.goto 4, 3) := by decide +kernel
theorem dJ9_min_7cf53_9 : decode cJ9_min_7cf53 9 = .ok (.iload_n 1, 1) := by decide +kernel
theorem dJ9_min_7cf53_10 : decode cJ9_min_7cf53 10 = .ok (.ireturn, 1) := by decide +kernel
theorem dJ7_fill_d0a16_0 : decode cJ7_fill_d0a16 0 = .ok (.iconst 0, 1) := by decide +kernel
theorem dJ7_fill_d0a16_1 : decode cJ7_fill_d0a16 1 = .ok (.istore_n 3, 1) := by decide +kernel
theorem dJ7_fill_d0a16_2 : decode cJ7_fill_d0a16 2 = .ok (.aload_n 0, 1) := by decide +kernel
theorem dJ7_fill_d0a16_3 : decode cJ7_fill_d0a16 3 = .ok (.arraylength, 1) := by decide +kernel
theorem dJ7_fill_d0a16_4 : decode cJ7_fill_d0a16 4 = .ok (.istore 4, 2) := by decide +kernel
theorem dJ7_fill_d0a16_6 : decode cJ7_fill_d0a16 6 = .ok (.iload_n 3, 1) := by decide +kernel
theorem dJ7_fill_d0a16_7 : decode cJ7_fill_d0a16 7 = .ok (.iload 4, 2) := by decide +kernel
theorem dJ7_fill_d0a16_9 : decode cJ7_fill_d0a16 9 = .ok (.if_icmp .ge 13, 3) := by decide +kernel
theorem dJ7_fill_d0a16_12 : decode cJ7_fill_d0a16 12 = .ok (.aload_n 0, 1) := by decide +kernel
theorem dJ7_fill_d0a16_13 : decode cJ7_fill_d0a16 13 = .ok (.iload_n 3, 1) := by decide +kernel
theorem dJ7_fill_d0a16_14 : decode cJ7_fill_d0a16 14 = .ok (.lload_n 1, 1) := by decide +kernel
theorem dJ7_fill_d0a16_15 : decode cJ7_fill_d0a16 15 = .ok (.lastore, 1) := by decide +kernel
theorem dJ7_fill_d0a16_16 : decode cJ7_fill_d0a16 16 = .ok (.iinc 3 1, 3) := by decide +kernel
theorem dJ7_fill_d0a16_19 : decode cJ7_fill_d0a16 19 = .ok (.goto (-13), 3) := by decide +kernel
theorem dJ7_fill_d0a16_22 : decode cJ7_fill_d0a16 22 = .ok (.return_, 1) := by decide +kernel
abbrev vwCl : List vw_C := [(RX0, TX0, 5), (RX1, TX1, 9), (RX2, TX2, 16), (RX3, TX3, 2), (RX4, TX4, 10), (RX5, TX5, 4), (RX6, TX6, 6), (RX7, TX7, 5), (RX8, TX8, 12), (RX9, TX9, 46)]
end
section
theorem dX0_init_0 : decode cX0_init 0 = .ok (.aload_n 0, 1) := by decide +kernel
theorem dX0_init_1 : decode cX0_init 1 = .ok (.invokespecial 3, 3) := by decide +kernel
theorem dX0_init_4 : decode cX0_init 4 = .ok (.return_, 1) := by decide +kernel
theorem dX0_lay_0 : decode cX0_lay 0 = .ok (.aload_n 0, 1) := by decide +kernel
theorem dX0_lay_1 : decode cX0_lay 1 = .ok (.iconst 1, 1) := by decide +kernel
theorem dX0_lay_2 : decode cX0_lay 2 = .ok (.putfield 9, 3) := by decide +kernel
theorem dX0_lay_5 : decode cX0_lay 5 = .ok (.aload_n 0, 1) := by decide +kernel
theorem dX0_lay_6 : decode cX0_lay 6 = .ok (.iload_n 1, 1) := by decide +kernel
theorem dX0_lay_7 : decode cX0_lay 7 = .ok (.putfield 15, 3) := by decide +kernel
theorem dX0_lay_10 : decode cX0_lay 10 = .ok (.aload_n 0, 1) := by decide +kernel
theorem dX0_lay_11 : decode cX0_lay 11 = .ok (.iload_n 2, 1) := by decide +kernel
theorem dX0_lay_12 : decode cX0_lay 12 = .ok (.putfield 19, 3) := by decide +kernel
theorem dX0_lay_15 : decode cX0_lay 15 = .ok (.aload_n 0, 1) := by decide +kernel
theorem dX0_lay_16 : decode cX0_lay 16 = .ok (.iload_n 3, 1) := by decide +kernel
theorem dX0_lay_17 : decode cX0_lay 17 = .ok (.putfield 22, 3) := by decide +kernel
theorem dX0_lay_20 : decode cX0_lay 20 = .ok (.aload_n 0, 1) := by decide +kernel
theorem dX0_lay_21 : decode cX0_lay 21 = .ok (.iload 4, 2) := by decide +kernel
theorem dX0_lay_23 : decode cX0_lay 23 = .ok (.putfield 25, 3) := by decide +kernel
theorem dX0_lay_26 : decode cX0_lay 26 = .ok (.return_, 1) := by decide +kernel
theorem dX0_wornIn_0 : decode cX0_wornIn 0 = .ok (.aload_n 0, 1) := by decide +kernel
theorem dX0_wornIn_1 : decode cX0_wornIn 1 = .ok (.getfield 22, 3) := by decide +kernel
theorem dX0_wornIn_4 : decode cX0_wornIn 4 = .ok (.bipush 12, 2) := by decide +kernel
theorem dX0_wornIn_6 : decode cX0_wornIn 6 = .ok (.imul, 1) := by decide +kernel
theorem dX0_wornIn_7 : decode cX0_wornIn 7 = .ok (.iload_n 1, 1) := by decide +kernel
theorem dX0_wornIn_8 : decode cX0_wornIn 8 = .ok (.bipush 12, 2) := by decide +kernel
theorem dX0_wornIn_10 : decode cX0_wornIn 10 = .ok (.irem, 1) := by decide +kernel
theorem dX0_wornIn_11 : decode cX0_wornIn 11 = .ok (.iadd, 1) := by decide +kernel
theorem dX0_wornIn_12 : decode cX0_wornIn 12 = .ok (.istore_n 3, 1) := by decide +kernel
theorem dX0_wornIn_13 : decode cX0_wornIn 13 = .ok (.iload_n 3, 1) := by decide +kernel
theorem dX0_wornIn_14 : decode cX0_wornIn 14 = .ok (.ifCond .lt 15, 3) := by decide +kernel
theorem dX0_wornIn_17 : decode cX0_wornIn 17 = .ok (.iload_n 3, 1) := by decide +kernel
theorem dX0_wornIn_18 : decode cX0_wornIn 18 = .ok (.aload_n 2, 1) := by decide +kernel
theorem dX0_wornIn_19 : decode cX0_wornIn 19 = .ok (.arraylength, 1) := by decide +kernel
theorem dX0_wornIn_20 : decode cX0_wornIn 20 = .ok (.if_icmp .ge 9, 3) := by decide +kernel
theorem dX0_wornIn_23 : decode cX0_wornIn 23 = .ok (.aload_n 2, 1) := by decide +kernel
theorem dX0_wornIn_24 : decode cX0_wornIn 24 = .ok (.iload_n 3, 1) := by decide +kernel
theorem dX0_wornIn_25 : decode cX0_wornIn 25 = .ok (.iaload, 1) := by decide +kernel
theorem dX0_wornIn_26 : decode cX0_wornIn 26 = .ok (.goto 4, 3) := by decide +kernel
theorem dX0_wornIn_29 : decode cX0_wornIn 29 = .ok (.iconst 0, 1) := by decide +kernel
theorem dX0_wornIn_30 : decode cX0_wornIn 30 = .ok (.ireturn, 1) := by decide +kernel
set_option maxRecDepth 20000 in
theorem ggX0_leftBehind_X0_wornIn : GoodIn wsX0_leftBehind wsX0_wornIn := goodIn_r _ [7, 8, 9, 10, 11, 12, 13] (by decide +kernel) (by decide +kernel)
set_option maxRecDepth 20000 in
theorem gX0_leftBehind_X0_wornIn : GoodIn wsX0_leftBehind (wsV RX0 28 RX0 yX0_wornIn wsX0_wornIn) := goodIn_app (goodIn_of _ (by decide +kernel)) ggX0_leftBehind_X0_wornIn
theorem dX0_leftBehind_0 : decode cX0_leftBehind 0 = .ok (.aload_n 0, 1) := by decide +kernel
theorem dX0_leftBehind_1 : decode cX0_leftBehind 1 = .ok (.getfield 15, 3) := by decide +kernel
theorem dX0_leftBehind_4 : decode cX0_leftBehind 4 = .ok (.istore_n 3, 1) := by decide +kernel
theorem dX0_leftBehind_5 : decode cX0_leftBehind 5 = .ok (.aload_n 0, 1) := by decide +kernel
theorem dX0_leftBehind_6 : decode cX0_leftBehind 6 = .ok (.getfield 25, 3) := by decide +kernel
theorem dX0_leftBehind_9 : decode cX0_leftBehind 9 = .ok (.istore 4, 2) := by decide +kernel
theorem dX0_leftBehind_11 : decode cX0_leftBehind 11 = .ok (.iload 4, 2) := by decide +kernel
theorem dX0_leftBehind_13 : decode cX0_leftBehind 13 = .ok (.iload_n 1, 1) := by decide +kernel
theorem dX0_leftBehind_14 : decode cX0_leftBehind 14 = .ok (.if_icmp .gt 19, 3) := by decide +kernel
theorem dX0_leftBehind_17 : decode cX0_leftBehind 17 = .ok (.iload_n 3, 1) := by decide +kernel
theorem dX0_leftBehind_18 : decode cX0_leftBehind 18 = .ok (.aload_n 0, 1) := by decide +kernel
theorem dX0_leftBehind_19 : decode cX0_leftBehind 19 = .ok (.iload 4, 2) := by decide +kernel
theorem dX0_leftBehind_21 : decode cX0_leftBehind 21 = .ok (.aload_n 2, 1) := by decide +kernel
theorem dX0_leftBehind_22 : decode cX0_leftBehind 22 = .ok (.invokevirtual 28, 3) := by decide +kernel
theorem dX0_leftBehind_25 : decode cX0_leftBehind 25 = .ok (.isub, 1) := by decide +kernel
theorem dX0_leftBehind_26 : decode cX0_leftBehind 26 = .ok (.istore_n 3, 1) := by decide +kernel
theorem dX0_leftBehind_27 : decode cX0_leftBehind 27 = .ok (.iinc 4 1, 3) := by decide +kernel
theorem dX0_leftBehind_30 : decode cX0_leftBehind 30 = .ok (.goto (-19), 3) := by decide +kernel
theorem dX0_leftBehind_33 : decode cX0_leftBehind 33 = .ok (.iload_n 3, 1) := by decide +kernel
theorem dX0_leftBehind_34 : decode cX0_leftBehind 34 = .ok (.ireturn, 1) := by decide +kernel
set_option maxRecDepth 20000 in
theorem ggX0_lifeEnds_X0_wornIn : GoodIn wsX0_lifeEnds wsX0_wornIn := goodIn_r _ [8, 9, 10, 11, 12, 13, 14] (by decide +kernel) (by decide +kernel)
set_option maxRecDepth 20000 in
theorem gX0_lifeEnds_X0_wornIn : GoodIn wsX0_lifeEnds (wsV RX0 28 RX0 yX0_wornIn wsX0_wornIn) := goodIn_app (goodIn_of _ (by decide +kernel)) ggX0_lifeEnds_X0_wornIn
theorem dX0_lifeEnds_0 : decode cX0_lifeEnds 0 = .ok (.aload_n 0, 1) := by decide +kernel
theorem dX0_lifeEnds_1 : decode cX0_lifeEnds 1 = .ok (.getfield 15, 3) := by decide +kernel
theorem dX0_lifeEnds_4 : decode cX0_lifeEnds 4 = .ok (.istore_n 2, 1) := by decide +kernel
theorem dX0_lifeEnds_5 : decode cX0_lifeEnds 5 = .ok (.iconst 0, 1) := by decide +kernel
theorem dX0_lifeEnds_6 : decode cX0_lifeEnds 6 = .ok (.istore_n 3, 1) := by decide +kernel
theorem dX0_lifeEnds_7 : decode cX0_lifeEnds 7 = .ok (.iload_n 3, 1) := by decide +kernel
theorem dX0_lifeEnds_8 : decode cX0_lifeEnds 8 = .ok (.sipush 400, 3) := by decide +kernel
theorem dX0_lifeEnds_11 : decode cX0_lifeEnds 11 = .ok (.if_icmp .ge 38, 3) := by decide +kernel
theorem dX0_lifeEnds_14 : decode cX0_lifeEnds 14 = .ok (.iload_n 2, 1) := by decide +kernel
theorem dX0_lifeEnds_15 : decode cX0_lifeEnds 15 = .ok (.aload_n 0, 1) := by decide +kernel
theorem dX0_lifeEnds_16 : decode cX0_lifeEnds 16 = .ok (.aload_n 0, 1) := by decide +kernel
theorem dX0_lifeEnds_17 : decode cX0_lifeEnds 17 = .ok (.getfield 25, 3) := by decide +kernel
theorem dX0_lifeEnds_20 : decode cX0_lifeEnds 20 = .ok (.iload_n 3, 1) := by decide +kernel
theorem dX0_lifeEnds_21 : decode cX0_lifeEnds 21 = .ok (.iadd, 1) := by decide +kernel
theorem dX0_lifeEnds_22 : decode cX0_lifeEnds 22 = .ok (.aload_n 1, 1) := by decide +kernel
theorem dX0_lifeEnds_23 : decode cX0_lifeEnds 23 = .ok (.invokevirtual 28, 3) := by decide +kernel
theorem dX0_lifeEnds_26 : decode cX0_lifeEnds 26 = .ok (.isub, 1) := by decide +kernel
theorem dX0_lifeEnds_27 : decode cX0_lifeEnds 27 = .ok (.istore_n 2, 1) := by decide +kernel
theorem dX0_lifeEnds_28 : decode cX0_lifeEnds 28 = .ok (.iload_n 2, 1) := by decide +kernel
theorem dX0_lifeEnds_29 : decode cX0_lifeEnds 29 = .ok (.aload_n 0, 1) := by decide +kernel
theorem dX0_lifeEnds_30 : decode cX0_lifeEnds 30 = .ok (.getfield 19, 3) := by decide +kernel
theorem dX0_lifeEnds_33 : decode cX0_lifeEnds 33 = .ok (.if_icmp .ge 10, 3) := by decide +kernel
theorem dX0_lifeEnds_36 : decode cX0_lifeEnds 36 = .ok (.aload_n 0, 1) := by decide +kernel
theorem dX0_lifeEnds_37 : decode cX0_lifeEnds 37 = .ok (.getfield 25, 3) := by decide +kernel
theorem dX0_lifeEnds_40 : decode cX0_lifeEnds 40 = .ok (.iload_n 3, 1) := by decide +kernel
theorem dX0_lifeEnds_41 : decode cX0_lifeEnds 41 = .ok (.iadd, 1) := by decide +kernel
theorem dX0_lifeEnds_42 : decode cX0_lifeEnds 42 = .ok (.ireturn, 1) := by decide +kernel
theorem dX0_lifeEnds_43 : decode cX0_lifeEnds 43 = .ok (.iinc 3 1, 3) := by decide +kernel
theorem dX0_lifeEnds_46 : decode cX0_lifeEnds 46 = .ok (.goto (-39), 3) := by decide +kernel
theorem dX0_lifeEnds_49 : decode cX0_lifeEnds 49 = .ok (.iconst (-1), 1) := by decide +kernel
theorem dX0_lifeEnds_50 : decode cX0_lifeEnds 50 = .ok (.ireturn, 1) := by decide +kernel
set_option maxRecDepth 20000 in
theorem ggX1_init_X5_init : GoodIn wsX1_init wsX5_init := goodIn_r _ [20, 21, 2, 3, 22, 23, 24, 33, 34, 35, 36] (by decide +kernel) (by decide +kernel)
set_option maxRecDepth 20000 in
theorem gX1_init_X5_init_n9 : GoodIn wsX1_init (wsX5_init) := ggX1_init_X5_init
set_option maxRecDepth 20000 in
theorem ggX1_init_X0_init : GoodIn wsX1_init wsX0_init := goodIn_r _ [26, 27, 2, 3] (by decide +kernel) (by decide +kernel)
set_option maxRecDepth 20000 in
theorem gX1_init_X0_init_n18 : GoodIn wsX1_init (wsX0_init) := ggX1_init_X0_init
set_option maxRecDepth 20000 in
theorem ggX1_init_X3_init : GoodIn wsX1_init wsX3_init := goodIn_r _ [29, 30, 2, 3, 31, 32, 51, 52] (by decide +kernel) (by decide +kernel)
set_option maxRecDepth 20000 in
theorem gX1_init_X3_init_n25 : GoodIn wsX1_init (wsX3_init) := ggX1_init_X3_init
theorem dX1_init_0 : decode cX1_init 0 = .ok (.aload_n 0, 1) := by decide +kernel
theorem dX1_init_1 : decode cX1_init 1 = .ok (.invokespecial 1, 3) := by decide +kernel
theorem dX1_init_4 : decode cX1_init 4 = .ok (.aload_n 0, 1) := by decide +kernel
theorem dX1_init_5 : decode cX1_init 5 = .ok (.new 7, 3) := by decide +kernel
theorem dX1_init_8 : decode cX1_init 8 = .ok (.dup, 1) := by decide +kernel
theorem dX1_init_9 : decode cX1_init 9 = .ok (.invokespecial 9, 3) := by decide +kernel
theorem dX1_init_12 : decode cX1_init 12 = .ok (.putfield 10, 3) := by decide +kernel
theorem dX1_init_15 : decode cX1_init 15 = .ok (.aload_n 0, 1) := by decide +kernel
theorem dX1_init_16 : decode cX1_init 16 = .ok (.new 16, 3) := by decide +kernel
theorem dX1_init_19 : decode cX1_init 19 = .ok (.dup, 1) := by decide +kernel
theorem dX1_init_20 : decode cX1_init 20 = .ok (.invokespecial 18, 3) := by decide +kernel
theorem dX1_init_23 : decode cX1_init 23 = .ok (.putfield 19, 3) := by decide +kernel
theorem dX1_init_26 : decode cX1_init 26 = .ok (.aload_n 0, 1) := by decide +kernel
theorem dX1_init_27 : decode cX1_init 27 = .ok (.new 23, 3) := by decide +kernel
theorem dX1_init_30 : decode cX1_init 30 = .ok (.dup, 1) := by decide +kernel
theorem dX1_init_31 : decode cX1_init 31 = .ok (.invokespecial 25, 3) := by decide +kernel
theorem dX1_init_34 : decode cX1_init 34 = .ok (.putfield 26, 3) := by decide +kernel
theorem dX1_init_37 : decode cX1_init 37 = .ok (.aload_n 0, 1) := by decide +kernel
theorem dX1_init_38 : decode cX1_init 38 = .ok (.iload_n 1, 1) := by decide +kernel
theorem dX1_init_39 : decode cX1_init 39 = .ok (.putfield 30, 3) := by decide +kernel
theorem dX1_init_42 : decode cX1_init 42 = .ok (.aload_n 0, 1) := by decide +kernel
theorem dX1_init_43 : decode cX1_init 43 = .ok (.iload_n 2, 1) := by decide +kernel
theorem dX1_init_44 : decode cX1_init 44 = .ok (.putfield 34, 3) := by decide +kernel
theorem dX1_init_47 : decode cX1_init 47 = .ok (.aload_n 0, 1) := by decide +kernel
theorem dX1_init_48 : decode cX1_init 48 = .ok (.iload_n 3, 1) := by decide +kernel
theorem dX1_init_49 : decode cX1_init 49 = .ok (.putfield 37, 3) := by decide +kernel
theorem dX1_init_52 : decode cX1_init 52 = .ok (.return_, 1) := by decide +kernel
set_option maxRecDepth 20000 in
theorem ggX1_isNear_X8_squareBetween : GoodIn wsX1_isNear wsX8_squareBetween := goodIn_r _ [5] (by decide +kernel) (by decide +kernel)
set_option maxRecDepth 20000 in
theorem gX1_isNear_X8_squareBetween_n40 : GoodIn wsX1_isNear (wsX8_squareBetween) := ggX1_isNear_X8_squareBetween
theorem dX1_isNear_0 : decode cX1_isNear 0 = .ok (.aload_n 0, 1) := by decide +kernel
theorem dX1_isNear_1 : decode cX1_isNear 1 = .ok (.getfield 30, 3) := by decide +kernel
theorem dX1_isNear_4 : decode cX1_isNear 4 = .ok (.aload_n 0, 1) := by decide +kernel
theorem dX1_isNear_5 : decode cX1_isNear 5 = .ok (.getfield 34, 3) := by decide +kernel
theorem dX1_isNear_8 : decode cX1_isNear 8 = .ok (.aload_n 1, 1) := by decide +kernel
theorem dX1_isNear_9 : decode cX1_isNear 9 = .ok (.getfield 30, 3) := by decide +kernel
theorem dX1_isNear_12 : decode cX1_isNear 12 = .ok (.aload_n 1, 1) := by decide +kernel
theorem dX1_isNear_13 : decode cX1_isNear 13 = .ok (.getfield 34, 3) := by decide +kernel
theorem dX1_isNear_16 : decode cX1_isNear 16 = .ok (.invokestatic 40, 3) := by decide +kernel
theorem dX1_isNear_19 : decode cX1_isNear 19 = .ok (.iload_n 2, 1) := by decide +kernel
theorem dX1_isNear_20 : decode cX1_isNear 20 = .ok (.if_icmp .gt 7, 3) := by decide +kernel
theorem dX1_isNear_23 : decode cX1_isNear 23 = .ok (.iconst 1, 1) := by decide +kernel
theorem dX1_isNear_24 : decode cX1_isNear 24 = .ok (.goto 4, 3) := by decide +kernel
theorem dX1_isNear_27 : decode cX1_isNear 27 = .ok (.iconst 0, 1) := by decide +kernel
theorem dX1_isNear_28 : decode cX1_isNear 28 = .ok (.ireturn, 1) := by decide +kernel
theorem dX2_init_0 : decode cX2_init 0 = .ok (.aload_n 0, 1) := by decide +kernel
theorem dX2_init_1 : decode cX2_init 1 = .ok (.invokespecial 3, 3) := by decide +kernel
theorem dX2_init_4 : decode cX2_init 4 = .ok (.aload_n 0, 1) := by decide +kernel
theorem dX2_init_5 : decode cX2_init 5 = .ok (.bipush 10, 2) := by decide +kernel
theorem dX2_init_7 : decode cX2_init 7 = .ok (.newarray .int, 2) := by decide +kernel
theorem dX2_init_9 : decode cX2_init 9 = .ok (.putfield 9, 3) := by decide +kernel
theorem dX2_init_12 : decode cX2_init 12 = .ok (.aload_n 0, 1) := by decide +kernel
theorem dX2_init_13 : decode cX2_init 13 = .ok (.bipush 10, 2) := by decide +kernel
theorem dX2_init_15 : decode cX2_init 15 = .ok (.newarray .int, 2) := by decide +kernel
theorem dX2_init_17 : decode cX2_init 17 = .ok (.putfield 15, 3) := by decide +kernel
theorem dX2_init_20 : decode cX2_init 20 = .ok (.aload_n 0, 1) := by decide +kernel
theorem dX2_init_21 : decode cX2_init 21 = .ok (.bipush 10, 2) := by decide +kernel
theorem dX2_init_23 : decode cX2_init 23 = .ok (.newarray .int, 2) := by decide +kernel
theorem dX2_init_25 : decode cX2_init 25 = .ok (.putfield 18, 3) := by decide +kernel
theorem dX2_init_28 : decode cX2_init 28 = .ok (.aload_n 0, 1) := by decide +kernel
theorem dX2_init_29 : decode cX2_init 29 = .ok (.bipush 10, 2) := by decide +kernel
theorem dX2_init_31 : decode cX2_init 31 = .ok (.newarray .int, 2) := by decide +kernel
theorem dX2_init_33 : decode cX2_init 33 = .ok (.putfield 21, 3) := by decide +kernel
theorem dX2_init_36 : decode cX2_init 36 = .ok (.aload_n 0, 1) := by decide +kernel
theorem dX2_init_37 : decode cX2_init 37 = .ok (.bipush 121, 2) := by decide +kernel
theorem dX2_init_39 : decode cX2_init 39 = .ok (.newarray .int, 2) := by decide +kernel
theorem dX2_init_41 : decode cX2_init 41 = .ok (.putfield 24, 3) := by decide +kernel
theorem dX2_init_44 : decode cX2_init 44 = .ok (.aload_n 0, 1) := by decide +kernel
theorem dX2_init_45 : decode cX2_init 45 = .ok (.sipush 240, 3) := by decide +kernel
theorem dX2_init_48 : decode cX2_init 48 = .ok (.newarray .int, 2) := by decide +kernel
theorem dX2_init_50 : decode cX2_init 50 = .ok (.putfield 27, 3) := by decide +kernel
theorem dX2_init_53 : decode cX2_init 53 = .ok (.aload_n 0, 1) := by decide +kernel
theorem dX2_init_54 : decode cX2_init 54 = .ok (.sipush 240, 3) := by decide +kernel
theorem dX2_init_57 : decode cX2_init 57 = .ok (.newarray .int, 2) := by decide +kernel
theorem dX2_init_59 : decode cX2_init 59 = .ok (.putfield 30, 3) := by decide +kernel
theorem dX2_init_62 : decode cX2_init 62 = .ok (.aload_n 0, 1) := by decide +kernel
theorem dX2_init_63 : decode cX2_init 63 = .ok (.sipush 10240, 3) := by decide +kernel
theorem dX2_init_66 : decode cX2_init 66 = .ok (.newarray .int, 2) := by decide +kernel
theorem dX2_init_68 : decode cX2_init 68 = .ok (.putfield 33, 3) := by decide +kernel
theorem dX2_init_71 : decode cX2_init 71 = .ok (.aload_n 0, 1) := by decide +kernel
theorem dX2_init_72 : decode cX2_init 72 = .ok (.sipush 1024, 3) := by decide +kernel
theorem dX2_init_75 : decode cX2_init 75 = .ok (.newarray .int, 2) := by decide +kernel
theorem dX2_init_77 : decode cX2_init 77 = .ok (.putfield 36, 3) := by decide +kernel
theorem dX2_init_80 : decode cX2_init 80 = .ok (.aload_n 0, 1) := by decide +kernel
theorem dX2_init_81 : decode cX2_init 81 = .ok (.bipush 10, 2) := by decide +kernel
theorem dX2_init_83 : decode cX2_init 83 = .ok (.newarray .int, 2) := by decide +kernel
theorem dX2_init_85 : decode cX2_init 85 = .ok (.putfield 39, 3) := by decide +kernel
theorem dX2_init_88 : decode cX2_init 88 = .ok (.aload_n 0, 1) := by decide +kernel
theorem dX2_init_89 : decode cX2_init 89 = .ok (.bipush 10, 2) := by decide +kernel
theorem dX2_init_91 : decode cX2_init 91 = .ok (.newarray .int, 2) := by decide +kernel
theorem dX2_init_93 : decode cX2_init 93 = .ok (.putfield 42, 3) := by decide +kernel
theorem dX2_init_96 : decode cX2_init 96 = .ok (.aload_n 0, 1) := by decide +kernel
theorem dX2_init_97 : decode cX2_init 97 = .ok (.bipush 10, 2) := by decide +kernel
theorem dX2_init_99 : decode cX2_init 99 = .ok (.newarray .int, 2) := by decide +kernel
theorem dX2_init_101 : decode cX2_init 101 = .ok (.putfield 45, 3) := by decide +kernel
theorem dX2_init_104 : decode cX2_init 104 = .ok (.return_, 1) := by decide +kernel
set_option maxRecDepth 20000 in
theorem ggX2_plan_X2_gather : GoodIn wsX2_plan wsX2_gather := goodIn_r _ [5, 6, 7, 8, 9, 10, 11, 12, 13, 4, 14, 15, 16, 17, 18, 19, 20, 21, 22, 23, 24, 119, 120, 121, 122, 123, 124, 125, 126, 127, 128, 129, 130, 131, 132, 133, 134, 135, 136, 137, 138, 139, 140, 141, 142, 143, 144, 145, 146, 147, 148, 149, 150, 151, 152, 153] (by decide +kernel) (by decide +kernel)
set_option maxRecDepth 20000 in
theorem gX2_plan_X2_gather : GoodIn wsX2_plan (wsV RX2 48 RX2 yX2_gather wsX2_gather) := goodIn_app (goodIn_of _ (by decide +kernel)) ggX2_plan_X2_gather
set_option maxRecDepth 20000 in
theorem ggX2_plan_X2_measure : GoodIn wsX2_plan wsX2_measure := goodIn_r _ [28, 6, 29, 30, 31, 32, 4, 33, 7, 34, 35, 36, 37, 38, 39, 40, 41, 42, 43, 119, 120, 121, 122, 123, 124, 125, 126, 127, 128, 129, 130, 131, 132, 133, 134, 135, 136, 137, 138, 139, 140, 141, 142, 143, 144, 145, 146, 147, 148, 149, 150, 151, 152, 153] (by decide +kernel) (by decide +kernel)
set_option maxRecDepth 20000 in
theorem gX2_plan_X2_measure : GoodIn wsX2_plan (wsV RX2 52 RX2 yX2_measure wsX2_measure) := goodIn_app (goodIn_of _ (by decide +kernel)) ggX2_plan_X2_measure
set_option maxRecDepth 20000 in
theorem ggX2_plan_X2_findEarliestEnds : GoodIn wsX2_plan wsX2_findEarliestEnds := goodIn_r _ [47, 48, 6, 49, 9, 50, 29, 51, 52, 39, 53, 54, 55, 56, 4, 57, 58, 59, 60, 61, 62, 63, 64, 8, 65, 66, 67, 68, 69, 70, 71, 16, 119, 120, 121, 122, 123, 124, 125, 126, 127, 128, 129, 130, 131, 132, 133, 134, 144, 145, 146, 147, 148, 149, 150, 151, 152, 153] (by decide +kernel) (by decide +kernel)
set_option maxRecDepth 20000 in
theorem gX2_plan_X2_findEarliestEnds : GoodIn wsX2_plan (wsV RX2 56 RX2 yX2_findEarliestEnds wsX2_findEarliestEnds) := goodIn_app (goodIn_of _ (by decide +kernel)) ggX2_plan_X2_findEarliestEnds
set_option maxRecDepth 20000 in
theorem ggX2_plan_X2_chooseBest : GoodIn wsX2_plan wsX2_chooseBest := goodIn_r _ [75, 76, 48, 77, 6, 49, 10, 54, 55, 56, 4, 57, 58, 59, 60, 119, 120, 121, 122, 123, 124, 125, 126, 127, 128, 129, 130, 131, 132, 133, 134] (by decide +kernel) (by decide +kernel)
set_option maxRecDepth 20000 in
theorem gX2_plan_X2_chooseBest : GoodIn wsX2_plan (wsV RX2 60 RX2 yX2_chooseBest wsX2_chooseBest) := goodIn_app (goodIn_of _ (by decide +kernel)) ggX2_plan_X2_chooseBest
set_option maxRecDepth 20000 in
theorem ggX2_plan_X2_findLatestEnds : GoodIn wsX2_plan wsX2_findLatestEnds := goodIn_r _ [81, 6, 50, 82, 58, 59, 4, 60, 83, 84, 85, 86, 77, 29, 8, 41, 42, 39, 43, 65, 66, 67, 87, 88, 89, 90, 51, 52, 53, 15, 119, 120, 121, 122, 123, 124, 125, 126, 127, 128, 129, 130, 131, 132, 133, 134] (by decide +kernel) (by decide +kernel)
set_option maxRecDepth 20000 in
theorem gX2_plan_X2_findLatestEnds : GoodIn wsX2_plan (wsV RX2 63 RX2 yX2_findLatestEnds wsX2_findLatestEnds) := goodIn_app (goodIn_of _ (by decide +kernel)) ggX2_plan_X2_findLatestEnds
set_option maxRecDepth 20000 in
theorem ggX2_plan_X2_chooseOrder : GoodIn wsX2_plan wsX2_chooseOrder := goodIn_r _ [94, 95, 6, 48, 77, 10, 76, 96, 97, 98, 99, 100, 101, 54, 55, 56, 4, 57, 58, 59, 60, 102, 103, 104, 105, 29, 8, 106, 107, 108, 109, 50, 68, 69, 70, 71, 49, 16, 65, 66, 67, 110, 111, 112, 113, 119, 120, 121, 122, 123, 124, 125, 126, 127, 128, 129, 130, 131, 132, 133, 134, 144, 145, 146, 147, 148, 149, 150, 151, 152, 153] (by decide +kernel) (by decide +kernel)
set_option maxRecDepth 20000 in
theorem gX2_plan_X2_chooseOrder : GoodIn wsX2_plan (wsV RX2 66 RX2 yX2_chooseOrder wsX2_chooseOrder) := goodIn_app (goodIn_of _ (by decide +kernel)) ggX2_plan_X2_chooseOrder
set_option maxRecDepth 20000 in
theorem ggX2_plan_X2_timeOrder : GoodIn wsX2_plan wsX2_timeOrder := goodIn_r _ [117, 95, 97, 118, 29, 8, 68, 69, 70, 4, 71, 49, 16, 144, 145, 146, 147, 148, 149, 150, 151, 152, 153, 119, 120, 121, 122, 123, 124, 125, 126, 127, 128, 129, 130, 131, 132, 133, 134] (by decide +kernel) (by decide +kernel)
set_option maxRecDepth 20000 in
theorem gX2_plan_X2_timeOrder : GoodIn wsX2_plan (wsV RX2 69 RX2 yX2_timeOrder wsX2_timeOrder) := goodIn_app (goodIn_of _ (by decide +kernel)) ggX2_plan_X2_timeOrder
theorem dX2_plan_0 : decode cX2_plan 0 = .ok (.aload_n 0, 1) := by decide +kernel
theorem dX2_plan_1 : decode cX2_plan 1 = .ok (.aload_n 1, 1) := by decide +kernel
theorem dX2_plan_2 : decode cX2_plan 2 = .ok (.aload_n 2, 1) := by decide +kernel
theorem dX2_plan_3 : decode cX2_plan 3 = .ok (.aload_n 3, 1) := by decide +kernel
theorem dX2_plan_4 : decode cX2_plan 4 = .ok (.invokevirtual 48, 3) := by decide +kernel
theorem dX2_plan_7 : decode cX2_plan 7 = .ok (.aload_n 0, 1) := by decide +kernel
theorem dX2_plan_8 : decode cX2_plan 8 = .ok (.aload_n 1, 1) := by decide +kernel
theorem dX2_plan_9 : decode cX2_plan 9 = .ok (.aload_n 3, 1) := by decide +kernel
theorem dX2_plan_10 : decode cX2_plan 10 = .ok (.invokevirtual 52, 3) := by decide +kernel
theorem dX2_plan_13 : decode cX2_plan 13 = .ok (.aload_n 0, 1) := by decide +kernel
theorem dX2_plan_14 : decode cX2_plan 14 = .ok (.aload_n 3, 1) := by decide +kernel
theorem dX2_plan_15 : decode cX2_plan 15 = .ok (.invokevirtual 56, 3) := by decide +kernel
theorem dX2_plan_18 : decode cX2_plan 18 = .ok (.aload_n 0, 1) := by decide +kernel
theorem dX2_plan_19 : decode cX2_plan 19 = .ok (.invokevirtual 60, 3) := by decide +kernel
theorem dX2_plan_22 : decode cX2_plan 22 = .ok (.aload_n 0, 1) := by decide +kernel
theorem dX2_plan_23 : decode cX2_plan 23 = .ok (.invokevirtual 63, 3) := by decide +kernel
theorem dX2_plan_26 : decode cX2_plan 26 = .ok (.aload_n 0, 1) := by decide +kernel
theorem dX2_plan_27 : decode cX2_plan 27 = .ok (.aload_n 3, 1) := by decide +kernel
theorem dX2_plan_28 : decode cX2_plan 28 = .ok (.invokevirtual 66, 3) := by decide +kernel
theorem dX2_plan_31 : decode cX2_plan 31 = .ok (.aload_n 0, 1) := by decide +kernel
theorem dX2_plan_32 : decode cX2_plan 32 = .ok (.aload_n 3, 1) := by decide +kernel
theorem dX2_plan_33 : decode cX2_plan 33 = .ok (.invokevirtual 69, 3) := by decide +kernel
theorem dX2_plan_36 : decode cX2_plan 36 = .ok (.return_, 1) := by decide +kernel
theorem dX2_loadDone_0 : decode cX2_loadDone 0 = .ok (.iconst 0, 1) := by decide +kernel
theorem dX2_loadDone_1 : decode cX2_loadDone 1 = .ok (.istore_n 1, 1) := by decide +kernel
theorem dX2_loadDone_2 : decode cX2_loadDone 2 = .ok (.iconst 0, 1) := by decide +kernel
theorem dX2_loadDone_3 : decode cX2_loadDone 3 = .ok (.istore_n 2, 1) := by decide +kernel
theorem dX2_loadDone_4 : decode cX2_loadDone 4 = .ok (.iload_n 2, 1) := by decide +kernel
theorem dX2_loadDone_5 : decode cX2_loadDone 5 = .ok (.aload_n 0, 1) := by decide +kernel
theorem dX2_loadDone_6 : decode cX2_loadDone 6 = .ok (.getfield 72, 3) := by decide +kernel
theorem dX2_loadDone_9 : decode cX2_loadDone 9 = .ok (.if_icmp .ge 23, 3) := by decide +kernel
theorem dX2_loadDone_12 : decode cX2_loadDone 12 = .ok (.iload_n 1, 1) := by decide +kernel
theorem dX2_loadDone_13 : decode cX2_loadDone 13 = .ok (.aload_n 0, 1) := by decide +kernel
theorem dX2_loadDone_14 : decode cX2_loadDone 14 = .ok (.getfield 18, 3) := by decide +kernel
theorem dX2_loadDone_17 : decode cX2_loadDone 17 = .ok (.aload_n 0, 1) := by decide +kernel
theorem dX2_loadDone_18 : decode cX2_loadDone 18 = .ok (.getfield 42, 3) := by decide +kernel
theorem dX2_loadDone_21 : decode cX2_loadDone 21 = .ok (.iload_n 2, 1) := by decide +kernel
theorem dX2_loadDone_22 : decode cX2_loadDone 22 = .ok (.iaload, 1) := by decide +kernel
theorem dX2_loadDone_23 : decode cX2_loadDone 23 = .ok (.iaload, 1) := by decide +kernel
theorem dX2_loadDone_24 : decode cX2_loadDone 24 = .ok (.iadd, 1) := by decide +kernel
theorem dX2_loadDone_25 : decode cX2_loadDone 25 = .ok (.istore_n 1, 1) := by decide +kernel
theorem dX2_loadDone_26 : decode cX2_loadDone 26 = .ok (.iinc 2 1, 3) := by decide +kernel
theorem dX2_loadDone_29 : decode cX2_loadDone 29 = .ok (.goto (-25), 3) := by decide +kernel
theorem dX2_loadDone_32 : decode cX2_loadDone 32 = .ok (.iload_n 1, 1) := by decide +kernel
theorem dX2_loadDone_33 : decode cX2_loadDone 33 = .ok (.ireturn, 1) := by decide +kernel
theorem dX2_step_0 : decode cX2_step 0 = .ok (.iload_n 1, 1) := by decide +kernel
theorem dX2_step_1 : decode cX2_step 1 = .ok (.bipush 100, 2) := by decide +kernel
theorem dX2_step_3 : decode cX2_step 3 = .ok (.if_icmp .lt 29, 3) := by decide +kernel
theorem dX2_step_6 : decode cX2_step 6 = .ok (.iload_n 1, 1) := by decide +kernel
theorem dX2_step_7 : decode cX2_step 7 = .ok (.bipush 100, 2) := by decide +kernel
theorem dX2_step_9 : decode cX2_step 9 = .ok (.aload_n 0, 1) := by decide +kernel
theorem dX2_step_10 : decode cX2_step 10 = .ok (.getfield 72, 3) := by decide +kernel
theorem dX2_step_13 : decode cX2_step 13 = .ok (.iadd, 1) := by decide +kernel
theorem dX2_step_14 : decode cX2_step 14 = .ok (.if_icmp .ge 18, 3) := by decide +kernel
theorem dX2_step_17 : decode cX2_step 17 = .ok (.aload_n 0, 1) := by decide +kernel
theorem dX2_step_18 : decode cX2_step 18 = .ok (.getfield 9, 3) := by decide +kernel
theorem dX2_step_21 : decode cX2_step 21 = .ok (.aload_n 0, 1) := by decide +kernel
theorem dX2_step_22 : decode cX2_step 22 = .ok (.getfield 42, 3) := by decide +kernel
theorem dX2_step_25 : decode cX2_step 25 = .ok (.iload_n 1, 1) := by decide +kernel
theorem dX2_step_26 : decode cX2_step 26 = .ok (.bipush 100, 2) := by decide +kernel
theorem dX2_step_28 : decode cX2_step 28 = .ok (.isub, 1) := by decide +kernel
theorem dX2_step_29 : decode cX2_step 29 = .ok (.iaload, 1) := by decide +kernel
theorem dX2_step_30 : decode cX2_step 30 = .ok (.iaload, 1) := by decide +kernel
theorem dX2_step_31 : decode cX2_step 31 = .ok (.ireturn, 1) := by decide +kernel
theorem dX2_step_32 : decode cX2_step 32 = .ok (.iload_n 1, 1) := by decide +kernel
theorem dX2_step_33 : decode cX2_step 33 = .ok (.sipush 200, 3) := by decide +kernel
theorem dX2_step_36 : decode cX2_step 36 = .ok (.if_icmp .lt 26, 3) := by decide +kernel
theorem dX2_step_39 : decode cX2_step 39 = .ok (.iload_n 1, 1) := by decide +kernel
theorem dX2_step_40 : decode cX2_step 40 = .ok (.sipush 200, 3) := by decide +kernel
theorem dX2_step_43 : decode cX2_step 43 = .ok (.aload_n 0, 1) := by decide +kernel
theorem dX2_step_44 : decode cX2_step 44 = .ok (.getfield 72, 3) := by decide +kernel
theorem dX2_step_47 : decode cX2_step 47 = .ok (.iadd, 1) := by decide +kernel
theorem dX2_step_48 : decode cX2_step 48 = .ok (.if_icmp .ge 14, 3) := by decide +kernel
theorem dX2_step_51 : decode cX2_step 51 = .ok (.aload_n 0, 1) := by decide +kernel
theorem dX2_step_52 : decode cX2_step 52 = .ok (.getfield 45, 3) := by decide +kernel
theorem dX2_step_55 : decode cX2_step 55 = .ok (.iload_n 1, 1) := by decide +kernel
theorem dX2_step_56 : decode cX2_step 56 = .ok (.sipush 200, 3) := by decide +kernel
theorem dX2_step_59 : decode cX2_step 59 = .ok (.isub, 1) := by decide +kernel
theorem dX2_step_60 : decode cX2_step 60 = .ok (.iaload, 1) := by decide +kernel
theorem dX2_step_61 : decode cX2_step 61 = .ok (.ireturn, 1) := by decide +kernel
theorem dX2_step_62 : decode cX2_step 62 = .ok (.iconst (-1), 1) := by decide +kernel
theorem dX2_step_63 : decode cX2_step 63 = .ok (.ireturn, 1) := by decide +kernel
set_option maxRecDepth 20000 in
theorem ggX2_gather_X2_openHours : GoodIn wsX2_gather wsX2_openHours := goodIn_r _ [10, 11, 12, 13, 14, 15, 16, 17, 18, 19, 20, 21, 22, 23, 24, 25, 26, 27, 28, 29, 30, 31, 32, 33, 34, 35, 36, 46, 47, 48, 49, 50, 51, 52, 53, 54, 55] (by decide +kernel) (by decide +kernel)
set_option maxRecDepth 20000 in
theorem gX2_gather_X2_openHours : GoodIn wsX2_gather (wsV RX2 95 RX2 yX2_openHours wsX2_openHours) := goodIn_app (goodIn_of _ (by decide +kernel)) ggX2_gather_X2_openHours
theorem dX2_gather_0 : decode cX2_gather 0 = .ok (.aload_n 0, 1) := by decide +kernel
theorem dX2_gather_1 : decode cX2_gather 1 = .ok (.iconst 0, 1) := by decide +kernel
theorem dX2_gather_2 : decode cX2_gather 2 = .ok (.putfield 76, 3) := by decide +kernel
theorem dX2_gather_5 : decode cX2_gather 5 = .ok (.iconst 0, 1) := by decide +kernel
theorem dX2_gather_6 : decode cX2_gather 6 = .ok (.istore 4, 2) := by decide +kernel
theorem dX2_gather_8 : decode cX2_gather 8 = .ok (.iload 4, 2) := by decide +kernel
theorem dX2_gather_10 : decode cX2_gather 10 = .ok (.bipush 10, 2) := by decide +kernel
theorem dX2_gather_12 : decode cX2_gather 12 = .ok (.if_icmp .ge 143, 3) := by decide +kernel
theorem dX2_gather_15 : decode cX2_gather 15 = .ok (.iload 4, 2) := by decide +kernel
theorem dX2_gather_17 : decode cX2_gather 17 = .ok (.aload_n 1, 1) := by decide +kernel
theorem dX2_gather_18 : decode cX2_gather 18 = .ok (.arraylength, 1) := by decide +kernel
theorem dX2_gather_19 : decode cX2_gather 19 = .ok (.if_icmp .ge 136, 3) := by decide +kernel
theorem dX2_gather_22 : decode cX2_gather 22 = .ok (.aload_n 1, 1) := by decide +kernel
theorem dX2_gather_23 : decode cX2_gather 23 = .ok (.iload 4, 2) := by decide +kernel
theorem dX2_gather_25 : decode cX2_gather 25 = .ok (.aaload, 1) := by decide +kernel
theorem dX2_gather_26 : decode cX2_gather 26 = .ok (.astore 5, 2) := by decide +kernel
theorem dX2_gather_28 : decode cX2_gather 28 = .ok (.aload 5, 2) := by decide +kernel
theorem dX2_gather_30 : decode cX2_gather 30 = .ok (.ifnull 119, 3) := by decide +kernel
theorem dX2_gather_33 : decode cX2_gather 33 = .ok (.aload 5, 2) := by decide +kernel
theorem dX2_gather_35 : decode cX2_gather 35 = .ok (.getfield 79, 3) := by decide +kernel
theorem dX2_gather_38 : decode cX2_gather 38 = .ok (.ifCond .le 111, 3) := by decide +kernel
theorem dX2_gather_41 : decode cX2_gather 41 = .ok (.aload_n 0, 1) := by decide +kernel
theorem dX2_gather_42 : decode cX2_gather 42 = .ok (.getfield 9, 3) := by decide +kernel
theorem dX2_gather_45 : decode cX2_gather 45 = .ok (.aload_n 0, 1) := by decide +kernel
theorem dX2_gather_46 : decode cX2_gather 46 = .ok (.getfield 76, 3) := by decide +kernel
theorem dX2_gather_49 : decode cX2_gather 49 = .ok (.iload 4, 2) := by decide +kernel
theorem dX2_gather_51 : decode cX2_gather 51 = .ok (.iastore, 1) := by decide +kernel
theorem dX2_gather_52 : decode cX2_gather 52 = .ok (.aload_n 0, 1) := by decide +kernel
theorem dX2_gather_53 : decode cX2_gather 53 = .ok (.getfield 15, 3) := by decide +kernel
theorem dX2_gather_56 : decode cX2_gather 56 = .ok (.aload_n 0, 1) := by decide +kernel
theorem dX2_gather_57 : decode cX2_gather 57 = .ok (.getfield 76, 3) := by decide +kernel
theorem dX2_gather_60 : decode cX2_gather 60 = .ok (.aload 5, 2) := by decide +kernel
theorem dX2_gather_62 : decode cX2_gather 62 = .ok (.getfield 84, 3) := by decide +kernel
theorem dX2_gather_65 : decode cX2_gather 65 = .ok (.iastore, 1) := by decide +kernel
theorem dX2_gather_66 : decode cX2_gather 66 = .ok (.aload_n 0, 1) := by decide +kernel
theorem dX2_gather_67 : decode cX2_gather 67 = .ok (.getfield 18, 3) := by decide +kernel
theorem dX2_gather_70 : decode cX2_gather 70 = .ok (.aload_n 0, 1) := by decide +kernel
theorem dX2_gather_71 : decode cX2_gather 71 = .ok (.getfield 76, 3) := by decide +kernel
theorem dX2_gather_74 : decode cX2_gather 74 = .ok (.aload 5, 2) := by decide +kernel
theorem dX2_gather_76 : decode cX2_gather 76 = .ok (.getfield 86, 3) := by decide +kernel
theorem dX2_gather_79 : decode cX2_gather 79 = .ok (.iastore, 1) := by decide +kernel
theorem dX2_gather_80 : decode cX2_gather 80 = .ok (.aload_n 0, 1) := by decide +kernel
theorem dX2_gather_81 : decode cX2_gather 81 = .ok (.getfield 21, 3) := by decide +kernel
theorem dX2_gather_84 : decode cX2_gather 84 = .ok (.aload_n 0, 1) := by decide +kernel
theorem dX2_gather_85 : decode cX2_gather 85 = .ok (.getfield 76, 3) := by decide +kernel
theorem dX2_gather_88 : decode cX2_gather 88 = .ok (.aload 5, 2) := by decide +kernel
theorem dX2_gather_90 : decode cX2_gather 90 = .ok (.getfield 79, 3) := by decide +kernel
theorem dX2_gather_93 : decode cX2_gather 93 = .ok (.iastore, 1) := by decide +kernel
theorem dX2_gather_94 : decode cX2_gather 94 = .ok (.aload 5, 2) := by decide +kernel
theorem dX2_gather_96 : decode cX2_gather 96 = .ok (.getfield 89, 3) := by decide +kernel
theorem dX2_gather_99 : decode cX2_gather 99 = .ok (.bipush 40, 2) := by decide +kernel
theorem dX2_gather_101 : decode cX2_gather 101 = .ok (.imul, 1) := by decide +kernel
theorem dX2_gather_102 : decode cX2_gather 102 = .ok (.aload 5, 2) := by decide +kernel
theorem dX2_gather_104 : decode cX2_gather 104 = .ok (.getfield 92, 3) := by decide +kernel
theorem dX2_gather_107 : decode cX2_gather 107 = .ok (.iadd, 1) := by decide +kernel
theorem dX2_gather_108 : decode cX2_gather 108 = .ok (.istore 6, 2) := by decide +kernel
theorem dX2_gather_110 : decode cX2_gather 110 = .ok (.aload_n 0, 1) := by decide +kernel
theorem dX2_gather_111 : decode cX2_gather 111 = .ok (.aload_n 0, 1) := by decide +kernel
theorem dX2_gather_112 : decode cX2_gather 112 = .ok (.getfield 76, 3) := by decide +kernel
theorem dX2_gather_115 : decode cX2_gather 115 = .ok (.iload 6, 2) := by decide +kernel
theorem dX2_gather_117 : decode cX2_gather 117 = .ok (.ifCond .lt 17, 3) := by decide +kernel
theorem dX2_gather_120 : decode cX2_gather 120 = .ok (.iload 6, 2) := by decide +kernel
theorem dX2_gather_122 : decode cX2_gather 122 = .ok (.aload_n 2, 1) := by decide +kernel
theorem dX2_gather_123 : decode cX2_gather 123 = .ok (.arraylength, 1) := by decide +kernel
theorem dX2_gather_124 : decode cX2_gather 124 = .ok (.if_icmp .ge 10, 3) := by decide +kernel
theorem dX2_gather_127 : decode cX2_gather 127 = .ok (.aload_n 2, 1) := by decide +kernel
theorem dX2_gather_128 : decode cX2_gather 128 = .ok (.iload 6, 2) := by decide +kernel
theorem dX2_gather_130 : decode cX2_gather 130 = .ok (.iaload, 1) := by decide +kernel
theorem dX2_gather_131 : decode cX2_gather 131 = .ok (.goto 4, 3) := by decide +kernel
theorem dX2_gather_134 : decode cX2_gather 134 = .ok (.iconst 0, 1) := by decide +kernel
theorem dX2_gather_135 : decode cX2_gather 135 = .ok (.aload_n 3, 1) := by decide +kernel
theorem dX2_gather_136 : decode cX2_gather 136 = .ok (.invokevirtual 95, 3) := by decide +kernel
theorem dX2_gather_139 : decode cX2_gather 139 = .ok (.aload_n 0, 1) := by decide +kernel
theorem dX2_gather_140 : decode cX2_gather 140 = .ok (.dup, 1) := by decide +kernel
theorem dX2_gather_141 : decode cX2_gather 141 = .ok (.getfield 76, 3) := by decide +kernel
theorem dX2_gather_144 : decode cX2_gather 144 = .ok (.iconst 1, 1) := by decide +kernel
theorem dX2_gather_145 : decode cX2_gather 145 = .ok (.iadd, 1) := by decide +kernel
theorem dX2_gather_146 : decode cX2_gather 146 = .ok (.putfield 76, 3) := by decide +kernel
theorem dX2_gather_149 : decode cX2_gather 149 = .ok (.iinc 4 1, 3) := by decide +kernel
theorem dX2_gather_152 : decode cX2_gather 152 = .ok (.goto (-144), 3) := by decide +kernel
theorem dX2_gather_155 : decode cX2_gather 155 = .ok (.return_, 1) := by decide +kernel
set_option maxRecDepth 20000 in
theorem ggX2_openHours_X4_mayBegin : GoodIn wsX2_openHours wsX4_mayBegin := goodIn_r _ [6, 7, 8, 9, 10, 27, 28, 29, 30, 31, 32, 33, 34, 35, 36] (by decide +kernel) (by decide +kernel)
set_option maxRecDepth 20000 in
theorem gX2_openHours_X4_mayBegin_n99 : GoodIn wsX2_openHours (wsX4_mayBegin) := ggX2_openHours_X4_mayBegin
theorem dX2_openHours_0 : decode cX2_openHours 0 = .ok (.iconst (-1), 1) := by decide +kernel
theorem dX2_openHours_1 : decode cX2_openHours 1 = .ok (.istore 4, 2) := by decide +kernel
theorem dX2_openHours_3 : decode cX2_openHours 3 = .ok (.iconst 0, 1) := by decide +kernel
theorem dX2_openHours_4 : decode cX2_openHours 4 = .ok (.istore 5, 2) := by decide +kernel
theorem dX2_openHours_6 : decode cX2_openHours 6 = .ok (.iload 5, 2) := by decide +kernel
theorem dX2_openHours_8 : decode cX2_openHours 8 = .ok (.bipush 24, 2) := by decide +kernel
theorem dX2_openHours_10 : decode cX2_openHours 10 = .ok (.if_icmp .ge 42, 3) := by decide +kernel
theorem dX2_openHours_13 : decode cX2_openHours 13 = .ok (.aload_n 3, 1) := by decide +kernel
theorem dX2_openHours_14 : decode cX2_openHours 14 = .ok (.iload_n 2, 1) := by decide +kernel
theorem dX2_openHours_15 : decode cX2_openHours 15 = .ok (.iload 5, 2) := by decide +kernel
theorem dX2_openHours_17 : decode cX2_openHours 17 = .ok (.invokevirtual 99, 3) := by decide +kernel
theorem dX2_openHours_20 : decode cX2_openHours 20 = .ok (.ifCond .eq 8, 3) := by decide +kernel
theorem dX2_openHours_23 : decode cX2_openHours 23 = .ok (.iload 5, 2) := by decide +kernel
theorem dX2_openHours_25 : decode cX2_openHours 25 = .ok (.goto 5, 3) := by decide +kernel
theorem dX2_openHours_28 : decode cX2_openHours 28 = .ok (.iload 4, 2) := by decide +kernel
theorem dX2_openHours_30 : decode cX2_openHours 30 = .ok (.istore 4, 2) := by decide +kernel
theorem dX2_openHours_32 : decode cX2_openHours 32 = .ok (.aload_n 0, 1) := by decide +kernel
theorem dX2_openHours_33 : decode cX2_openHours 33 = .ok (.getfield 30, 3) := by decide +kernel
theorem dX2_openHours_36 : decode cX2_openHours 36 = .ok (.iload_n 1, 1) := by decide +kernel
theorem dX2_openHours_37 : decode cX2_openHours 37 = .ok (.bipush 24, 2) := by decide +kernel
theorem dX2_openHours_39 : decode cX2_openHours 39 = .ok (.imul, 1) := by decide +kernel
theorem dX2_openHours_40 : decode cX2_openHours 40 = .ok (.iload 5, 2) := by decide +kernel
theorem dX2_openHours_42 : decode cX2_openHours 42 = .ok (.iadd, 1) := by decide +kernel
theorem dX2_openHours_43 : decode cX2_openHours 43 = .ok (.iload 4, 2) := by decide +kernel
theorem dX2_openHours_45 : decode cX2_openHours 45 = .ok (.iastore, 1) := by decide +kernel
theorem dX2_openHours_46 : decode cX2_openHours 46 = .ok (.iinc 5 1, 3) := by decide +kernel
theorem dX2_openHours_49 : decode cX2_openHours 49 = .ok (.goto (-43), 3) := by decide +kernel
theorem dX2_openHours_52 : decode cX2_openHours 52 = .ok (.iconst (-1), 1) := by decide +kernel
theorem dX2_openHours_53 : decode cX2_openHours 53 = .ok (.istore 5, 2) := by decide +kernel
theorem dX2_openHours_55 : decode cX2_openHours 55 = .ok (.bipush 23, 2) := by decide +kernel
theorem dX2_openHours_57 : decode cX2_openHours 57 = .ok (.istore 6, 2) := by decide +kernel
theorem dX2_openHours_59 : decode cX2_openHours 59 = .ok (.iload 6, 2) := by decide +kernel
theorem dX2_openHours_61 : decode cX2_openHours 61 = .ok (.ifCond .lt 42, 3) := by decide +kernel
theorem dX2_openHours_64 : decode cX2_openHours 64 = .ok (.aload_n 3, 1) := by decide +kernel
theorem dX2_openHours_65 : decode cX2_openHours 65 = .ok (.iload_n 2, 1) := by decide +kernel
theorem dX2_openHours_66 : decode cX2_openHours 66 = .ok (.iload 6, 2) := by decide +kernel
theorem dX2_openHours_68 : decode cX2_openHours 68 = .ok (.invokevirtual 99, 3) := by decide +kernel
theorem dX2_openHours_71 : decode cX2_openHours 71 = .ok (.ifCond .eq 8, 3) := by decide +kernel
theorem dX2_openHours_74 : decode cX2_openHours 74 = .ok (.iload 6, 2) := by decide +kernel
theorem dX2_openHours_76 : decode cX2_openHours 76 = .ok (.goto 5, 3) := by decide +kernel
theorem dX2_openHours_79 : decode cX2_openHours 79 = .ok (.iload 5, 2) := by decide +kernel
theorem dX2_openHours_81 : decode cX2_openHours 81 = .ok (.istore 5, 2) := by decide +kernel
theorem dX2_openHours_83 : decode cX2_openHours 83 = .ok (.aload_n 0, 1) := by decide +kernel
theorem dX2_openHours_84 : decode cX2_openHours 84 = .ok (.getfield 27, 3) := by decide +kernel
theorem dX2_openHours_87 : decode cX2_openHours 87 = .ok (.iload_n 1, 1) := by decide +kernel
theorem dX2_openHours_88 : decode cX2_openHours 88 = .ok (.bipush 24, 2) := by decide +kernel
theorem dX2_openHours_90 : decode cX2_openHours 90 = .ok (.imul, 1) := by decide +kernel
theorem dX2_openHours_91 : decode cX2_openHours 91 = .ok (.iload 6, 2) := by decide +kernel
theorem dX2_openHours_93 : decode cX2_openHours 93 = .ok (.iadd, 1) := by decide +kernel
theorem dX2_openHours_94 : decode cX2_openHours 94 = .ok (.iload 5, 2) := by decide +kernel
theorem dX2_openHours_96 : decode cX2_openHours 96 = .ok (.iastore, 1) := by decide +kernel
theorem dX2_openHours_97 : decode cX2_openHours 97 = .ok (.iinc 6 (-1), 3) := by decide +kernel
theorem dX2_openHours_100 : decode cX2_openHours 100 = .ok (.goto (-41), 3) := by decide +kernel
theorem dX2_openHours_103 : decode cX2_openHours 103 = .ok (.return_, 1) := by decide +kernel
set_option maxRecDepth 20000 in
theorem ggX2_measure_X2_markOfJob : GoodIn wsX2_measure wsX2_markOfJob := goodIn_r _ [7, 8, 19, 20, 21, 22, 23, 24, 25, 26, 27, 28, 29, 30, 31, 32, 33, 34] (by decide +kernel) (by decide +kernel)
set_option maxRecDepth 20000 in
theorem gX2_measure_X2_markOfJob : GoodIn wsX2_measure (wsV RX2 105 RX2 yX2_markOfJob wsX2_markOfJob) := goodIn_app (goodIn_of _ (by decide +kernel)) ggX2_measure_X2_markOfJob
set_option maxRecDepth 20000 in
theorem ggX2_measure_X2_way : GoodIn wsX2_measure wsX2_way := goodIn_r _ [11, 12, 13, 14, 15, 16, 17, 18, 35, 36, 37, 38, 39, 40, 41, 42, 43, 44, 45, 46, 47, 48, 49, 50, 51, 52, 53] (by decide +kernel) (by decide +kernel)
set_option maxRecDepth 20000 in
theorem gX2_measure_X2_way : GoodIn wsX2_measure (va_wsS RX2 109 yX2_way wsX2_way) := goodIn_app (goodIn_of _ (by decide +kernel)) ggX2_measure_X2_way
theorem dX2_measure_0 : decode cX2_measure 0 = .ok (.iconst 0, 1) := by decide +kernel
theorem dX2_measure_1 : decode cX2_measure 1 = .ok (.istore_n 3, 1) := by decide +kernel
theorem dX2_measure_2 : decode cX2_measure 2 = .ok (.iload_n 3, 1) := by decide +kernel
theorem dX2_measure_3 : decode cX2_measure 3 = .ok (.aload_n 0, 1) := by decide +kernel
theorem dX2_measure_4 : decode cX2_measure 4 = .ok (.getfield 76, 3) := by decide +kernel
theorem dX2_measure_7 : decode cX2_measure 7 = .ok (.if_icmp .ge 134, 3) := by decide +kernel
theorem dX2_measure_10 : decode cX2_measure 10 = .ok (.aload_n 0, 1) := by decide +kernel
theorem dX2_measure_11 : decode cX2_measure 11 = .ok (.aload_n 1, 1) := by decide +kernel
theorem dX2_measure_12 : decode cX2_measure 12 = .ok (.iload_n 3, 1) := by decide +kernel
theorem dX2_measure_13 : decode cX2_measure 13 = .ok (.invokevirtual 105, 3) := by decide +kernel
theorem dX2_measure_16 : decode cX2_measure 16 = .ok (.astore 4, 2) := by decide +kernel
theorem dX2_measure_18 : decode cX2_measure 18 = .ok (.iconst 0, 1) := by decide +kernel
theorem dX2_measure_19 : decode cX2_measure 19 = .ok (.istore 5, 2) := by decide +kernel
theorem dX2_measure_21 : decode cX2_measure 21 = .ok (.iload 5, 2) := by decide +kernel
theorem dX2_measure_23 : decode cX2_measure 23 = .ok (.aload_n 0, 1) := by decide +kernel
theorem dX2_measure_24 : decode cX2_measure 24 = .ok (.getfield 76, 3) := by decide +kernel
theorem dX2_measure_27 : decode cX2_measure 27 = .ok (.if_icmp .ge 56, 3) := by decide +kernel
theorem dX2_measure_30 : decode cX2_measure 30 = .ok (.aload_n 0, 1) := by decide +kernel
theorem dX2_measure_31 : decode cX2_measure 31 = .ok (.aload_n 1, 1) := by decide +kernel
theorem dX2_measure_32 : decode cX2_measure 32 = .ok (.iload 5, 2) := by decide +kernel
theorem dX2_measure_34 : decode cX2_measure 34 = .ok (.invokevirtual 105, 3) := by decide +kernel
theorem dX2_measure_37 : decode cX2_measure 37 = .ok (.astore 6, 2) := by decide +kernel
theorem dX2_measure_39 : decode cX2_measure 39 = .ok (.aload 4, 2) := by decide +kernel
theorem dX2_measure_41 : decode cX2_measure 41 = .ok (.ifnull 36, 3) := by decide +kernel
theorem dX2_measure_44 : decode cX2_measure 44 = .ok (.aload 6, 2) := by decide +kernel
theorem dX2_measure_46 : decode cX2_measure 46 = .ok (.ifnull 31, 3) := by decide +kernel
theorem dX2_measure_49 : decode cX2_measure 49 = .ok (.aload_n 0, 1) := by decide +kernel
theorem dX2_measure_50 : decode cX2_measure 50 = .ok (.getfield 24, 3) := by decide +kernel
theorem dX2_measure_53 : decode cX2_measure 53 = .ok (.iload_n 3, 1) := by decide +kernel
theorem dX2_measure_54 : decode cX2_measure 54 = .ok (.bipush 11, 2) := by decide +kernel
theorem dX2_measure_56 : decode cX2_measure 56 = .ok (.imul, 1) := by decide +kernel
theorem dX2_measure_57 : decode cX2_measure 57 = .ok (.iload 5, 2) := by decide +kernel
theorem dX2_measure_59 : decode cX2_measure 59 = .ok (.iadd, 1) := by decide +kernel
theorem dX2_measure_60 : decode cX2_measure 60 = .ok (.aload 4, 2) := by decide +kernel
theorem dX2_measure_62 : decode cX2_measure 62 = .ok (.aload 6, 2) := by decide +kernel
theorem dX2_measure_64 : decode cX2_measure 64 = .ok (.getfield 92, 3) := by decide +kernel
theorem dX2_measure_67 : decode cX2_measure 67 = .ok (.aload 6, 2) := by decide +kernel
theorem dX2_measure_69 : decode cX2_measure 69 = .ok (.getfield 89, 3) := by decide +kernel
theorem dX2_measure_72 : decode cX2_measure 72 = .ok (.aload_n 2, 1) := by decide +kernel
theorem dX2_measure_73 : decode cX2_measure 73 = .ok (.invokestatic 109, 3) := by decide +kernel
theorem dX2_measure_76 : decode cX2_measure 76 = .ok (.iastore, 1) := by decide +kernel
theorem dX2_measure_77 : decode cX2_measure 77 = .ok (.iinc 5 1, 3) := by decide +kernel
theorem dX2_measure_80 : decode cX2_measure 80 = .ok (.goto (-59), 3) := by decide +kernel
theorem dX2_measure_83 : decode cX2_measure 83 = .ok (.aload 4, 2) := by decide +kernel
theorem dX2_measure_85 : decode cX2_measure 85 = .ok (.ifnull 50, 3) := by decide +kernel
theorem dX2_measure_88 : decode cX2_measure 88 = .ok (.aload_n 0, 1) := by decide +kernel
theorem dX2_measure_89 : decode cX2_measure 89 = .ok (.getfield 24, 3) := by decide +kernel
theorem dX2_measure_92 : decode cX2_measure 92 = .ok (.iload_n 3, 1) := by decide +kernel
theorem dX2_measure_93 : decode cX2_measure 93 = .ok (.bipush 11, 2) := by decide +kernel
theorem dX2_measure_95 : decode cX2_measure 95 = .ok (.imul, 1) := by decide +kernel
theorem dX2_measure_96 : decode cX2_measure 96 = .ok (.bipush 10, 2) := by decide +kernel
theorem dX2_measure_98 : decode cX2_measure 98 = .ok (.iadd, 1) := by decide +kernel
theorem dX2_measure_99 : decode cX2_measure 99 = .ok (.aload 4, 2) := by decide +kernel
theorem dX2_measure_101 : decode cX2_measure 101 = .ok (.aload_n 2, 1) := by decide +kernel
theorem dX2_measure_102 : decode cX2_measure 102 = .ok (.getfield 113, 3) := by decide +kernel
theorem dX2_measure_105 : decode cX2_measure 105 = .ok (.aload_n 2, 1) := by decide +kernel
theorem dX2_measure_106 : decode cX2_measure 106 = .ok (.getfield 114, 3) := by decide +kernel
theorem dX2_measure_109 : decode cX2_measure 109 = .ok (.aload_n 2, 1) := by decide +kernel
theorem dX2_measure_110 : decode cX2_measure 110 = .ok (.invokestatic 109, 3) := by decide +kernel
theorem dX2_measure_113 : decode cX2_measure 113 = .ok (.iastore, 1) := by decide +kernel
theorem dX2_measure_114 : decode cX2_measure 114 = .ok (.aload_n 0, 1) := by decide +kernel
theorem dX2_measure_115 : decode cX2_measure 115 = .ok (.getfield 24, 3) := by decide +kernel
theorem dX2_measure_118 : decode cX2_measure 118 = .ok (.bipush 110, 2) := by decide +kernel
theorem dX2_measure_120 : decode cX2_measure 120 = .ok (.iload_n 3, 1) := by decide +kernel
theorem dX2_measure_121 : decode cX2_measure 121 = .ok (.iadd, 1) := by decide +kernel
theorem dX2_measure_122 : decode cX2_measure 122 = .ok (.aload_n 0, 1) := by decide +kernel
theorem dX2_measure_123 : decode cX2_measure 123 = .ok (.getfield 24, 3) := by decide +kernel
theorem dX2_measure_126 : decode cX2_measure 126 = .ok (.iload_n 3, 1) := by decide +kernel
theorem dX2_measure_127 : decode cX2_measure 127 = .ok (.bipush 11, 2) := by decide +kernel
theorem dX2_measure_129 : decode cX2_measure 129 = .ok (.imul, 1) := by decide +kernel
theorem dX2_measure_130 : decode cX2_measure 130 = .ok (.bipush 10, 2) := by decide +kernel
theorem dX2_measure_132 : decode cX2_measure 132 = .ok (.iadd, 1) := by decide +kernel
theorem dX2_measure_133 : decode cX2_measure 133 = .ok (.iaload, 1) := by decide +kernel
theorem dX2_measure_134 : decode cX2_measure 134 = .ok (.iastore, 1) := by decide +kernel
theorem dX2_measure_135 : decode cX2_measure 135 = .ok (.iinc 3 1, 3) := by decide +kernel
theorem dX2_measure_138 : decode cX2_measure 138 = .ok (.goto (-136), 3) := by decide +kernel
theorem dX2_measure_141 : decode cX2_measure 141 = .ok (.return_, 1) := by decide +kernel
theorem dX2_markOfJob_0 : decode cX2_markOfJob 0 = .ok (.aload_n 0, 1) := by decide +kernel
theorem dX2_markOfJob_1 : decode cX2_markOfJob 1 = .ok (.getfield 9, 3) := by decide +kernel
theorem dX2_markOfJob_4 : decode cX2_markOfJob 4 = .ok (.iload_n 2, 1) := by decide +kernel
theorem dX2_markOfJob_5 : decode cX2_markOfJob 5 = .ok (.iaload, 1) := by decide +kernel
theorem dX2_markOfJob_6 : decode cX2_markOfJob 6 = .ok (.istore_n 3, 1) := by decide +kernel
theorem dX2_markOfJob_7 : decode cX2_markOfJob 7 = .ok (.iload_n 3, 1) := by decide +kernel
theorem dX2_markOfJob_8 : decode cX2_markOfJob 8 = .ok (.ifCond .lt 15, 3) := by decide +kernel
theorem dX2_markOfJob_11 : decode cX2_markOfJob 11 = .ok (.iload_n 3, 1) := by decide +kernel
theorem dX2_markOfJob_12 : decode cX2_markOfJob 12 = .ok (.aload_n 1, 1) := by decide +kernel
theorem dX2_markOfJob_13 : decode cX2_markOfJob 13 = .ok (.arraylength, 1) := by decide +kernel
theorem dX2_markOfJob_14 : decode cX2_markOfJob 14 = .ok (.if_icmp .ge 9, 3) := by decide +kernel
theorem dX2_markOfJob_17 : decode cX2_markOfJob 17 = .ok (.aload_n 1, 1) := by decide +kernel
theorem dX2_markOfJob_18 : decode cX2_markOfJob 18 = .ok (.iload_n 3, 1) := by decide +kernel
theorem dX2_markOfJob_19 : decode cX2_markOfJob 19 = .ok (.aaload, 1) := by decide +kernel
theorem dX2_markOfJob_20 : decode cX2_markOfJob 20 = .ok (.goto 4, 3) := by decide +kernel
theorem dX2_markOfJob_23 : decode cX2_markOfJob 23 = .ok (.aconst_null, 1) := by decide +kernel
theorem dX2_markOfJob_24 : decode cX2_markOfJob 24 = .ok (.areturn, 1) := by decide +kernel
theorem dX2_way_0 : decode cX2_way 0 = .ok (.aload_n 0, 1) := by decide +kernel
theorem dX2_way_1 : decode cX2_way 1 = .ok (.getfield 92, 3) := by decide +kernel
theorem dX2_way_4 : decode cX2_way 4 = .ok (.iload_n 1, 1) := by decide +kernel
theorem dX2_way_5 : decode cX2_way 5 = .ok (.isub, 1) := by decide +kernel
theorem dX2_way_6 : decode cX2_way 6 = .ok (.invokestatic 115, 3) := by decide +kernel
theorem dX2_way_9 : decode cX2_way 9 = .ok (.aload_n 0, 1) := by decide +kernel
theorem dX2_way_10 : decode cX2_way 10 = .ok (.getfield 89, 3) := by decide +kernel
theorem dX2_way_13 : decode cX2_way 13 = .ok (.iload_n 2, 1) := by decide +kernel
theorem dX2_way_14 : decode cX2_way 14 = .ok (.isub, 1) := by decide +kernel
theorem dX2_way_15 : decode cX2_way 15 = .ok (.invokestatic 115, 3) := by decide +kernel
theorem dX2_way_18 : decode cX2_way 18 = .ok (.invokestatic 121, 3) := by decide +kernel
theorem dX2_way_21 : decode cX2_way 21 = .ok (.aload_n 3, 1) := by decide +kernel
theorem dX2_way_22 : decode cX2_way 22 = .ok (.getfield 125, 3) := by decide +kernel
theorem dX2_way_25 : decode cX2_way 25 = .ok (.imul, 1) := by decide +kernel
theorem dX2_way_26 : decode cX2_way 26 = .ok (.ireturn, 1) := by decide +kernel
theorem dX2_isIn_0 : decode cX2_isIn 0 = .ok (.iload_n 1, 1) := by decide +kernel
theorem dX2_isIn_1 : decode cX2_isIn 1 = .ok (.iload_n 0, 1) := by decide +kernel
theorem dX2_isIn_2 : decode cX2_isIn 2 = .ok (.ishr, 1) := by decide +kernel
theorem dX2_isIn_3 : decode cX2_isIn 3 = .ok (.iconst 1, 1) := by decide +kernel
theorem dX2_isIn_4 : decode cX2_isIn 4 = .ok (.iand, 1) := by decide +kernel
theorem dX2_isIn_5 : decode cX2_isIn 5 = .ok (.iconst 1, 1) := by decide +kernel
theorem dX2_isIn_6 : decode cX2_isIn 6 = .ok (.if_icmp .ne 7, 3) := by decide +kernel
theorem dX2_isIn_9 : decode cX2_isIn 9 = .ok (.iconst 1, 1) := by decide +kernel
theorem dX2_isIn_10 : decode cX2_isIn 10 = .ok (.goto 4, 3) := by decide +kernel
theorem dX2_isIn_13 : decode cX2_isIn 13 = .ok (.iconst 0, 1) := by decide +kernel
theorem dX2_isIn_14 : decode cX2_isIn 14 = .ok (.ireturn, 1) := by decide +kernel
theorem dX2_without_0 : decode cX2_without 0 = .ok (.iload_n 1, 1) := by decide +kernel
theorem dX2_without_1 : decode cX2_without 1 = .ok (.iconst 1, 1) := by decide +kernel
theorem dX2_without_2 : decode cX2_without 2 = .ok (.iload_n 0, 1) := by decide +kernel
theorem dX2_without_3 : decode cX2_without 3 = .ok (.ishl, 1) := by decide +kernel
theorem dX2_without_4 : decode cX2_without 4 = .ok (.iconst (-1), 1) := by decide +kernel
theorem dX2_without_5 : decode cX2_without 5 = .ok (.ixor, 1) := by decide +kernel
theorem dX2_without_6 : decode cX2_without 6 = .ok (.iand, 1) := by decide +kernel
theorem dX2_without_7 : decode cX2_without 7 = .ok (.ireturn, 1) := by decide +kernel
set_option maxRecDepth 20000 in
theorem ggX2_sumOver_X2_isIn : GoodIn wsX2_sumOver wsX2_isIn := goodIn_r _ [5] (by decide +kernel) (by decide +kernel)
set_option maxRecDepth 20000 in
theorem gX2_sumOver_X2_isIn : GoodIn wsX2_sumOver (va_wsS RX2 128 yX2_isIn wsX2_isIn) := goodIn_app (goodIn_of _ (by decide +kernel)) ggX2_sumOver_X2_isIn
theorem dX2_sumOver_0 : decode cX2_sumOver 0 = .ok (.iconst 0, 1) := by decide +kernel
theorem dX2_sumOver_1 : decode cX2_sumOver 1 = .ok (.istore_n 3, 1) := by decide +kernel
theorem dX2_sumOver_2 : decode cX2_sumOver 2 = .ok (.iconst 0, 1) := by decide +kernel
theorem dX2_sumOver_3 : decode cX2_sumOver 3 = .ok (.istore 4, 2) := by decide +kernel
theorem dX2_sumOver_5 : decode cX2_sumOver 5 = .ok (.iload 4, 2) := by decide +kernel
theorem dX2_sumOver_7 : decode cX2_sumOver 7 = .ok (.aload_n 0, 1) := by decide +kernel
theorem dX2_sumOver_8 : decode cX2_sumOver 8 = .ok (.getfield 76, 3) := by decide +kernel
theorem dX2_sumOver_11 : decode cX2_sumOver 11 = .ok (.if_icmp .ge 36, 3) := by decide +kernel
theorem dX2_sumOver_14 : decode cX2_sumOver 14 = .ok (.iload 4, 2) := by decide +kernel
theorem dX2_sumOver_16 : decode cX2_sumOver 16 = .ok (.aload_n 2, 1) := by decide +kernel
theorem dX2_sumOver_17 : decode cX2_sumOver 17 = .ok (.arraylength, 1) := by decide +kernel
theorem dX2_sumOver_18 : decode cX2_sumOver 18 = .ok (.if_icmp .ge 29, 3) := by decide +kernel
theorem dX2_sumOver_21 : decode cX2_sumOver 21 = .ok (.iload_n 3, 1) := by decide +kernel
theorem dX2_sumOver_22 : decode cX2_sumOver 22 = .ok (.iload 4, 2) := by decide +kernel
theorem dX2_sumOver_24 : decode cX2_sumOver 24 = .ok (.iload_n 1, 1) := by decide +kernel
theorem dX2_sumOver_25 : decode cX2_sumOver 25 = .ok (.invokestatic 128, 3) := by decide +kernel
theorem dX2_sumOver_28 : decode cX2_sumOver 28 = .ok (.ifCond .eq 10, 3) := by decide +kernel
theorem dX2_sumOver_31 : decode cX2_sumOver 31 = .ok (.aload_n 2, 1) := by decide +kernel
theorem dX2_sumOver_32 : decode cX2_sumOver 32 = .ok (.iload 4, 2) := by decide +kernel
theorem dX2_sumOver_34 : decode cX2_sumOver 34 = .ok (.iaload, 1) := by decide +kernel
theorem dX2_sumOver_35 : decode cX2_sumOver 35 = .ok (.goto 4, 3) := by decide +kernel
theorem dX2_sumOver_38 : decode cX2_sumOver 38 = .ok (.iconst 0, 1) := by decide +kernel
theorem dX2_sumOver_39 : decode cX2_sumOver 39 = .ok (.iadd, 1) := by decide +kernel
theorem dX2_sumOver_40 : decode cX2_sumOver 40 = .ok (.istore_n 3, 1) := by decide +kernel
theorem dX2_sumOver_41 : decode cX2_sumOver 41 = .ok (.iinc 4 1, 3) := by decide +kernel
theorem dX2_sumOver_44 : decode cX2_sumOver 44 = .ok (.goto (-39), 3) := by decide +kernel
theorem dX2_sumOver_47 : decode cX2_sumOver 47 = .ok (.iload_n 3, 1) := by decide +kernel
theorem dX2_sumOver_48 : decode cX2_sumOver 48 = .ok (.ireturn, 1) := by decide +kernel
theorem dX2_beginFrom_0 : decode cX2_beginFrom 0 = .ok (.iload_n 2, 1) := by decide +kernel
theorem dX2_beginFrom_1 : decode cX2_beginFrom 1 = .ok (.ifCond .lt 10, 3) := by decide +kernel
theorem dX2_beginFrom_4 : decode cX2_beginFrom 4 = .ok (.iload_n 2, 1) := by decide +kernel
theorem dX2_beginFrom_5 : decode cX2_beginFrom 5 = .ok (.sipush 1440, 3) := by decide +kernel
theorem dX2_beginFrom_8 : decode cX2_beginFrom 8 = .ok (.if_icmp .lt 6, 3) := by decide +kernel
theorem dX2_beginFrom_11 : decode cX2_beginFrom 11 = .ok (.ldc 131, 2) := by decide +kernel
theorem dX2_beginFrom_13 : decode cX2_beginFrom 13 = .ok (.ireturn, 1) := by decide +kernel
theorem dX2_beginFrom_14 : decode cX2_beginFrom 14 = .ok (.iload_n 2, 1) := by decide +kernel
theorem dX2_beginFrom_15 : decode cX2_beginFrom 15 = .ok (.bipush 60, 2) := by decide +kernel
theorem dX2_beginFrom_17 : decode cX2_beginFrom 17 = .ok (.idiv, 1) := by decide +kernel
theorem dX2_beginFrom_18 : decode cX2_beginFrom 18 = .ok (.istore_n 3, 1) := by decide +kernel
theorem dX2_beginFrom_19 : decode cX2_beginFrom 19 = .ok (.aload_n 0, 1) := by decide +kernel
theorem dX2_beginFrom_20 : decode cX2_beginFrom 20 = .ok (.getfield 27, 3) := by decide +kernel
theorem dX2_beginFrom_23 : decode cX2_beginFrom 23 = .ok (.iload_n 1, 1) := by decide +kernel
theorem dX2_beginFrom_24 : decode cX2_beginFrom 24 = .ok (.bipush 24, 2) := by decide +kernel
theorem dX2_beginFrom_26 : decode cX2_beginFrom 26 = .ok (.imul, 1) := by decide +kernel
theorem dX2_beginFrom_27 : decode cX2_beginFrom 27 = .ok (.iload_n 3, 1) := by decide +kernel
theorem dX2_beginFrom_28 : decode cX2_beginFrom 28 = .ok (.iadd, 1) := by decide +kernel
theorem dX2_beginFrom_29 : decode cX2_beginFrom 29 = .ok (.iaload, 1) := by decide +kernel
theorem dX2_beginFrom_30 : decode cX2_beginFrom 30 = .ok (.istore 4, 2) := by decide +kernel
theorem dX2_beginFrom_32 : decode cX2_beginFrom 32 = .ok (.iload 4, 2) := by decide +kernel
theorem dX2_beginFrom_34 : decode cX2_beginFrom 34 = .ok (.iconst (-1), 1) := by decide +kernel
theorem dX2_beginFrom_35 : decode cX2_beginFrom 35 = .ok (.if_icmp .ne 6, 3) := by decide +kernel
theorem dX2_beginFrom_38 : decode cX2_beginFrom 38 = .ok (.ldc 131, 2) := by decide +kernel
theorem dX2_beginFrom_40 : decode cX2_beginFrom 40 = .ok (.ireturn, 1) := by decide +kernel
theorem dX2_beginFrom_41 : decode cX2_beginFrom 41 = .ok (.iload 4, 2) := by decide +kernel
theorem dX2_beginFrom_43 : decode cX2_beginFrom 43 = .ok (.iload_n 3, 1) := by decide +kernel
theorem dX2_beginFrom_44 : decode cX2_beginFrom 44 = .ok (.if_icmp .ne 7, 3) := by decide +kernel
theorem dX2_beginFrom_47 : decode cX2_beginFrom 47 = .ok (.iload_n 2, 1) := by decide +kernel
theorem dX2_beginFrom_48 : decode cX2_beginFrom 48 = .ok (.goto 8, 3) := by decide +kernel
theorem dX2_beginFrom_51 : decode cX2_beginFrom 51 = .ok (.iload 4, 2) := by decide +kernel
theorem dX2_beginFrom_53 : decode cX2_beginFrom 53 = .ok (.bipush 60, 2) := by decide +kernel
theorem dX2_beginFrom_55 : decode cX2_beginFrom 55 = .ok (.imul, 1) := by decide +kernel
theorem dX2_beginFrom_56 : decode cX2_beginFrom 56 = .ok (.ireturn, 1) := by decide +kernel
theorem dX2_beginUpTo_0 : decode cX2_beginUpTo 0 = .ok (.iload_n 2, 1) := by decide +kernel
theorem dX2_beginUpTo_1 : decode cX2_beginUpTo 1 = .ok (.ifCond .ge 6, 3) := by decide +kernel
theorem dX2_beginUpTo_4 : decode cX2_beginUpTo 4 = .ok (.ldc 132, 2) := by decide +kernel
theorem dX2_beginUpTo_6 : decode cX2_beginUpTo 6 = .ok (.ireturn, 1) := by decide +kernel
theorem dX2_beginUpTo_7 : decode cX2_beginUpTo 7 = .ok (.iload_n 2, 1) := by decide +kernel
theorem dX2_beginUpTo_8 : decode cX2_beginUpTo 8 = .ok (.sipush 1439, 3) := by decide +kernel
theorem dX2_beginUpTo_11 : decode cX2_beginUpTo 11 = .ok (.invokestatic 133, 3) := by decide +kernel
theorem dX2_beginUpTo_14 : decode cX2_beginUpTo 14 = .ok (.istore_n 3, 1) := by decide +kernel
theorem dX2_beginUpTo_15 : decode cX2_beginUpTo 15 = .ok (.iload_n 3, 1) := by decide +kernel
theorem dX2_beginUpTo_16 : decode cX2_beginUpTo 16 = .ok (.bipush 60, 2) := by decide +kernel
theorem dX2_beginUpTo_18 : decode cX2_beginUpTo 18 = .ok (.idiv, 1) := by decide +kernel
theorem dX2_beginUpTo_19 : decode cX2_beginUpTo 19 = .ok (.istore 4, 2) := by decide +kernel
theorem dX2_beginUpTo_21 : decode cX2_beginUpTo 21 = .ok (.aload_n 0, 1) := by decide +kernel
theorem dX2_beginUpTo_22 : decode cX2_beginUpTo 22 = .ok (.getfield 30, 3) := by decide +kernel
theorem dX2_beginUpTo_25 : decode cX2_beginUpTo 25 = .ok (.iload_n 1, 1) := by decide +kernel
theorem dX2_beginUpTo_26 : decode cX2_beginUpTo 26 = .ok (.bipush 24, 2) := by decide +kernel
theorem dX2_beginUpTo_28 : decode cX2_beginUpTo 28 = .ok (.imul, 1) := by decide +kernel
theorem dX2_beginUpTo_29 : decode cX2_beginUpTo 29 = .ok (.iload 4, 2) := by decide +kernel
theorem dX2_beginUpTo_31 : decode cX2_beginUpTo 31 = .ok (.iadd, 1) := by decide +kernel
theorem dX2_beginUpTo_32 : decode cX2_beginUpTo 32 = .ok (.iaload, 1) := by decide +kernel
theorem dX2_beginUpTo_33 : decode cX2_beginUpTo 33 = .ok (.istore 5, 2) := by decide +kernel
theorem dX2_beginUpTo_35 : decode cX2_beginUpTo 35 = .ok (.iload 5, 2) := by decide +kernel
theorem dX2_beginUpTo_37 : decode cX2_beginUpTo 37 = .ok (.iconst (-1), 1) := by decide +kernel
theorem dX2_beginUpTo_38 : decode cX2_beginUpTo 38 = .ok (.if_icmp .ne 6, 3) := by decide +kernel
theorem dX2_beginUpTo_41 : decode cX2_beginUpTo 41 = .ok (.ldc 132, 2) := by decide +kernel
theorem dX2_beginUpTo_43 : decode cX2_beginUpTo 43 = .ok (.ireturn, 1) := by decide +kernel
theorem dX2_beginUpTo_44 : decode cX2_beginUpTo 44 = .ok (.iload 5, 2) := by decide +kernel
theorem dX2_beginUpTo_46 : decode cX2_beginUpTo 46 = .ok (.iload 4, 2) := by decide +kernel
theorem dX2_beginUpTo_48 : decode cX2_beginUpTo 48 = .ok (.if_icmp .ne 7, 3) := by decide +kernel
theorem dX2_beginUpTo_51 : decode cX2_beginUpTo 51 = .ok (.iload_n 3, 1) := by decide +kernel
theorem dX2_beginUpTo_52 : decode cX2_beginUpTo 52 = .ok (.goto 13, 3) := by decide +kernel
theorem dX2_beginUpTo_55 : decode cX2_beginUpTo 55 = .ok (.iload 5, 2) := by decide +kernel
theorem dX2_beginUpTo_57 : decode cX2_beginUpTo 57 = .ok (.bipush 60, 2) := by decide +kernel
theorem dX2_beginUpTo_59 : decode cX2_beginUpTo 59 = .ok (.imul, 1) := by decide +kernel
theorem dX2_beginUpTo_60 : decode cX2_beginUpTo 60 = .ok (.bipush 60, 2) := by decide +kernel
theorem dX2_beginUpTo_62 : decode cX2_beginUpTo 62 = .ok (.iadd, 1) := by decide +kernel
theorem dX2_beginUpTo_63 : decode cX2_beginUpTo 63 = .ok (.iconst 1, 1) := by decide +kernel
theorem dX2_beginUpTo_64 : decode cX2_beginUpTo 64 = .ok (.isub, 1) := by decide +kernel
theorem dX2_beginUpTo_65 : decode cX2_beginUpTo 65 = .ok (.ireturn, 1) := by decide +kernel
set_option maxRecDepth 20000 in
theorem ggX2_findEarliestEnds_X2_sumOver : GoodIn wsX2_findEarliestEnds wsX2_sumOver := goodIn_r _ [15, 2, 16, 17, 14, 18, 32, 33, 34, 35, 36, 37, 38, 39, 40, 41, 42, 43, 44, 45, 46, 47] (by decide +kernel) (by decide +kernel)
set_option maxRecDepth 20000 in
theorem gX2_findEarliestEnds_X2_sumOver : GoodIn wsX2_findEarliestEnds (wsV RX2 139 RX2 yX2_sumOver wsX2_sumOver) := goodIn_app (goodIn_of _ (by decide +kernel)) ggX2_findEarliestEnds_X2_sumOver
set_option maxRecDepth 20000 in
theorem ggX2_findEarliestEnds_X2_isIn : GoodIn wsX2_findEarliestEnds wsX2_isIn := goodIn_r _ [18] (by decide +kernel) (by decide +kernel)
set_option maxRecDepth 20000 in
theorem gX2_findEarliestEnds_X2_isIn : GoodIn wsX2_findEarliestEnds (va_wsS RX2 128 yX2_isIn wsX2_isIn) := goodIn_app (goodIn_of _ (by decide +kernel)) ggX2_findEarliestEnds_X2_isIn
set_option maxRecDepth 20000 in
theorem ggX2_findEarliestEnds_X2_earliestEnd : GoodIn wsX2_findEarliestEnds wsX2_earliestEnd := goodIn_r _ [22, 6, 3, 2, 5, 7, 8, 9, 10, 23, 24, 25, 14, 26, 16, 17, 18, 27, 28, 29, 30, 31, 48, 49, 50, 51, 52, 53, 54, 55, 56, 57, 32, 33, 34, 35, 36, 37, 38, 39, 40, 41, 42, 43, 44, 45, 46, 47] (by decide +kernel) (by decide +kernel)
set_option maxRecDepth 20000 in
theorem gX2_findEarliestEnds_X2_earliestEnd : GoodIn wsX2_findEarliestEnds (wsV RX2 146 RX2 yX2_earliestEnd wsX2_earliestEnd) := goodIn_app (goodIn_of _ (by decide +kernel)) ggX2_findEarliestEnds_X2_earliestEnd
theorem dX2_findEarliestEnds_0 : decode cX2_findEarliestEnds 0 = .ok (.aload_n 0, 1) := by decide +kernel
theorem dX2_findEarliestEnds_1 : decode cX2_findEarliestEnds 1 = .ok (.getfield 36, 3) := by decide +kernel
theorem dX2_findEarliestEnds_4 : decode cX2_findEarliestEnds 4 = .ok (.iconst 0, 1) := by decide +kernel
theorem dX2_findEarliestEnds_5 : decode cX2_findEarliestEnds 5 = .ok (.aload_n 1, 1) := by decide +kernel
theorem dX2_findEarliestEnds_6 : decode cX2_findEarliestEnds 6 = .ok (.getfield 136, 3) := by decide +kernel
theorem dX2_findEarliestEnds_9 : decode cX2_findEarliestEnds 9 = .ok (.iastore, 1) := by decide +kernel
theorem dX2_findEarliestEnds_10 : decode cX2_findEarliestEnds 10 = .ok (.iconst 1, 1) := by decide +kernel
theorem dX2_findEarliestEnds_11 : decode cX2_findEarliestEnds 11 = .ok (.istore_n 2, 1) := by decide +kernel
theorem dX2_findEarliestEnds_12 : decode cX2_findEarliestEnds 12 = .ok (.iload_n 2, 1) := by decide +kernel
theorem dX2_findEarliestEnds_13 : decode cX2_findEarliestEnds 13 = .ok (.iconst 1, 1) := by decide +kernel
theorem dX2_findEarliestEnds_14 : decode cX2_findEarliestEnds 14 = .ok (.aload_n 0, 1) := by decide +kernel
theorem dX2_findEarliestEnds_15 : decode cX2_findEarliestEnds 15 = .ok (.getfield 76, 3) := by decide +kernel
theorem dX2_findEarliestEnds_18 : decode cX2_findEarliestEnds 18 = .ok (.ishl, 1) := by decide +kernel
theorem dX2_findEarliestEnds_19 : decode cX2_findEarliestEnds 19 = .ok (.if_icmp .ge 137, 3) := by decide +kernel
theorem dX2_findEarliestEnds_22 : decode cX2_findEarliestEnds 22 = .ok (.ldc 131, 2) := by decide +kernel
theorem dX2_findEarliestEnds_24 : decode cX2_findEarliestEnds 24 = .ok (.istore_n 3, 1) := by decide +kernel
theorem dX2_findEarliestEnds_25 : decode cX2_findEarliestEnds 25 = .ok (.aload_n 0, 1) := by decide +kernel
theorem dX2_findEarliestEnds_26 : decode cX2_findEarliestEnds 26 = .ok (.iload_n 2, 1) := by decide +kernel
theorem dX2_findEarliestEnds_27 : decode cX2_findEarliestEnds 27 = .ok (.aload_n 0, 1) := by decide +kernel
theorem dX2_findEarliestEnds_28 : decode cX2_findEarliestEnds 28 = .ok (.getfield 18, 3) := by decide +kernel
theorem dX2_findEarliestEnds_31 : decode cX2_findEarliestEnds 31 = .ok (.invokevirtual 139, 3) := by decide +kernel
theorem dX2_findEarliestEnds_34 : decode cX2_findEarliestEnds 34 = .ok (.aload_n 1, 1) := by decide +kernel
theorem dX2_findEarliestEnds_35 : decode cX2_findEarliestEnds 35 = .ok (.getfield 143, 3) := by decide +kernel
theorem dX2_findEarliestEnds_38 : decode cX2_findEarliestEnds 38 = .ok (.if_icmp .gt 7, 3) := by decide +kernel
theorem dX2_findEarliestEnds_41 : decode cX2_findEarliestEnds 41 = .ok (.iconst 1, 1) := by decide +kernel
theorem dX2_findEarliestEnds_42 : decode cX2_findEarliestEnds 42 = .ok (.goto 4, 3) := by decide +kernel
theorem dX2_findEarliestEnds_45 : decode cX2_findEarliestEnds 45 = .ok (.iconst 0, 1) := by decide +kernel
theorem dX2_findEarliestEnds_46 : decode cX2_findEarliestEnds 46 = .ok (.istore 4, 2) := by decide +kernel
theorem dX2_findEarliestEnds_48 : decode cX2_findEarliestEnds 48 = .ok (.iconst 0, 1) := by decide +kernel
theorem dX2_findEarliestEnds_49 : decode cX2_findEarliestEnds 49 = .ok (.istore 5, 2) := by decide +kernel
theorem dX2_findEarliestEnds_51 : decode cX2_findEarliestEnds 51 = .ok (.iload 5, 2) := by decide +kernel
theorem dX2_findEarliestEnds_53 : decode cX2_findEarliestEnds 53 = .ok (.aload_n 0, 1) := by decide +kernel
theorem dX2_findEarliestEnds_54 : decode cX2_findEarliestEnds 54 = .ok (.getfield 76, 3) := by decide +kernel
theorem dX2_findEarliestEnds_57 : decode cX2_findEarliestEnds 57 = .ok (.if_icmp .ge 73, 3) := by decide +kernel
theorem dX2_findEarliestEnds_60 : decode cX2_findEarliestEnds 60 = .ok (.iload 4, 2) := by decide +kernel
theorem dX2_findEarliestEnds_62 : decode cX2_findEarliestEnds 62 = .ok (.ifCond .eq 23, 3) := by decide +kernel
theorem dX2_findEarliestEnds_65 : decode cX2_findEarliestEnds 65 = .ok (.iload 5, 2) := by decide +kernel
theorem dX2_findEarliestEnds_67 : decode cX2_findEarliestEnds 67 = .ok (.iload_n 2, 1) := by decide +kernel
theorem dX2_findEarliestEnds_68 : decode cX2_findEarliestEnds 68 = .ok (.invokestatic 128, 3) := by decide +kernel
theorem dX2_findEarliestEnds_71 : decode cX2_findEarliestEnds 71 = .ok (.ifCond .eq 14, 3) := by decide +kernel
theorem dX2_findEarliestEnds_74 : decode cX2_findEarliestEnds 74 = .ok (.aload_n 0, 1) := by decide +kernel
theorem dX2_findEarliestEnds_75 : decode cX2_findEarliestEnds 75 = .ok (.iload_n 2, 1) := by decide +kernel
theorem dX2_findEarliestEnds_76 : decode cX2_findEarliestEnds 76 = .ok (.iload 5, 2) := by decide +kernel
theorem dX2_findEarliestEnds_78 : decode cX2_findEarliestEnds 78 = .ok (.aload_n 1, 1) := by decide +kernel
theorem dX2_findEarliestEnds_79 : decode cX2_findEarliestEnds 79 = .ok (.invokevirtual 146, 3) := by decide +kernel
theorem dX2_findEarliestEnds_82 : decode cX2_findEarliestEnds 82 = .ok (.goto 5, 3) := by decide +kernel
theorem dX2_findEarliestEnds_85 : decode cX2_findEarliestEnds 85 = .ok (.ldc 131, 2) := by decide +kernel
theorem dX2_findEarliestEnds_87 : decode cX2_findEarliestEnds 87 = .ok (.istore 6, 2) := by decide +kernel
theorem dX2_findEarliestEnds_89 : decode cX2_findEarliestEnds 89 = .ok (.aload_n 0, 1) := by decide +kernel
theorem dX2_findEarliestEnds_90 : decode cX2_findEarliestEnds 90 = .ok (.getfield 33, 3) := by decide +kernel
theorem dX2_findEarliestEnds_93 : decode cX2_findEarliestEnds 93 = .ok (.iload_n 2, 1) := by decide +kernel
theorem dX2_findEarliestEnds_94 : decode cX2_findEarliestEnds 94 = .ok (.bipush 10, 2) := by decide +kernel
theorem dX2_findEarliestEnds_96 : decode cX2_findEarliestEnds 96 = .ok (.imul, 1) := by decide +kernel
theorem dX2_findEarliestEnds_97 : decode cX2_findEarliestEnds 97 = .ok (.iload 5, 2) := by decide +kernel
theorem dX2_findEarliestEnds_99 : decode cX2_findEarliestEnds 99 = .ok (.iadd, 1) := by decide +kernel
theorem dX2_findEarliestEnds_100 : decode cX2_findEarliestEnds 100 = .ok (.iload 6, 2) := by decide +kernel
theorem dX2_findEarliestEnds_102 : decode cX2_findEarliestEnds 102 = .ok (.iastore, 1) := by decide +kernel
theorem dX2_findEarliestEnds_103 : decode cX2_findEarliestEnds 103 = .ok (.iload_n 3, 1) := by decide +kernel
theorem dX2_findEarliestEnds_104 : decode cX2_findEarliestEnds 104 = .ok (.iload 6, 2) := by decide +kernel
theorem dX2_findEarliestEnds_106 : decode cX2_findEarliestEnds 106 = .ok (.aload_n 0, 1) := by decide +kernel
theorem dX2_findEarliestEnds_107 : decode cX2_findEarliestEnds 107 = .ok (.getfield 24, 3) := by decide +kernel
theorem dX2_findEarliestEnds_110 : decode cX2_findEarliestEnds 110 = .ok (.iload 5, 2) := by decide +kernel
theorem dX2_findEarliestEnds_112 : decode cX2_findEarliestEnds 112 = .ok (.bipush 11, 2) := by decide +kernel
theorem dX2_findEarliestEnds_114 : decode cX2_findEarliestEnds 114 = .ok (.imul, 1) := by decide +kernel
theorem dX2_findEarliestEnds_115 : decode cX2_findEarliestEnds 115 = .ok (.bipush 10, 2) := by decide +kernel
theorem dX2_findEarliestEnds_117 : decode cX2_findEarliestEnds 117 = .ok (.iadd, 1) := by decide +kernel
theorem dX2_findEarliestEnds_118 : decode cX2_findEarliestEnds 118 = .ok (.iaload, 1) := by decide +kernel
theorem dX2_findEarliestEnds_119 : decode cX2_findEarliestEnds 119 = .ok (.iadd, 1) := by decide +kernel
theorem dX2_findEarliestEnds_120 : decode cX2_findEarliestEnds 120 = .ok (.invokestatic 133, 3) := by decide +kernel
theorem dX2_findEarliestEnds_123 : decode cX2_findEarliestEnds 123 = .ok (.istore_n 3, 1) := by decide +kernel
theorem dX2_findEarliestEnds_124 : decode cX2_findEarliestEnds 124 = .ok (.iinc 5 1, 3) := by decide +kernel
theorem dX2_findEarliestEnds_127 : decode cX2_findEarliestEnds 127 = .ok (.goto (-76), 3) := by decide +kernel
theorem dX2_findEarliestEnds_130 : decode cX2_findEarliestEnds 130 = .ok (.aload_n 0, 1) := by decide +kernel
theorem dX2_findEarliestEnds_131 : decode cX2_findEarliestEnds 131 = .ok (.getfield 36, 3) := by decide +kernel
theorem dX2_findEarliestEnds_134 : decode cX2_findEarliestEnds 134 = .ok (.iload_n 2, 1) := by decide +kernel
theorem dX2_findEarliestEnds_135 : decode cX2_findEarliestEnds 135 = .ok (.iload_n 3, 1) := by decide +kernel
theorem dX2_findEarliestEnds_136 : decode cX2_findEarliestEnds 136 = .ok (.aload_n 1, 1) := by decide +kernel
theorem dX2_findEarliestEnds_137 : decode cX2_findEarliestEnds 137 = .ok (.getfield 150, 3) := by decide +kernel
theorem dX2_findEarliestEnds_140 : decode cX2_findEarliestEnds 140 = .ok (.if_icmp .gt 7, 3) := by decide +kernel
theorem dX2_findEarliestEnds_143 : decode cX2_findEarliestEnds 143 = .ok (.iload_n 3, 1) := by decide +kernel
theorem dX2_findEarliestEnds_144 : decode cX2_findEarliestEnds 144 = .ok (.goto 5, 3) := by decide +kernel
theorem dX2_findEarliestEnds_147 : decode cX2_findEarliestEnds 147 = .ok (.ldc 131, 2) := by decide +kernel
theorem dX2_findEarliestEnds_149 : decode cX2_findEarliestEnds 149 = .ok (.iastore, 1) := by decide +kernel
theorem dX2_findEarliestEnds_150 : decode cX2_findEarliestEnds 150 = .ok (.iinc 2 1, 3) := by decide +kernel
theorem dX2_findEarliestEnds_153 : decode cX2_findEarliestEnds 153 = .ok (.goto (-141), 3) := by decide +kernel
theorem dX2_findEarliestEnds_156 : decode cX2_findEarliestEnds 156 = .ok (.return_, 1) := by decide +kernel
set_option maxRecDepth 20000 in
theorem ggX2_earliestEnd_X2_without : GoodIn wsX2_earliestEnd wsX2_without := goodIn_r _ [13] (by decide +kernel) (by decide +kernel)
set_option maxRecDepth 20000 in
theorem gX2_earliestEnd_X2_without : GoodIn wsX2_earliestEnd (va_wsS RX2 153 yX2_without wsX2_without) := goodIn_app (goodIn_of _ (by decide +kernel)) ggX2_earliestEnd_X2_without
set_option maxRecDepth 20000 in
theorem ggX2_earliestEnd_X2_isIn : GoodIn wsX2_earliestEnd wsX2_isIn := goodIn_r _ [16] (by decide +kernel) (by decide +kernel)
set_option maxRecDepth 20000 in
theorem gX2_earliestEnd_X2_isIn : GoodIn wsX2_earliestEnd (va_wsS RX2 128 yX2_isIn wsX2_isIn) := goodIn_app (goodIn_of _ (by decide +kernel)) ggX2_earliestEnd_X2_isIn
set_option maxRecDepth 20000 in
theorem ggX2_earliestEnd_X2_beginFrom : GoodIn wsX2_earliestEnd wsX2_beginFrom := goodIn_r _ [20, 2, 21, 32, 33, 34, 35, 36, 37, 38, 39, 40, 41, 42, 43, 44, 45, 46, 47] (by decide +kernel) (by decide +kernel)
set_option maxRecDepth 20000 in
theorem gX2_earliestEnd_X2_beginFrom : GoodIn wsX2_earliestEnd (wsV RX2 156 RX2 yX2_beginFrom wsX2_beginFrom) := goodIn_app (goodIn_of _ (by decide +kernel)) ggX2_earliestEnd_X2_beginFrom
theorem dX2_earliestEnd_0 : decode cX2_earliestEnd 0 = .ok (.iload_n 2, 1) := by decide +kernel
theorem dX2_earliestEnd_1 : decode cX2_earliestEnd 1 = .ok (.iload_n 1, 1) := by decide +kernel
theorem dX2_earliestEnd_2 : decode cX2_earliestEnd 2 = .ok (.invokestatic 153, 3) := by decide +kernel
theorem dX2_earliestEnd_5 : decode cX2_earliestEnd 5 = .ok (.istore 4, 2) := by decide +kernel
theorem dX2_earliestEnd_7 : decode cX2_earliestEnd 7 = .ok (.iload 4, 2) := by decide +kernel
theorem dX2_earliestEnd_9 : decode cX2_earliestEnd 9 = .ok (.ifCond .ne 20, 3) := by decide +kernel
theorem dX2_earliestEnd_12 : decode cX2_earliestEnd 12 = .ok (.aload_n 3, 1) := by decide +kernel
theorem dX2_earliestEnd_13 : decode cX2_earliestEnd 13 = .ok (.getfield 136, 3) := by decide +kernel
theorem dX2_earliestEnd_16 : decode cX2_earliestEnd 16 = .ok (.aload_n 0, 1) := by decide +kernel
theorem dX2_earliestEnd_17 : decode cX2_earliestEnd 17 = .ok (.getfield 24, 3) := by decide +kernel
theorem dX2_earliestEnd_20 : decode cX2_earliestEnd 20 = .ok (.bipush 110, 2) := by decide +kernel
theorem dX2_earliestEnd_22 : decode cX2_earliestEnd 22 = .ok (.iload_n 2, 1) := by decide +kernel
theorem dX2_earliestEnd_23 : decode cX2_earliestEnd 23 = .ok (.iadd, 1) := by decide +kernel
theorem dX2_earliestEnd_24 : decode cX2_earliestEnd 24 = .ok (.iaload, 1) := by decide +kernel
theorem dX2_earliestEnd_25 : decode cX2_earliestEnd 25 = .ok (.iadd, 1) := by decide +kernel
theorem dX2_earliestEnd_26 : decode cX2_earliestEnd 26 = .ok (.goto 5, 3) := by decide +kernel
theorem dX2_earliestEnd_29 : decode cX2_earliestEnd 29 = .ok (.ldc 131, 2) := by decide +kernel
theorem dX2_earliestEnd_31 : decode cX2_earliestEnd 31 = .ok (.istore 5, 2) := by decide +kernel
theorem dX2_earliestEnd_33 : decode cX2_earliestEnd 33 = .ok (.iconst 0, 1) := by decide +kernel
theorem dX2_earliestEnd_34 : decode cX2_earliestEnd 34 = .ok (.istore 6, 2) := by decide +kernel
theorem dX2_earliestEnd_36 : decode cX2_earliestEnd 36 = .ok (.iload 6, 2) := by decide +kernel
theorem dX2_earliestEnd_38 : decode cX2_earliestEnd 38 = .ok (.aload_n 0, 1) := by decide +kernel
theorem dX2_earliestEnd_39 : decode cX2_earliestEnd 39 = .ok (.getfield 76, 3) := by decide +kernel
theorem dX2_earliestEnd_42 : decode cX2_earliestEnd 42 = .ok (.if_icmp .ge 52, 3) := by decide +kernel
theorem dX2_earliestEnd_45 : decode cX2_earliestEnd 45 = .ok (.iload 6, 2) := by decide +kernel
theorem dX2_earliestEnd_47 : decode cX2_earliestEnd 47 = .ok (.iload 4, 2) := by decide +kernel
theorem dX2_earliestEnd_49 : decode cX2_earliestEnd 49 = .ok (.invokestatic 128, 3) := by decide +kernel
theorem dX2_earliestEnd_52 : decode cX2_earliestEnd 52 = .ok (.ifCond .eq 36, 3) := by decide +kernel
theorem dX2_earliestEnd_55 : decode cX2_earliestEnd 55 = .ok (.iload 5, 2) := by decide +kernel
theorem dX2_earliestEnd_57 : decode cX2_earliestEnd 57 = .ok (.aload_n 0, 1) := by decide +kernel
theorem dX2_earliestEnd_58 : decode cX2_earliestEnd 58 = .ok (.getfield 33, 3) := by decide +kernel
theorem dX2_earliestEnd_61 : decode cX2_earliestEnd 61 = .ok (.iload 4, 2) := by decide +kernel
theorem dX2_earliestEnd_63 : decode cX2_earliestEnd 63 = .ok (.bipush 10, 2) := by decide +kernel
theorem dX2_earliestEnd_65 : decode cX2_earliestEnd 65 = .ok (.imul, 1) := by decide +kernel
theorem dX2_earliestEnd_66 : decode cX2_earliestEnd 66 = .ok (.iload 6, 2) := by decide +kernel
theorem dX2_earliestEnd_68 : decode cX2_earliestEnd 68 = .ok (.iadd, 1) := by decide +kernel
theorem dX2_earliestEnd_69 : decode cX2_earliestEnd 69 = .ok (.iaload, 1) := by decide +kernel
theorem dX2_earliestEnd_70 : decode cX2_earliestEnd 70 = .ok (.aload_n 0, 1) := by decide +kernel
theorem dX2_earliestEnd_71 : decode cX2_earliestEnd 71 = .ok (.getfield 24, 3) := by decide +kernel
theorem dX2_earliestEnd_74 : decode cX2_earliestEnd 74 = .ok (.iload 6, 2) := by decide +kernel
theorem dX2_earliestEnd_76 : decode cX2_earliestEnd 76 = .ok (.bipush 11, 2) := by decide +kernel
theorem dX2_earliestEnd_78 : decode cX2_earliestEnd 78 = .ok (.imul, 1) := by decide +kernel
theorem dX2_earliestEnd_79 : decode cX2_earliestEnd 79 = .ok (.iload_n 2, 1) := by decide +kernel
theorem dX2_earliestEnd_80 : decode cX2_earliestEnd 80 = .ok (.iadd, 1) := by decide +kernel
theorem dX2_earliestEnd_81 : decode cX2_earliestEnd 81 = .ok (.iaload, 1) := by decide +kernel
theorem dX2_earliestEnd_82 : decode cX2_earliestEnd 82 = .ok (.iadd, 1) := by decide +kernel
theorem dX2_earliestEnd_83 : decode cX2_earliestEnd 83 = .ok (.invokestatic 133, 3) := by decide +kernel
theorem dX2_earliestEnd_86 : decode cX2_earliestEnd 86 = .ok (.istore 5, 2) := by decide +kernel
theorem dX2_earliestEnd_88 : decode cX2_earliestEnd 88 = .ok (.iinc 6 1, 3) := by decide +kernel
theorem dX2_earliestEnd_91 : decode cX2_earliestEnd 91 = .ok (.goto (-55), 3) := by decide +kernel
theorem dX2_earliestEnd_94 : decode cX2_earliestEnd 94 = .ok (.aload_n 0, 1) := by decide +kernel
theorem dX2_earliestEnd_95 : decode cX2_earliestEnd 95 = .ok (.iload_n 2, 1) := by decide +kernel
theorem dX2_earliestEnd_96 : decode cX2_earliestEnd 96 = .ok (.iload 5, 2) := by decide +kernel
theorem dX2_earliestEnd_98 : decode cX2_earliestEnd 98 = .ok (.invokevirtual 156, 3) := by decide +kernel
theorem dX2_earliestEnd_101 : decode cX2_earliestEnd 101 = .ok (.aload_n 0, 1) := by decide +kernel
theorem dX2_earliestEnd_102 : decode cX2_earliestEnd 102 = .ok (.getfield 15, 3) := by decide +kernel
theorem dX2_earliestEnd_105 : decode cX2_earliestEnd 105 = .ok (.iload_n 2, 1) := by decide +kernel
theorem dX2_earliestEnd_106 : decode cX2_earliestEnd 106 = .ok (.iaload, 1) := by decide +kernel
theorem dX2_earliestEnd_107 : decode cX2_earliestEnd 107 = .ok (.iadd, 1) := by decide +kernel
theorem dX2_earliestEnd_108 : decode cX2_earliestEnd 108 = .ok (.istore 6, 2) := by decide +kernel
theorem dX2_earliestEnd_110 : decode cX2_earliestEnd 110 = .ok (.iload 6, 2) := by decide +kernel
theorem dX2_earliestEnd_112 : decode cX2_earliestEnd 112 = .ok (.aload_n 3, 1) := by decide +kernel
theorem dX2_earliestEnd_113 : decode cX2_earliestEnd 113 = .ok (.getfield 150, 3) := by decide +kernel
theorem dX2_earliestEnd_116 : decode cX2_earliestEnd 116 = .ok (.if_icmp .gt 8, 3) := by decide +kernel
theorem dX2_earliestEnd_119 : decode cX2_earliestEnd 119 = .ok (.iload 6, 2) := by decide +kernel
theorem dX2_earliestEnd_121 : decode cX2_earliestEnd 121 = .ok (.goto 5, 3) := by decide +kernel
theorem dX2_earliestEnd_124 : decode cX2_earliestEnd 124 = .ok (.ldc 131, 2) := by decide +kernel
theorem dX2_earliestEnd_126 : decode cX2_earliestEnd 126 = .ok (.ireturn, 1) := by decide +kernel
set_option maxRecDepth 20000 in
theorem ggX2_chooseBest_X2_sumOver : GoodIn wsX2_chooseBest wsX2_sumOver := goodIn_r _ [11, 4, 12, 13, 10, 14, 15, 16, 17, 18, 19, 20, 21, 22, 23, 24, 25, 26, 27, 28, 29, 30] (by decide +kernel) (by decide +kernel)
set_option maxRecDepth 20000 in
theorem gX2_chooseBest_X2_sumOver : GoodIn wsX2_chooseBest (wsV RX2 139 RX2 yX2_sumOver wsX2_sumOver) := goodIn_app (goodIn_of _ (by decide +kernel)) ggX2_chooseBest_X2_sumOver
theorem dX2_chooseBest_0 : decode cX2_chooseBest 0 = .ok (.aload_n 0, 1) := by decide +kernel
theorem dX2_chooseBest_1 : decode cX2_chooseBest 1 = .ok (.iconst 0, 1) := by decide +kernel
theorem dX2_chooseBest_2 : decode cX2_chooseBest 2 = .ok (.putfield 159, 3) := by decide +kernel
theorem dX2_chooseBest_5 : decode cX2_chooseBest 5 = .ok (.aload_n 0, 1) := by decide +kernel
theorem dX2_chooseBest_6 : decode cX2_chooseBest 6 = .ok (.aload_n 0, 1) := by decide +kernel
theorem dX2_chooseBest_7 : decode cX2_chooseBest 7 = .ok (.getfield 36, 3) := by decide +kernel
theorem dX2_chooseBest_10 : decode cX2_chooseBest 10 = .ok (.iconst 0, 1) := by decide +kernel
theorem dX2_chooseBest_11 : decode cX2_chooseBest 11 = .ok (.iaload, 1) := by decide +kernel
theorem dX2_chooseBest_12 : decode cX2_chooseBest 12 = .ok (.putfield 162, 3) := by decide +kernel
theorem dX2_chooseBest_15 : decode cX2_chooseBest 15 = .ok (.iconst 1, 1) := by decide +kernel
theorem dX2_chooseBest_16 : decode cX2_chooseBest 16 = .ok (.istore_n 1, 1) := by decide +kernel
theorem dX2_chooseBest_17 : decode cX2_chooseBest 17 = .ok (.iload_n 1, 1) := by decide +kernel
theorem dX2_chooseBest_18 : decode cX2_chooseBest 18 = .ok (.iconst 1, 1) := by decide +kernel
theorem dX2_chooseBest_19 : decode cX2_chooseBest 19 = .ok (.aload_n 0, 1) := by decide +kernel
theorem dX2_chooseBest_20 : decode cX2_chooseBest 20 = .ok (.getfield 76, 3) := by decide +kernel
theorem dX2_chooseBest_23 : decode cX2_chooseBest 23 = .ok (.ishl, 1) := by decide +kernel
theorem dX2_chooseBest_24 : decode cX2_chooseBest 24 = .ok (.if_icmp .ge 74, 3) := by decide +kernel
theorem dX2_chooseBest_27 : decode cX2_chooseBest 27 = .ok (.aload_n 0, 1) := by decide +kernel
theorem dX2_chooseBest_28 : decode cX2_chooseBest 28 = .ok (.getfield 36, 3) := by decide +kernel
theorem dX2_chooseBest_31 : decode cX2_chooseBest 31 = .ok (.iload_n 1, 1) := by decide +kernel
theorem dX2_chooseBest_32 : decode cX2_chooseBest 32 = .ok (.iaload, 1) := by decide +kernel
theorem dX2_chooseBest_33 : decode cX2_chooseBest 33 = .ok (.ldc 131, 2) := by decide +kernel
theorem dX2_chooseBest_35 : decode cX2_chooseBest 35 = .ok (.if_icmp .eq 57, 3) := by decide +kernel
theorem dX2_chooseBest_38 : decode cX2_chooseBest 38 = .ok (.aload_n 0, 1) := by decide +kernel
theorem dX2_chooseBest_39 : decode cX2_chooseBest 39 = .ok (.iload_n 1, 1) := by decide +kernel
theorem dX2_chooseBest_40 : decode cX2_chooseBest 40 = .ok (.aload_n 0, 1) := by decide +kernel
theorem dX2_chooseBest_41 : decode cX2_chooseBest 41 = .ok (.getfield 21, 3) := by decide +kernel
theorem dX2_chooseBest_44 : decode cX2_chooseBest 44 = .ok (.invokevirtual 139, 3) := by decide +kernel
theorem dX2_chooseBest_47 : decode cX2_chooseBest 47 = .ok (.istore_n 2, 1) := by decide +kernel
theorem dX2_chooseBest_48 : decode cX2_chooseBest 48 = .ok (.iload_n 2, 1) := by decide +kernel
theorem dX2_chooseBest_49 : decode cX2_chooseBest 49 = .ok (.aload_n 0, 1) := by decide +kernel
theorem dX2_chooseBest_50 : decode cX2_chooseBest 50 = .ok (.getfield 159, 3) := by decide +kernel
theorem dX2_chooseBest_53 : decode cX2_chooseBest 53 = .ok (.if_icmp .gt 24, 3) := by decide +kernel
theorem dX2_chooseBest_56 : decode cX2_chooseBest 56 = .ok (.iload_n 2, 1) := by decide +kernel
theorem dX2_chooseBest_57 : decode cX2_chooseBest 57 = .ok (.aload_n 0, 1) := by decide +kernel
theorem dX2_chooseBest_58 : decode cX2_chooseBest 58 = .ok (.getfield 159, 3) := by decide +kernel
theorem dX2_chooseBest_61 : decode cX2_chooseBest 61 = .ok (.if_icmp .ne 31, 3) := by decide +kernel
theorem dX2_chooseBest_64 : decode cX2_chooseBest 64 = .ok (.aload_n 0, 1) := by decide +kernel
theorem dX2_chooseBest_65 : decode cX2_chooseBest 65 = .ok (.getfield 36, 3) := by decide +kernel
theorem dX2_chooseBest_68 : decode cX2_chooseBest 68 = .ok (.iload_n 1, 1) := by decide +kernel
theorem dX2_chooseBest_69 : decode cX2_chooseBest 69 = .ok (.iaload, 1) := by decide +kernel
theorem dX2_chooseBest_70 : decode cX2_chooseBest 70 = .ok (.aload_n 0, 1) := by decide +kernel
theorem dX2_chooseBest_71 : decode cX2_chooseBest 71 = .ok (.getfield 162, 3) := by decide +kernel
theorem dX2_chooseBest_74 : decode cX2_chooseBest 74 = .ok (.if_icmp .ge 18, 3) := by decide +kernel
theorem dX2_chooseBest_77 : decode cX2_chooseBest 77 = .ok (.aload_n 0, 1) := by decide +kernel
theorem dX2_chooseBest_78 : decode cX2_chooseBest 78 = .ok (.iload_n 2, 1) := by decide +kernel
theorem dX2_chooseBest_79 : decode cX2_chooseBest 79 = .ok (.putfield 159, 3) := by decide +kernel
theorem dX2_chooseBest_82 : decode cX2_chooseBest 82 = .ok (.aload_n 0, 1) := by decide +kernel
theorem dX2_chooseBest_83 : decode cX2_chooseBest 83 = .ok (.aload_n 0, 1) := by decide +kernel
theorem dX2_chooseBest_84 : decode cX2_chooseBest 84 = .ok (.getfield 36, 3) := by decide +kernel
theorem dX2_chooseBest_87 : decode cX2_chooseBest 87 = .ok (.iload_n 1, 1) := by decide +kernel
theorem dX2_chooseBest_88 : decode cX2_chooseBest 88 = .ok (.iaload, 1) := by decide +kernel
theorem dX2_chooseBest_89 : decode cX2_chooseBest 89 = .ok (.putfield 162, 3) := by decide +kernel
theorem dX2_chooseBest_92 : decode cX2_chooseBest 92 = .ok (.iinc 1 1, 3) := by decide +kernel
theorem dX2_chooseBest_95 : decode cX2_chooseBest 95 = .ok (.goto (-78), 3) := by decide +kernel
theorem dX2_chooseBest_98 : decode cX2_chooseBest 98 = .ok (.return_, 1) := by decide +kernel
set_option maxRecDepth 20000 in
theorem ggX2_findLatestEnds_X2_isIn : GoodIn wsX2_findLatestEnds wsX2_isIn := goodIn_r _ [7] (by decide +kernel) (by decide +kernel)
set_option maxRecDepth 20000 in
theorem gX2_findLatestEnds_X2_isIn : GoodIn wsX2_findLatestEnds (va_wsS RX2 128 yX2_isIn wsX2_isIn) := goodIn_app (goodIn_of _ (by decide +kernel)) ggX2_findLatestEnds_X2_isIn
set_option maxRecDepth 20000 in
theorem ggX2_findLatestEnds_X2_latestEnd : GoodIn wsX2_findLatestEnds wsX2_latestEnd := goodIn_r _ [11, 12, 13, 3, 1, 2, 14, 15, 16, 17, 18, 4, 5, 6, 7, 19, 20, 21, 22, 23, 24, 25, 26, 27, 28, 29, 30, 31, 32, 33, 34, 35, 36, 37, 38, 39, 40, 41, 42, 43, 44, 45] (by decide +kernel) (by decide +kernel)
set_option maxRecDepth 20000 in
theorem gX2_findLatestEnds_X2_latestEnd : GoodIn wsX2_findLatestEnds (wsV RX2 165 RX2 yX2_latestEnd wsX2_latestEnd) := goodIn_app (goodIn_of _ (by decide +kernel)) ggX2_findLatestEnds_X2_latestEnd
theorem dX2_findLatestEnds_0 : decode cX2_findLatestEnds 0 = .ok (.iconst 0, 1) := by decide +kernel
theorem dX2_findLatestEnds_1 : decode cX2_findLatestEnds 1 = .ok (.istore_n 1, 1) := by decide +kernel
theorem dX2_findLatestEnds_2 : decode cX2_findLatestEnds 2 = .ok (.iload_n 1, 1) := by decide +kernel
theorem dX2_findLatestEnds_3 : decode cX2_findLatestEnds 3 = .ok (.iconst 1, 1) := by decide +kernel
theorem dX2_findLatestEnds_4 : decode cX2_findLatestEnds 4 = .ok (.aload_n 0, 1) := by decide +kernel
theorem dX2_findLatestEnds_5 : decode cX2_findLatestEnds 5 = .ok (.getfield 76, 3) := by decide +kernel
theorem dX2_findLatestEnds_8 : decode cX2_findLatestEnds 8 = .ok (.ishl, 1) := by decide +kernel
theorem dX2_findLatestEnds_9 : decode cX2_findLatestEnds 9 = .ok (.if_icmp .ge 55, 3) := by decide +kernel
theorem dX2_findLatestEnds_12 : decode cX2_findLatestEnds 12 = .ok (.iconst 0, 1) := by decide +kernel
theorem dX2_findLatestEnds_13 : decode cX2_findLatestEnds 13 = .ok (.istore_n 2, 1) := by decide +kernel
theorem dX2_findLatestEnds_14 : decode cX2_findLatestEnds 14 = .ok (.iload_n 2, 1) := by decide +kernel
theorem dX2_findLatestEnds_15 : decode cX2_findLatestEnds 15 = .ok (.aload_n 0, 1) := by decide +kernel
theorem dX2_findLatestEnds_16 : decode cX2_findLatestEnds 16 = .ok (.getfield 76, 3) := by decide +kernel
theorem dX2_findLatestEnds_19 : decode cX2_findLatestEnds 19 = .ok (.if_icmp .ge 39, 3) := by decide +kernel
theorem dX2_findLatestEnds_22 : decode cX2_findLatestEnds 22 = .ok (.aload_n 0, 1) := by decide +kernel
theorem dX2_findLatestEnds_23 : decode cX2_findLatestEnds 23 = .ok (.getfield 33, 3) := by decide +kernel
theorem dX2_findLatestEnds_26 : decode cX2_findLatestEnds 26 = .ok (.iload_n 1, 1) := by decide +kernel
theorem dX2_findLatestEnds_27 : decode cX2_findLatestEnds 27 = .ok (.bipush 10, 2) := by decide +kernel
theorem dX2_findLatestEnds_29 : decode cX2_findLatestEnds 29 = .ok (.imul, 1) := by decide +kernel
theorem dX2_findLatestEnds_30 : decode cX2_findLatestEnds 30 = .ok (.iload_n 2, 1) := by decide +kernel
theorem dX2_findLatestEnds_31 : decode cX2_findLatestEnds 31 = .ok (.iadd, 1) := by decide +kernel
theorem dX2_findLatestEnds_32 : decode cX2_findLatestEnds 32 = .ok (.iload_n 2, 1) := by decide +kernel
theorem dX2_findLatestEnds_33 : decode cX2_findLatestEnds 33 = .ok (.iload_n 1, 1) := by decide +kernel
theorem dX2_findLatestEnds_34 : decode cX2_findLatestEnds 34 = .ok (.invokestatic 128, 3) := by decide +kernel
theorem dX2_findLatestEnds_37 : decode cX2_findLatestEnds 37 = .ok (.ifCond .eq 8, 3) := by decide +kernel
theorem dX2_findLatestEnds_40 : decode cX2_findLatestEnds 40 = .ok (.ldc 132, 2) := by decide +kernel
theorem dX2_findLatestEnds_42 : decode cX2_findLatestEnds 42 = .ok (.goto 9, 3) := by decide +kernel
theorem dX2_findLatestEnds_45 : decode cX2_findLatestEnds 45 = .ok (.aload_n 0, 1) := by decide +kernel
theorem dX2_findLatestEnds_46 : decode cX2_findLatestEnds 46 = .ok (.iload_n 1, 1) := by decide +kernel
theorem dX2_findLatestEnds_47 : decode cX2_findLatestEnds 47 = .ok (.iload_n 2, 1) := by decide +kernel
theorem dX2_findLatestEnds_48 : decode cX2_findLatestEnds 48 = .ok (.invokevirtual 165, 3) := by decide +kernel
theorem dX2_findLatestEnds_51 : decode cX2_findLatestEnds 51 = .ok (.iastore, 1) := by decide +kernel
theorem dX2_findLatestEnds_52 : decode cX2_findLatestEnds 52 = .ok (.iinc 2 1, 3) := by decide +kernel
theorem dX2_findLatestEnds_55 : decode cX2_findLatestEnds 55 = .ok (.goto (-41), 3) := by decide +kernel
theorem dX2_findLatestEnds_58 : decode cX2_findLatestEnds 58 = .ok (.iinc 1 1, 3) := by decide +kernel
theorem dX2_findLatestEnds_61 : decode cX2_findLatestEnds 61 = .ok (.goto (-59), 3) := by decide +kernel
theorem dX2_findLatestEnds_64 : decode cX2_findLatestEnds 64 = .ok (.return_, 1) := by decide +kernel
set_option maxRecDepth 20000 in
theorem ggX2_latestEnd_X2_isIn : GoodIn wsX2_latestEnd wsX2_isIn := goodIn_r _ [14] (by decide +kernel) (by decide +kernel)
set_option maxRecDepth 20000 in
theorem gX2_latestEnd_X2_isIn : GoodIn wsX2_latestEnd (va_wsS RX2 128 yX2_isIn wsX2_isIn) := goodIn_app (goodIn_of _ (by decide +kernel)) ggX2_latestEnd_X2_isIn
set_option maxRecDepth 20000 in
theorem ggX2_latestEnd_X2_without : GoodIn wsX2_latestEnd wsX2_without := goodIn_r _ [17] (by decide +kernel) (by decide +kernel)
set_option maxRecDepth 20000 in
theorem gX2_latestEnd_X2_without : GoodIn wsX2_latestEnd (va_wsS RX2 153 yX2_without wsX2_without) := goodIn_app (goodIn_of _ (by decide +kernel)) ggX2_latestEnd_X2_without
set_option maxRecDepth 20000 in
theorem ggX2_latestEnd_X2_beginUpTo : GoodIn wsX2_latestEnd wsX2_beginUpTo := goodIn_r _ [21, 3, 22, 23, 9, 24, 25, 26, 27, 28, 29, 30, 31, 32, 33, 34, 35, 36, 37, 38, 39, 40, 41] (by decide +kernel) (by decide +kernel)
set_option maxRecDepth 20000 in
theorem gX2_latestEnd_X2_beginUpTo : GoodIn wsX2_latestEnd (wsV RX2 168 RX2 yX2_beginUpTo wsX2_beginUpTo) := goodIn_app (goodIn_of _ (by decide +kernel)) ggX2_latestEnd_X2_beginUpTo
theorem dX2_latestEnd_0 : decode cX2_latestEnd 0 = .ok (.iload_n 1, 1) := by decide +kernel
theorem dX2_latestEnd_1 : decode cX2_latestEnd 1 = .ok (.ifCond .ne 21, 3) := by decide +kernel
theorem dX2_latestEnd_4 : decode cX2_latestEnd 4 = .ok (.aload_n 0, 1) := by decide +kernel
theorem dX2_latestEnd_5 : decode cX2_latestEnd 5 = .ok (.getfield 162, 3) := by decide +kernel
theorem dX2_latestEnd_8 : decode cX2_latestEnd 8 = .ok (.aload_n 0, 1) := by decide +kernel
theorem dX2_latestEnd_9 : decode cX2_latestEnd 9 = .ok (.getfield 24, 3) := by decide +kernel
theorem dX2_latestEnd_12 : decode cX2_latestEnd 12 = .ok (.iload_n 2, 1) := by decide +kernel
theorem dX2_latestEnd_13 : decode cX2_latestEnd 13 = .ok (.bipush 11, 2) := by decide +kernel
theorem dX2_latestEnd_15 : decode cX2_latestEnd 15 = .ok (.imul, 1) := by decide +kernel
theorem dX2_latestEnd_16 : decode cX2_latestEnd 16 = .ok (.bipush 10, 2) := by decide +kernel
theorem dX2_latestEnd_18 : decode cX2_latestEnd 18 = .ok (.iadd, 1) := by decide +kernel
theorem dX2_latestEnd_19 : decode cX2_latestEnd 19 = .ok (.iaload, 1) := by decide +kernel
theorem dX2_latestEnd_20 : decode cX2_latestEnd 20 = .ok (.isub, 1) := by decide +kernel
theorem dX2_latestEnd_21 : decode cX2_latestEnd 21 = .ok (.ireturn, 1) := by decide +kernel
theorem dX2_latestEnd_22 : decode cX2_latestEnd 22 = .ok (.ldc 132, 2) := by decide +kernel
theorem dX2_latestEnd_24 : decode cX2_latestEnd 24 = .ok (.istore_n 3, 1) := by decide +kernel
theorem dX2_latestEnd_25 : decode cX2_latestEnd 25 = .ok (.iconst 0, 1) := by decide +kernel
theorem dX2_latestEnd_26 : decode cX2_latestEnd 26 = .ok (.istore 4, 2) := by decide +kernel
theorem dX2_latestEnd_28 : decode cX2_latestEnd 28 = .ok (.iload 4, 2) := by decide +kernel
theorem dX2_latestEnd_30 : decode cX2_latestEnd 30 = .ok (.aload_n 0, 1) := by decide +kernel
theorem dX2_latestEnd_31 : decode cX2_latestEnd 31 = .ok (.getfield 76, 3) := by decide +kernel
theorem dX2_latestEnd_34 : decode cX2_latestEnd 34 = .ok (.if_icmp .ge 71, 3) := by decide +kernel
theorem dX2_latestEnd_37 : decode cX2_latestEnd 37 = .ok (.iload 4, 2) := by decide +kernel
theorem dX2_latestEnd_39 : decode cX2_latestEnd 39 = .ok (.iload_n 1, 1) := by decide +kernel
theorem dX2_latestEnd_40 : decode cX2_latestEnd 40 = .ok (.invokestatic 128, 3) := by decide +kernel
theorem dX2_latestEnd_43 : decode cX2_latestEnd 43 = .ok (.ifCond .eq 56, 3) := by decide +kernel
theorem dX2_latestEnd_46 : decode cX2_latestEnd 46 = .ok (.aload_n 0, 1) := by decide +kernel
theorem dX2_latestEnd_47 : decode cX2_latestEnd 47 = .ok (.iload 4, 2) := by decide +kernel
theorem dX2_latestEnd_49 : decode cX2_latestEnd 49 = .ok (.aload_n 0, 1) := by decide +kernel
theorem dX2_latestEnd_50 : decode cX2_latestEnd 50 = .ok (.getfield 33, 3) := by decide +kernel
theorem dX2_latestEnd_53 : decode cX2_latestEnd 53 = .ok (.iload 4, 2) := by decide +kernel
theorem dX2_latestEnd_55 : decode cX2_latestEnd 55 = .ok (.iload_n 1, 1) := by decide +kernel
theorem dX2_latestEnd_56 : decode cX2_latestEnd 56 = .ok (.invokestatic 153, 3) := by decide +kernel
theorem dX2_latestEnd_59 : decode cX2_latestEnd 59 = .ok (.bipush 10, 2) := by decide +kernel
theorem dX2_latestEnd_61 : decode cX2_latestEnd 61 = .ok (.imul, 1) := by decide +kernel
theorem dX2_latestEnd_62 : decode cX2_latestEnd 62 = .ok (.iload 4, 2) := by decide +kernel
theorem dX2_latestEnd_64 : decode cX2_latestEnd 64 = .ok (.iadd, 1) := by decide +kernel
theorem dX2_latestEnd_65 : decode cX2_latestEnd 65 = .ok (.iaload, 1) := by decide +kernel
theorem dX2_latestEnd_66 : decode cX2_latestEnd 66 = .ok (.aload_n 0, 1) := by decide +kernel
theorem dX2_latestEnd_67 : decode cX2_latestEnd 67 = .ok (.getfield 15, 3) := by decide +kernel
theorem dX2_latestEnd_70 : decode cX2_latestEnd 70 = .ok (.iload 4, 2) := by decide +kernel
theorem dX2_latestEnd_72 : decode cX2_latestEnd 72 = .ok (.iaload, 1) := by decide +kernel
theorem dX2_latestEnd_73 : decode cX2_latestEnd 73 = .ok (.isub, 1) := by decide +kernel
theorem dX2_latestEnd_74 : decode cX2_latestEnd 74 = .ok (.invokevirtual 168, 3) := by decide +kernel
theorem dX2_latestEnd_77 : decode cX2_latestEnd 77 = .ok (.istore 5, 2) := by decide +kernel
theorem dX2_latestEnd_79 : decode cX2_latestEnd 79 = .ok (.iload_n 3, 1) := by decide +kernel
theorem dX2_latestEnd_80 : decode cX2_latestEnd 80 = .ok (.iload 5, 2) := by decide +kernel
theorem dX2_latestEnd_82 : decode cX2_latestEnd 82 = .ok (.aload_n 0, 1) := by decide +kernel
theorem dX2_latestEnd_83 : decode cX2_latestEnd 83 = .ok (.getfield 24, 3) := by decide +kernel
theorem dX2_latestEnd_86 : decode cX2_latestEnd 86 = .ok (.iload_n 2, 1) := by decide +kernel
theorem dX2_latestEnd_87 : decode cX2_latestEnd 87 = .ok (.bipush 11, 2) := by decide +kernel
theorem dX2_latestEnd_89 : decode cX2_latestEnd 89 = .ok (.imul, 1) := by decide +kernel
theorem dX2_latestEnd_90 : decode cX2_latestEnd 90 = .ok (.iload 4, 2) := by decide +kernel
theorem dX2_latestEnd_92 : decode cX2_latestEnd 92 = .ok (.iadd, 1) := by decide +kernel
theorem dX2_latestEnd_93 : decode cX2_latestEnd 93 = .ok (.iaload, 1) := by decide +kernel
theorem dX2_latestEnd_94 : decode cX2_latestEnd 94 = .ok (.isub, 1) := by decide +kernel
theorem dX2_latestEnd_95 : decode cX2_latestEnd 95 = .ok (.invokestatic 121, 3) := by decide +kernel
theorem dX2_latestEnd_98 : decode cX2_latestEnd 98 = .ok (.istore_n 3, 1) := by decide +kernel
theorem dX2_latestEnd_99 : decode cX2_latestEnd 99 = .ok (.iinc 4 1, 3) := by decide +kernel
theorem dX2_latestEnd_102 : decode cX2_latestEnd 102 = .ok (.goto (-74), 3) := by decide +kernel
theorem dX2_latestEnd_105 : decode cX2_latestEnd 105 = .ok (.iload_n 3, 1) := by decide +kernel
theorem dX2_latestEnd_106 : decode cX2_latestEnd 106 = .ok (.ireturn, 1) := by decide +kernel
set_option maxRecDepth 20000 in
theorem ggX2_chooseOrder_X2_sumOver : GoodIn wsX2_chooseOrder wsX2_sumOver := goodIn_r _ [17, 2, 18, 19, 16, 20, 45, 46, 47, 48, 49, 50, 51, 52, 53, 54, 55, 56, 57, 58, 59, 60] (by decide +kernel) (by decide +kernel)
set_option maxRecDepth 20000 in
theorem gX2_chooseOrder_X2_sumOver : GoodIn wsX2_chooseOrder (wsV RX2 139 RX2 yX2_sumOver wsX2_sumOver) := goodIn_app (goodIn_of _ (by decide +kernel)) ggX2_chooseOrder_X2_sumOver
set_option maxRecDepth 20000 in
theorem ggX2_chooseOrder_X2_tryFirstOrder : GoodIn wsX2_chooseOrder wsX2_tryFirstOrder := goodIn_r _ [24, 2, 7, 25, 26, 27, 28, 29, 16, 30, 31, 18, 19, 20, 32, 33, 34, 35, 36, 37, 38, 39, 40, 61, 62, 63, 64, 65, 66, 67, 68, 69, 70, 45, 46, 47, 48, 49, 50, 51, 52, 53, 54, 55, 56, 57, 58, 59, 60] (by decide +kernel) (by decide +kernel)
set_option maxRecDepth 20000 in
theorem gX2_chooseOrder_X2_tryFirstOrder : GoodIn wsX2_chooseOrder (wsV RX2 171 RX2 yX2_tryFirstOrder wsX2_tryFirstOrder) := goodIn_app (goodIn_of _ (by decide +kernel)) ggX2_chooseOrder_X2_tryFirstOrder
set_option maxRecDepth 20000 in
theorem ggX2_chooseOrder_X2_isTriedFirst : GoodIn wsX2_chooseOrder wsX2_isTriedFirst := goodIn_r _ [44, 1, 7, 8, 45, 46, 47, 48, 49, 50, 51, 52, 53, 54, 55, 56, 57, 58, 59, 60] (by decide +kernel) (by decide +kernel)
set_option maxRecDepth 20000 in
theorem gX2_chooseOrder_X2_isTriedFirst : GoodIn wsX2_chooseOrder (wsV RX2 175 RX2 yX2_isTriedFirst wsX2_isTriedFirst) := goodIn_app (goodIn_of _ (by decide +kernel)) ggX2_chooseOrder_X2_isTriedFirst
theorem dX2_chooseOrder_0 : decode cX2_chooseOrder 0 = .ok (.aload_n 0, 1) := by decide +kernel
theorem dX2_chooseOrder_1 : decode cX2_chooseOrder 1 = .ok (.iconst (-1), 1) := by decide +kernel
theorem dX2_chooseOrder_2 : decode cX2_chooseOrder 2 = .ok (.putfield 72, 3) := by decide +kernel
theorem dX2_chooseOrder_5 : decode cX2_chooseOrder 5 = .ok (.iconst 0, 1) := by decide +kernel
theorem dX2_chooseOrder_6 : decode cX2_chooseOrder 6 = .ok (.istore_n 2, 1) := by decide +kernel
theorem dX2_chooseOrder_7 : decode cX2_chooseOrder 7 = .ok (.iload_n 2, 1) := by decide +kernel
theorem dX2_chooseOrder_8 : decode cX2_chooseOrder 8 = .ok (.iconst 1, 1) := by decide +kernel
theorem dX2_chooseOrder_9 : decode cX2_chooseOrder 9 = .ok (.aload_n 0, 1) := by decide +kernel
theorem dX2_chooseOrder_10 : decode cX2_chooseOrder 10 = .ok (.getfield 76, 3) := by decide +kernel
theorem dX2_chooseOrder_13 : decode cX2_chooseOrder 13 = .ok (.ishl, 1) := by decide +kernel
theorem dX2_chooseOrder_14 : decode cX2_chooseOrder 14 = .ok (.if_icmp .ge 81, 3) := by decide +kernel
theorem dX2_chooseOrder_17 : decode cX2_chooseOrder 17 = .ok (.aload_n 0, 1) := by decide +kernel
theorem dX2_chooseOrder_18 : decode cX2_chooseOrder 18 = .ok (.getfield 36, 3) := by decide +kernel
theorem dX2_chooseOrder_21 : decode cX2_chooseOrder 21 = .ok (.iload_n 2, 1) := by decide +kernel
theorem dX2_chooseOrder_22 : decode cX2_chooseOrder 22 = .ok (.iaload, 1) := by decide +kernel
theorem dX2_chooseOrder_23 : decode cX2_chooseOrder 23 = .ok (.aload_n 0, 1) := by decide +kernel
theorem dX2_chooseOrder_24 : decode cX2_chooseOrder 24 = .ok (.getfield 162, 3) := by decide +kernel
theorem dX2_chooseOrder_27 : decode cX2_chooseOrder 27 = .ok (.if_icmp .ne 62, 3) := by decide +kernel
theorem dX2_chooseOrder_30 : decode cX2_chooseOrder 30 = .ok (.aload_n 0, 1) := by decide +kernel
theorem dX2_chooseOrder_31 : decode cX2_chooseOrder 31 = .ok (.iload_n 2, 1) := by decide +kernel
theorem dX2_chooseOrder_32 : decode cX2_chooseOrder 32 = .ok (.aload_n 0, 1) := by decide +kernel
theorem dX2_chooseOrder_33 : decode cX2_chooseOrder 33 = .ok (.getfield 21, 3) := by decide +kernel
theorem dX2_chooseOrder_36 : decode cX2_chooseOrder 36 = .ok (.invokevirtual 139, 3) := by decide +kernel
theorem dX2_chooseOrder_39 : decode cX2_chooseOrder 39 = .ok (.aload_n 0, 1) := by decide +kernel
theorem dX2_chooseOrder_40 : decode cX2_chooseOrder 40 = .ok (.getfield 159, 3) := by decide +kernel
theorem dX2_chooseOrder_43 : decode cX2_chooseOrder 43 = .ok (.if_icmp .ne 46, 3) := by decide +kernel
theorem dX2_chooseOrder_46 : decode cX2_chooseOrder 46 = .ok (.aload_n 0, 1) := by decide +kernel
theorem dX2_chooseOrder_47 : decode cX2_chooseOrder 47 = .ok (.iload_n 2, 1) := by decide +kernel
theorem dX2_chooseOrder_48 : decode cX2_chooseOrder 48 = .ok (.aload_n 1, 1) := by decide +kernel
theorem dX2_chooseOrder_49 : decode cX2_chooseOrder 49 = .ok (.invokevirtual 171, 3) := by decide +kernel
end
section
theorem dX2_chooseOrder_52 : decode cX2_chooseOrder 52 = .ok (.istore_n 3, 1) := by decide +kernel
theorem dX2_chooseOrder_53 : decode cX2_chooseOrder 53 = .ok (.aload_n 0, 1) := by decide +kernel
theorem dX2_chooseOrder_54 : decode cX2_chooseOrder 54 = .ok (.getfield 72, 3) := by decide +kernel
theorem dX2_chooseOrder_57 : decode cX2_chooseOrder 57 = .ok (.iconst (-1), 1) := by decide +kernel
theorem dX2_chooseOrder_58 : decode cX2_chooseOrder 58 = .ok (.if_icmp .eq 11, 3) := by decide +kernel
theorem dX2_chooseOrder_61 : decode cX2_chooseOrder 61 = .ok (.aload_n 0, 1) := by decide +kernel
theorem dX2_chooseOrder_62 : decode cX2_chooseOrder 62 = .ok (.iload_n 3, 1) := by decide +kernel
theorem dX2_chooseOrder_63 : decode cX2_chooseOrder 63 = .ok (.invokevirtual 175, 3) := by decide +kernel
theorem dX2_chooseOrder_66 : decode cX2_chooseOrder 66 = .ok (.ifCond .eq 23, 3) := by decide +kernel
theorem dX2_chooseOrder_69 : decode cX2_chooseOrder 69 = .ok (.aload_n 0, 1) := by decide +kernel
theorem dX2_chooseOrder_70 : decode cX2_chooseOrder 70 = .ok (.getfield 39, 3) := by decide +kernel
theorem dX2_chooseOrder_73 : decode cX2_chooseOrder 73 = .ok (.iconst 0, 1) := by decide +kernel
theorem dX2_chooseOrder_74 : decode cX2_chooseOrder 74 = .ok (.aload_n 0, 1) := by decide +kernel
theorem dX2_chooseOrder_75 : decode cX2_chooseOrder 75 = .ok (.getfield 42, 3) := by decide +kernel
theorem dX2_chooseOrder_78 : decode cX2_chooseOrder 78 = .ok (.iconst 0, 1) := by decide +kernel
theorem dX2_chooseOrder_79 : decode cX2_chooseOrder 79 = .ok (.bipush 10, 2) := by decide +kernel
theorem dX2_chooseOrder_81 : decode cX2_chooseOrder 81 = .ok (.invokestatic 179, 3) := by decide +kernel
theorem dX2_chooseOrder_84 : decode cX2_chooseOrder 84 = .ok (.aload_n 0, 1) := by decide +kernel
theorem dX2_chooseOrder_85 : decode cX2_chooseOrder 85 = .ok (.iload_n 3, 1) := by decide +kernel
theorem dX2_chooseOrder_86 : decode cX2_chooseOrder 86 = .ok (.putfield 72, 3) := by decide +kernel
theorem dX2_chooseOrder_89 : decode cX2_chooseOrder 89 = .ok (.iinc 2 1, 3) := by decide +kernel
theorem dX2_chooseOrder_92 : decode cX2_chooseOrder 92 = .ok (.goto (-85), 3) := by decide +kernel
theorem dX2_chooseOrder_95 : decode cX2_chooseOrder 95 = .ok (.return_, 1) := by decide +kernel
set_option maxRecDepth 20000 in
theorem ggX2_tryFirstOrder_X2_lowestNext : GoodIn wsX2_tryFirstOrder wsX2_lowestNext := goodIn_r _ [9, 1, 3, 4, 10, 11, 12, 8, 13, 14, 15, 16, 17, 18, 19, 20, 21, 22, 33, 34, 35, 36, 37, 38, 39, 40, 41, 42, 43, 44, 45, 46, 47, 48] (by decide +kernel) (by decide +kernel)
set_option maxRecDepth 20000 in
theorem gX2_tryFirstOrder_X2_lowestNext : GoodIn wsX2_tryFirstOrder (wsV RX2 185 RX2 yX2_lowestNext wsX2_lowestNext) := goodIn_app (goodIn_of _ (by decide +kernel)) ggX2_tryFirstOrder_X2_lowestNext
set_option maxRecDepth 20000 in
theorem ggX2_tryFirstOrder_X2_beginFrom : GoodIn wsX2_tryFirstOrder wsX2_beginFrom := goodIn_r _ [17, 18, 19, 33, 34, 35, 36, 37, 38, 39, 40, 41, 42, 43, 44, 45, 46, 47, 48] (by decide +kernel) (by decide +kernel)
set_option maxRecDepth 20000 in
theorem gX2_tryFirstOrder_X2_beginFrom : GoodIn wsX2_tryFirstOrder (wsV RX2 156 RX2 yX2_beginFrom wsX2_beginFrom) := goodIn_app (goodIn_of _ (by decide +kernel)) ggX2_tryFirstOrder_X2_beginFrom
set_option maxRecDepth 20000 in
theorem ggX2_tryFirstOrder_X2_without : GoodIn wsX2_tryFirstOrder wsX2_without := goodIn_r _ [22] (by decide +kernel) (by decide +kernel)
set_option maxRecDepth 20000 in
theorem gX2_tryFirstOrder_X2_without : GoodIn wsX2_tryFirstOrder (va_wsS RX2 153 yX2_without wsX2_without) := goodIn_app (goodIn_of _ (by decide +kernel)) ggX2_tryFirstOrder_X2_without
theorem dX2_tryFirstOrder_0 : decode cX2_tryFirstOrder 0 = .ok (.iconst 0, 1) := by decide +kernel
theorem dX2_tryFirstOrder_1 : decode cX2_tryFirstOrder 1 = .ok (.istore_n 3, 1) := by decide +kernel
theorem dX2_tryFirstOrder_2 : decode cX2_tryFirstOrder 2 = .ok (.iload_n 1, 1) := by decide +kernel
theorem dX2_tryFirstOrder_3 : decode cX2_tryFirstOrder 3 = .ok (.istore 4, 2) := by decide +kernel
theorem dX2_tryFirstOrder_5 : decode cX2_tryFirstOrder 5 = .ok (.bipush 10, 2) := by decide +kernel
theorem dX2_tryFirstOrder_7 : decode cX2_tryFirstOrder 7 = .ok (.istore 5, 2) := by decide +kernel
theorem dX2_tryFirstOrder_9 : decode cX2_tryFirstOrder 9 = .ok (.aload_n 2, 1) := by decide +kernel
theorem dX2_tryFirstOrder_10 : decode cX2_tryFirstOrder 10 = .ok (.getfield 136, 3) := by decide +kernel
theorem dX2_tryFirstOrder_13 : decode cX2_tryFirstOrder 13 = .ok (.istore 6, 2) := by decide +kernel
theorem dX2_tryFirstOrder_15 : decode cX2_tryFirstOrder 15 = .ok (.iconst 0, 1) := by decide +kernel
theorem dX2_tryFirstOrder_16 : decode cX2_tryFirstOrder 16 = .ok (.istore 7, 2) := by decide +kernel
theorem dX2_tryFirstOrder_18 : decode cX2_tryFirstOrder 18 = .ok (.iload 7, 2) := by decide +kernel
theorem dX2_tryFirstOrder_20 : decode cX2_tryFirstOrder 20 = .ok (.aload_n 0, 1) := by decide +kernel
theorem dX2_tryFirstOrder_21 : decode cX2_tryFirstOrder 21 = .ok (.getfield 76, 3) := by decide +kernel
theorem dX2_tryFirstOrder_24 : decode cX2_tryFirstOrder 24 = .ok (.if_icmp .ge 90, 3) := by decide +kernel
theorem dX2_tryFirstOrder_27 : decode cX2_tryFirstOrder 27 = .ok (.iload 4, 2) := by decide +kernel
theorem dX2_tryFirstOrder_29 : decode cX2_tryFirstOrder 29 = .ok (.ifCond .eq 85, 3) := by decide +kernel
theorem dX2_tryFirstOrder_32 : decode cX2_tryFirstOrder 32 = .ok (.aload_n 0, 1) := by decide +kernel
theorem dX2_tryFirstOrder_33 : decode cX2_tryFirstOrder 33 = .ok (.iload 4, 2) := by decide +kernel
theorem dX2_tryFirstOrder_35 : decode cX2_tryFirstOrder 35 = .ok (.iload 5, 2) := by decide +kernel
theorem dX2_tryFirstOrder_37 : decode cX2_tryFirstOrder 37 = .ok (.iload 6, 2) := by decide +kernel
theorem dX2_tryFirstOrder_39 : decode cX2_tryFirstOrder 39 = .ok (.invokevirtual 185, 3) := by decide +kernel
theorem dX2_tryFirstOrder_42 : decode cX2_tryFirstOrder 42 = .ok (.istore 8, 2) := by decide +kernel
theorem dX2_tryFirstOrder_44 : decode cX2_tryFirstOrder 44 = .ok (.iload 8, 2) := by decide +kernel
theorem dX2_tryFirstOrder_46 : decode cX2_tryFirstOrder 46 = .ok (.iconst (-1), 1) := by decide +kernel
theorem dX2_tryFirstOrder_47 : decode cX2_tryFirstOrder 47 = .ok (.if_icmp .ne 5, 3) := by decide +kernel
theorem dX2_tryFirstOrder_50 : decode cX2_tryFirstOrder 50 = .ok (.iload_n 3, 1) := by decide +kernel
theorem dX2_tryFirstOrder_51 : decode cX2_tryFirstOrder 51 = .ok (.ireturn, 1) := by decide +kernel
theorem dX2_tryFirstOrder_52 : decode cX2_tryFirstOrder 52 = .ok (.aload_n 0, 1) := by decide +kernel
theorem dX2_tryFirstOrder_53 : decode cX2_tryFirstOrder 53 = .ok (.getfield 39, 3) := by decide +kernel
theorem dX2_tryFirstOrder_56 : decode cX2_tryFirstOrder 56 = .ok (.iload_n 3, 1) := by decide +kernel
theorem dX2_tryFirstOrder_57 : decode cX2_tryFirstOrder 57 = .ok (.iload 8, 2) := by decide +kernel
theorem dX2_tryFirstOrder_59 : decode cX2_tryFirstOrder 59 = .ok (.iastore, 1) := by decide +kernel
theorem dX2_tryFirstOrder_60 : decode cX2_tryFirstOrder 60 = .ok (.iinc 3 1, 3) := by decide +kernel
theorem dX2_tryFirstOrder_63 : decode cX2_tryFirstOrder 63 = .ok (.aload_n 0, 1) := by decide +kernel
theorem dX2_tryFirstOrder_64 : decode cX2_tryFirstOrder 64 = .ok (.iload 8, 2) := by decide +kernel
theorem dX2_tryFirstOrder_66 : decode cX2_tryFirstOrder 66 = .ok (.iload 6, 2) := by decide +kernel
theorem dX2_tryFirstOrder_68 : decode cX2_tryFirstOrder 68 = .ok (.aload_n 0, 1) := by decide +kernel
theorem dX2_tryFirstOrder_69 : decode cX2_tryFirstOrder 69 = .ok (.getfield 24, 3) := by decide +kernel
theorem dX2_tryFirstOrder_72 : decode cX2_tryFirstOrder 72 = .ok (.iload 5, 2) := by decide +kernel
theorem dX2_tryFirstOrder_74 : decode cX2_tryFirstOrder 74 = .ok (.bipush 11, 2) := by decide +kernel
theorem dX2_tryFirstOrder_76 : decode cX2_tryFirstOrder 76 = .ok (.imul, 1) := by decide +kernel
theorem dX2_tryFirstOrder_77 : decode cX2_tryFirstOrder 77 = .ok (.iload 8, 2) := by decide +kernel
theorem dX2_tryFirstOrder_79 : decode cX2_tryFirstOrder 79 = .ok (.iadd, 1) := by decide +kernel
theorem dX2_tryFirstOrder_80 : decode cX2_tryFirstOrder 80 = .ok (.iaload, 1) := by decide +kernel
theorem dX2_tryFirstOrder_81 : decode cX2_tryFirstOrder 81 = .ok (.iadd, 1) := by decide +kernel
theorem dX2_tryFirstOrder_82 : decode cX2_tryFirstOrder 82 = .ok (.invokevirtual 156, 3) := by decide +kernel
theorem dX2_tryFirstOrder_85 : decode cX2_tryFirstOrder 85 = .ok (.aload_n 0, 1) := by decide +kernel
theorem dX2_tryFirstOrder_86 : decode cX2_tryFirstOrder 86 = .ok (.getfield 15, 3) := by decide +kernel
theorem dX2_tryFirstOrder_89 : decode cX2_tryFirstOrder 89 = .ok (.iload 8, 2) := by decide +kernel
theorem dX2_tryFirstOrder_91 : decode cX2_tryFirstOrder 91 = .ok (.iaload, 1) := by decide +kernel
theorem dX2_tryFirstOrder_92 : decode cX2_tryFirstOrder 92 = .ok (.iadd, 1) := by decide +kernel
theorem dX2_tryFirstOrder_93 : decode cX2_tryFirstOrder 93 = .ok (.istore 6, 2) := by decide +kernel
theorem dX2_tryFirstOrder_95 : decode cX2_tryFirstOrder 95 = .ok (.iload 8, 2) := by decide +kernel
theorem dX2_tryFirstOrder_97 : decode cX2_tryFirstOrder 97 = .ok (.iload 4, 2) := by decide +kernel
theorem dX2_tryFirstOrder_99 : decode cX2_tryFirstOrder 99 = .ok (.invokestatic 153, 3) := by decide +kernel
theorem dX2_tryFirstOrder_102 : decode cX2_tryFirstOrder 102 = .ok (.istore 4, 2) := by decide +kernel
theorem dX2_tryFirstOrder_104 : decode cX2_tryFirstOrder 104 = .ok (.iload 8, 2) := by decide +kernel
theorem dX2_tryFirstOrder_106 : decode cX2_tryFirstOrder 106 = .ok (.istore 5, 2) := by decide +kernel
theorem dX2_tryFirstOrder_108 : decode cX2_tryFirstOrder 108 = .ok (.iinc 7 1, 3) := by decide +kernel
theorem dX2_tryFirstOrder_111 : decode cX2_tryFirstOrder 111 = .ok (.goto (-93), 3) := by decide +kernel
theorem dX2_tryFirstOrder_114 : decode cX2_tryFirstOrder 114 = .ok (.iload_n 3, 1) := by decide +kernel
theorem dX2_tryFirstOrder_115 : decode cX2_tryFirstOrder 115 = .ok (.ireturn, 1) := by decide +kernel
set_option maxRecDepth 20000 in
theorem ggX2_lowestNext_X2_isIn : GoodIn wsX2_lowestNext wsX2_isIn := goodIn_r _ [8] (by decide +kernel) (by decide +kernel)
set_option maxRecDepth 20000 in
theorem gX2_lowestNext_X2_isIn : GoodIn wsX2_lowestNext (va_wsS RX2 128 yX2_isIn wsX2_isIn) := goodIn_app (goodIn_of _ (by decide +kernel)) ggX2_lowestNext_X2_isIn
set_option maxRecDepth 20000 in
theorem ggX2_lowestNext_X2_beginFrom : GoodIn wsX2_lowestNext wsX2_beginFrom := goodIn_r _ [12, 13, 14, 18, 19, 20, 21, 22, 23, 24, 25, 26, 27, 28, 29, 30, 31, 32, 33] (by decide +kernel) (by decide +kernel)
set_option maxRecDepth 20000 in
theorem gX2_lowestNext_X2_beginFrom : GoodIn wsX2_lowestNext (wsV RX2 156 RX2 yX2_beginFrom wsX2_beginFrom) := goodIn_app (goodIn_of _ (by decide +kernel)) ggX2_lowestNext_X2_beginFrom
set_option maxRecDepth 20000 in
theorem ggX2_lowestNext_X2_without : GoodIn wsX2_lowestNext wsX2_without := goodIn_r _ [17] (by decide +kernel) (by decide +kernel)
set_option maxRecDepth 20000 in
theorem gX2_lowestNext_X2_without : GoodIn wsX2_lowestNext (va_wsS RX2 153 yX2_without wsX2_without) := goodIn_app (goodIn_of _ (by decide +kernel)) ggX2_lowestNext_X2_without
theorem dX2_lowestNext_0 : decode cX2_lowestNext 0 = .ok (.iconst 0, 1) := by decide +kernel
theorem dX2_lowestNext_1 : decode cX2_lowestNext 1 = .ok (.istore 4, 2) := by decide +kernel
theorem dX2_lowestNext_3 : decode cX2_lowestNext 3 = .ok (.iload 4, 2) := by decide +kernel
theorem dX2_lowestNext_5 : decode cX2_lowestNext 5 = .ok (.aload_n 0, 1) := by decide +kernel
theorem dX2_lowestNext_6 : decode cX2_lowestNext 6 = .ok (.getfield 76, 3) := by decide +kernel
theorem dX2_lowestNext_9 : decode cX2_lowestNext 9 = .ok (.if_icmp .ge 73, 3) := by decide +kernel
theorem dX2_lowestNext_12 : decode cX2_lowestNext 12 = .ok (.iload 4, 2) := by decide +kernel
theorem dX2_lowestNext_14 : decode cX2_lowestNext 14 = .ok (.iload_n 1, 1) := by decide +kernel
theorem dX2_lowestNext_15 : decode cX2_lowestNext 15 = .ok (.invokestatic 128, 3) := by decide +kernel
theorem dX2_lowestNext_18 : decode cX2_lowestNext 18 = .ok (.ifCond .eq 58, 3) := by decide +kernel
theorem dX2_lowestNext_21 : decode cX2_lowestNext 21 = .ok (.aload_n 0, 1) := by decide +kernel
theorem dX2_lowestNext_22 : decode cX2_lowestNext 22 = .ok (.iload 4, 2) := by decide +kernel
theorem dX2_lowestNext_24 : decode cX2_lowestNext 24 = .ok (.iload_n 3, 1) := by decide +kernel
theorem dX2_lowestNext_25 : decode cX2_lowestNext 25 = .ok (.aload_n 0, 1) := by decide +kernel
theorem dX2_lowestNext_26 : decode cX2_lowestNext 26 = .ok (.getfield 24, 3) := by decide +kernel
theorem dX2_lowestNext_29 : decode cX2_lowestNext 29 = .ok (.iload_n 2, 1) := by decide +kernel
theorem dX2_lowestNext_30 : decode cX2_lowestNext 30 = .ok (.bipush 11, 2) := by decide +kernel
theorem dX2_lowestNext_32 : decode cX2_lowestNext 32 = .ok (.imul, 1) := by decide +kernel
theorem dX2_lowestNext_33 : decode cX2_lowestNext 33 = .ok (.iload 4, 2) := by decide +kernel
theorem dX2_lowestNext_35 : decode cX2_lowestNext 35 = .ok (.iadd, 1) := by decide +kernel
theorem dX2_lowestNext_36 : decode cX2_lowestNext 36 = .ok (.iaload, 1) := by decide +kernel
theorem dX2_lowestNext_37 : decode cX2_lowestNext 37 = .ok (.iadd, 1) := by decide +kernel
theorem dX2_lowestNext_38 : decode cX2_lowestNext 38 = .ok (.invokevirtual 156, 3) := by decide +kernel
theorem dX2_lowestNext_41 : decode cX2_lowestNext 41 = .ok (.aload_n 0, 1) := by decide +kernel
theorem dX2_lowestNext_42 : decode cX2_lowestNext 42 = .ok (.getfield 15, 3) := by decide +kernel
theorem dX2_lowestNext_45 : decode cX2_lowestNext 45 = .ok (.iload 4, 2) := by decide +kernel
theorem dX2_lowestNext_47 : decode cX2_lowestNext 47 = .ok (.iaload, 1) := by decide +kernel
theorem dX2_lowestNext_48 : decode cX2_lowestNext 48 = .ok (.iadd, 1) := by decide +kernel
theorem dX2_lowestNext_49 : decode cX2_lowestNext 49 = .ok (.istore 5, 2) := by decide +kernel
theorem dX2_lowestNext_51 : decode cX2_lowestNext 51 = .ok (.iload 5, 2) := by decide +kernel
theorem dX2_lowestNext_53 : decode cX2_lowestNext 53 = .ok (.aload_n 0, 1) := by decide +kernel
theorem dX2_lowestNext_54 : decode cX2_lowestNext 54 = .ok (.getfield 33, 3) := by decide +kernel
theorem dX2_lowestNext_57 : decode cX2_lowestNext 57 = .ok (.iload 4, 2) := by decide +kernel
theorem dX2_lowestNext_59 : decode cX2_lowestNext 59 = .ok (.iload_n 1, 1) := by decide +kernel
theorem dX2_lowestNext_60 : decode cX2_lowestNext 60 = .ok (.invokestatic 153, 3) := by decide +kernel
theorem dX2_lowestNext_63 : decode cX2_lowestNext 63 = .ok (.bipush 10, 2) := by decide +kernel
theorem dX2_lowestNext_65 : decode cX2_lowestNext 65 = .ok (.imul, 1) := by decide +kernel
theorem dX2_lowestNext_66 : decode cX2_lowestNext 66 = .ok (.iload 4, 2) := by decide +kernel
theorem dX2_lowestNext_68 : decode cX2_lowestNext 68 = .ok (.iadd, 1) := by decide +kernel
theorem dX2_lowestNext_69 : decode cX2_lowestNext 69 = .ok (.iaload, 1) := by decide +kernel
theorem dX2_lowestNext_70 : decode cX2_lowestNext 70 = .ok (.if_icmp .gt 6, 3) := by decide +kernel
theorem dX2_lowestNext_73 : decode cX2_lowestNext 73 = .ok (.iload 4, 2) := by decide +kernel
theorem dX2_lowestNext_75 : decode cX2_lowestNext 75 = .ok (.ireturn, 1) := by decide +kernel
theorem dX2_lowestNext_76 : decode cX2_lowestNext 76 = .ok (.iinc 4 1, 3) := by decide +kernel
theorem dX2_lowestNext_79 : decode cX2_lowestNext 79 = .ok (.goto (-76), 3) := by decide +kernel
theorem dX2_lowestNext_82 : decode cX2_lowestNext 82 = .ok (.iconst (-1), 1) := by decide +kernel
theorem dX2_lowestNext_83 : decode cX2_lowestNext 83 = .ok (.ireturn, 1) := by decide +kernel
theorem dX2_isTriedFirst_0 : decode cX2_isTriedFirst 0 = .ok (.iconst 0, 1) := by decide +kernel
theorem dX2_isTriedFirst_1 : decode cX2_isTriedFirst 1 = .ok (.istore_n 2, 1) := by decide +kernel
theorem dX2_isTriedFirst_2 : decode cX2_isTriedFirst 2 = .ok (.iload_n 2, 1) := by decide +kernel
theorem dX2_isTriedFirst_3 : decode cX2_isTriedFirst 3 = .ok (.iload_n 1, 1) := by decide +kernel
theorem dX2_isTriedFirst_4 : decode cX2_isTriedFirst 4 = .ok (.if_icmp .ge 53, 3) := by decide +kernel
theorem dX2_isTriedFirst_7 : decode cX2_isTriedFirst 7 = .ok (.iload_n 2, 1) := by decide +kernel
theorem dX2_isTriedFirst_8 : decode cX2_isTriedFirst 8 = .ok (.aload_n 0, 1) := by decide +kernel
theorem dX2_isTriedFirst_9 : decode cX2_isTriedFirst 9 = .ok (.getfield 72, 3) := by decide +kernel
theorem dX2_isTriedFirst_12 : decode cX2_isTriedFirst 12 = .ok (.if_icmp .ge 45, 3) := by decide +kernel
theorem dX2_isTriedFirst_15 : decode cX2_isTriedFirst 15 = .ok (.aload_n 0, 1) := by decide +kernel
theorem dX2_isTriedFirst_16 : decode cX2_isTriedFirst 16 = .ok (.getfield 39, 3) := by decide +kernel
theorem dX2_isTriedFirst_19 : decode cX2_isTriedFirst 19 = .ok (.iload_n 2, 1) := by decide +kernel
theorem dX2_isTriedFirst_20 : decode cX2_isTriedFirst 20 = .ok (.iaload, 1) := by decide +kernel
theorem dX2_isTriedFirst_21 : decode cX2_isTriedFirst 21 = .ok (.aload_n 0, 1) := by decide +kernel
theorem dX2_isTriedFirst_22 : decode cX2_isTriedFirst 22 = .ok (.getfield 42, 3) := by decide +kernel
theorem dX2_isTriedFirst_25 : decode cX2_isTriedFirst 25 = .ok (.iload_n 2, 1) := by decide +kernel
theorem dX2_isTriedFirst_26 : decode cX2_isTriedFirst 26 = .ok (.iaload, 1) := by decide +kernel
theorem dX2_isTriedFirst_27 : decode cX2_isTriedFirst 27 = .ok (.if_icmp .eq 24, 3) := by decide +kernel
theorem dX2_isTriedFirst_30 : decode cX2_isTriedFirst 30 = .ok (.aload_n 0, 1) := by decide +kernel
theorem dX2_isTriedFirst_31 : decode cX2_isTriedFirst 31 = .ok (.getfield 39, 3) := by decide +kernel
theorem dX2_isTriedFirst_34 : decode cX2_isTriedFirst 34 = .ok (.iload_n 2, 1) := by decide +kernel
theorem dX2_isTriedFirst_35 : decode cX2_isTriedFirst 35 = .ok (.iaload, 1) := by decide +kernel
theorem dX2_isTriedFirst_36 : decode cX2_isTriedFirst 36 = .ok (.aload_n 0, 1) := by decide +kernel
theorem dX2_isTriedFirst_37 : decode cX2_isTriedFirst 37 = .ok (.getfield 42, 3) := by decide +kernel
theorem dX2_isTriedFirst_40 : decode cX2_isTriedFirst 40 = .ok (.iload_n 2, 1) := by decide +kernel
theorem dX2_isTriedFirst_41 : decode cX2_isTriedFirst 41 = .ok (.iaload, 1) := by decide +kernel
theorem dX2_isTriedFirst_42 : decode cX2_isTriedFirst 42 = .ok (.if_icmp .ge 7, 3) := by decide +kernel
theorem dX2_isTriedFirst_45 : decode cX2_isTriedFirst 45 = .ok (.iconst 1, 1) := by decide +kernel
theorem dX2_isTriedFirst_46 : decode cX2_isTriedFirst 46 = .ok (.goto 4, 3) := by decide +kernel
theorem dX2_isTriedFirst_49 : decode cX2_isTriedFirst 49 = .ok (.iconst 0, 1) := by decide +kernel
theorem dX2_isTriedFirst_50 : decode cX2_isTriedFirst 50 = .ok (.ireturn, 1) := by decide +kernel
theorem dX2_isTriedFirst_51 : decode cX2_isTriedFirst 51 = .ok (.iinc 2 1, 3) := by decide +kernel
theorem dX2_isTriedFirst_54 : decode cX2_isTriedFirst 54 = .ok (.goto (-52), 3) := by decide +kernel
theorem dX2_isTriedFirst_57 : decode cX2_isTriedFirst 57 = .ok (.iload_n 1, 1) := by decide +kernel
theorem dX2_isTriedFirst_58 : decode cX2_isTriedFirst 58 = .ok (.aload_n 0, 1) := by decide +kernel
theorem dX2_isTriedFirst_59 : decode cX2_isTriedFirst 59 = .ok (.getfield 72, 3) := by decide +kernel
theorem dX2_isTriedFirst_62 : decode cX2_isTriedFirst 62 = .ok (.if_icmp .ge 7, 3) := by decide +kernel
theorem dX2_isTriedFirst_65 : decode cX2_isTriedFirst 65 = .ok (.iconst 1, 1) := by decide +kernel
theorem dX2_isTriedFirst_66 : decode cX2_isTriedFirst 66 = .ok (.goto 4, 3) := by decide +kernel
theorem dX2_isTriedFirst_69 : decode cX2_isTriedFirst 69 = .ok (.iconst 0, 1) := by decide +kernel
theorem dX2_isTriedFirst_70 : decode cX2_isTriedFirst 70 = .ok (.ireturn, 1) := by decide +kernel
set_option maxRecDepth 20000 in
theorem ggX2_timeOrder_X2_beginFrom : GoodIn wsX2_timeOrder wsX2_beginFrom := goodIn_r _ [10, 11, 12, 23, 24, 25, 26, 27, 28, 29, 30, 31, 32, 33, 34, 35, 36, 37, 38] (by decide +kernel) (by decide +kernel)
set_option maxRecDepth 20000 in
theorem gX2_timeOrder_X2_beginFrom : GoodIn wsX2_timeOrder (wsV RX2 156 RX2 yX2_beginFrom wsX2_beginFrom) := goodIn_app (goodIn_of _ (by decide +kernel)) ggX2_timeOrder_X2_beginFrom
theorem dX2_timeOrder_0 : decode cX2_timeOrder 0 = .ok (.bipush 10, 2) := by decide +kernel
theorem dX2_timeOrder_2 : decode cX2_timeOrder 2 = .ok (.istore_n 2, 1) := by decide +kernel
theorem dX2_timeOrder_3 : decode cX2_timeOrder 3 = .ok (.aload_n 1, 1) := by decide +kernel
theorem dX2_timeOrder_4 : decode cX2_timeOrder 4 = .ok (.getfield 136, 3) := by decide +kernel
theorem dX2_timeOrder_7 : decode cX2_timeOrder 7 = .ok (.istore_n 3, 1) := by decide +kernel
theorem dX2_timeOrder_8 : decode cX2_timeOrder 8 = .ok (.iconst 0, 1) := by decide +kernel
theorem dX2_timeOrder_9 : decode cX2_timeOrder 9 = .ok (.istore 4, 2) := by decide +kernel
theorem dX2_timeOrder_11 : decode cX2_timeOrder 11 = .ok (.iload 4, 2) := by decide +kernel
theorem dX2_timeOrder_13 : decode cX2_timeOrder 13 = .ok (.aload_n 0, 1) := by decide +kernel
theorem dX2_timeOrder_14 : decode cX2_timeOrder 14 = .ok (.getfield 72, 3) := by decide +kernel
theorem dX2_timeOrder_17 : decode cX2_timeOrder 17 = .ok (.if_icmp .ge 64, 3) := by decide +kernel
theorem dX2_timeOrder_20 : decode cX2_timeOrder 20 = .ok (.aload_n 0, 1) := by decide +kernel
theorem dX2_timeOrder_21 : decode cX2_timeOrder 21 = .ok (.getfield 42, 3) := by decide +kernel
theorem dX2_timeOrder_24 : decode cX2_timeOrder 24 = .ok (.iload 4, 2) := by decide +kernel
theorem dX2_timeOrder_26 : decode cX2_timeOrder 26 = .ok (.iaload, 1) := by decide +kernel
theorem dX2_timeOrder_27 : decode cX2_timeOrder 27 = .ok (.istore 5, 2) := by decide +kernel
theorem dX2_timeOrder_29 : decode cX2_timeOrder 29 = .ok (.aload_n 0, 1) := by decide +kernel
theorem dX2_timeOrder_30 : decode cX2_timeOrder 30 = .ok (.getfield 45, 3) := by decide +kernel
theorem dX2_timeOrder_33 : decode cX2_timeOrder 33 = .ok (.iload 4, 2) := by decide +kernel
theorem dX2_timeOrder_35 : decode cX2_timeOrder 35 = .ok (.aload_n 0, 1) := by decide +kernel
theorem dX2_timeOrder_36 : decode cX2_timeOrder 36 = .ok (.iload 5, 2) := by decide +kernel
theorem dX2_timeOrder_38 : decode cX2_timeOrder 38 = .ok (.iload_n 3, 1) := by decide +kernel
theorem dX2_timeOrder_39 : decode cX2_timeOrder 39 = .ok (.aload_n 0, 1) := by decide +kernel
theorem dX2_timeOrder_40 : decode cX2_timeOrder 40 = .ok (.getfield 24, 3) := by decide +kernel
theorem dX2_timeOrder_43 : decode cX2_timeOrder 43 = .ok (.iload_n 2, 1) := by decide +kernel
theorem dX2_timeOrder_44 : decode cX2_timeOrder 44 = .ok (.bipush 11, 2) := by decide +kernel
theorem dX2_timeOrder_46 : decode cX2_timeOrder 46 = .ok (.imul, 1) := by decide +kernel
theorem dX2_timeOrder_47 : decode cX2_timeOrder 47 = .ok (.iload 5, 2) := by decide +kernel
theorem dX2_timeOrder_49 : decode cX2_timeOrder 49 = .ok (.iadd, 1) := by decide +kernel
theorem dX2_timeOrder_50 : decode cX2_timeOrder 50 = .ok (.iaload, 1) := by decide +kernel
theorem dX2_timeOrder_51 : decode cX2_timeOrder 51 = .ok (.iadd, 1) := by decide +kernel
theorem dX2_timeOrder_52 : decode cX2_timeOrder 52 = .ok (.invokevirtual 156, 3) := by decide +kernel
theorem dX2_timeOrder_55 : decode cX2_timeOrder 55 = .ok (.iastore, 1) := by decide +kernel
theorem dX2_timeOrder_56 : decode cX2_timeOrder 56 = .ok (.aload_n 0, 1) := by decide +kernel
theorem dX2_timeOrder_57 : decode cX2_timeOrder 57 = .ok (.getfield 45, 3) := by decide +kernel
theorem dX2_timeOrder_60 : decode cX2_timeOrder 60 = .ok (.iload 4, 2) := by decide +kernel
theorem dX2_timeOrder_62 : decode cX2_timeOrder 62 = .ok (.iaload, 1) := by decide +kernel
theorem dX2_timeOrder_63 : decode cX2_timeOrder 63 = .ok (.aload_n 0, 1) := by decide +kernel
theorem dX2_timeOrder_64 : decode cX2_timeOrder 64 = .ok (.getfield 15, 3) := by decide +kernel
theorem dX2_timeOrder_67 : decode cX2_timeOrder 67 = .ok (.iload 5, 2) := by decide +kernel
theorem dX2_timeOrder_69 : decode cX2_timeOrder 69 = .ok (.iaload, 1) := by decide +kernel
theorem dX2_timeOrder_70 : decode cX2_timeOrder 70 = .ok (.iadd, 1) := by decide +kernel
theorem dX2_timeOrder_71 : decode cX2_timeOrder 71 = .ok (.istore_n 3, 1) := by decide +kernel
theorem dX2_timeOrder_72 : decode cX2_timeOrder 72 = .ok (.iload 5, 2) := by decide +kernel
theorem dX2_timeOrder_74 : decode cX2_timeOrder 74 = .ok (.istore_n 2, 1) := by decide +kernel
theorem dX2_timeOrder_75 : decode cX2_timeOrder 75 = .ok (.iinc 4 1, 3) := by decide +kernel
theorem dX2_timeOrder_78 : decode cX2_timeOrder 78 = .ok (.goto (-67), 3) := by decide +kernel
theorem dX2_timeOrder_81 : decode cX2_timeOrder 81 = .ok (.return_, 1) := by decide +kernel
theorem dX3_init_0 : decode cX3_init 0 = .ok (.aload_n 0, 1) := by decide +kernel
theorem dX3_init_1 : decode cX3_init 1 = .ok (.invokespecial 3, 3) := by decide +kernel
theorem dX3_init_4 : decode cX3_init 4 = .ok (.aload_n 0, 1) := by decide +kernel
theorem dX3_init_5 : decode cX3_init 5 = .ok (.bipush 8, 2) := by decide +kernel
theorem dX3_init_7 : decode cX3_init 7 = .ok (.newarray .int, 2) := by decide +kernel
theorem dX3_init_9 : decode cX3_init 9 = .ok (.putfield 9, 3) := by decide +kernel
theorem dX3_init_12 : decode cX3_init 12 = .ok (.return_, 1) := by decide +kernel
theorem dX3_isLit_0 : decode cX3_isLit 0 = .ok (.aload_n 0, 1) := by decide +kernel
theorem dX3_isLit_1 : decode cX3_isLit 1 = .ok (.getfield 15, 3) := by decide +kernel
theorem dX3_isLit_4 : decode cX3_isLit 4 = .ok (.ifCond .le 7, 3) := by decide +kernel
theorem dX3_isLit_7 : decode cX3_isLit 7 = .ok (.iconst 1, 1) := by decide +kernel
theorem dX3_isLit_8 : decode cX3_isLit 8 = .ok (.goto 4, 3) := by decide +kernel
theorem dX3_isLit_11 : decode cX3_isLit 11 = .ok (.iconst 0, 1) := by decide +kernel
theorem dX3_isLit_12 : decode cX3_isLit 12 = .ok (.ireturn, 1) := by decide +kernel
theorem dX3_goDark_0 : decode cX3_goDark 0 = .ok (.aload_n 0, 1) := by decide +kernel
theorem dX3_goDark_1 : decode cX3_goDark 1 = .ok (.iconst 0, 1) := by decide +kernel
theorem dX3_goDark_2 : decode cX3_goDark 2 = .ok (.putfield 15, 3) := by decide +kernel
theorem dX3_goDark_5 : decode cX3_goDark 5 = .ok (.return_, 1) := by decide +kernel
set_option maxRecDepth 20000 in
theorem ggX3_read_X8_within : GoodIn wsX3_read wsX8_within := goodIn_r _ [5] (by decide +kernel) (by decide +kernel)
set_option maxRecDepth 20000 in
theorem gX3_read_X8_within_n19 : GoodIn wsX3_read (wsX8_within) := ggX3_read_X8_within
theorem dX3_read_0 : decode cX3_read 0 = .ok (.iload_n 1, 1) := by decide +kernel
theorem dX3_read_1 : decode cX3_read 1 = .ok (.iconst 1, 1) := by decide +kernel
theorem dX3_read_2 : decode cX3_read 2 = .ok (.bipush 8, 2) := by decide +kernel
theorem dX3_read_4 : decode cX3_read 4 = .ok (.invokestatic 19, 3) := by decide +kernel
theorem dX3_read_7 : decode cX3_read 7 = .ok (.ifCond .eq 9, 3) := by decide +kernel
theorem dX3_read_10 : decode cX3_read 10 = .ok (.iload_n 1, 1) := by decide +kernel
theorem dX3_read_11 : decode cX3_read 11 = .ok (.iconst 2, 1) := by decide +kernel
theorem dX3_read_12 : decode cX3_read 12 = .ok (.irem, 1) := by decide +kernel
theorem dX3_read_13 : decode cX3_read 13 = .ok (.ifCond .eq 5, 3) := by decide +kernel
theorem dX3_read_16 : decode cX3_read 16 = .ok (.iconst 0, 1) := by decide +kernel
theorem dX3_read_17 : decode cX3_read 17 = .ok (.ireturn, 1) := by decide +kernel
theorem dX3_read_18 : decode cX3_read 18 = .ok (.iload_n 2, 1) := by decide +kernel
theorem dX3_read_19 : decode cX3_read 19 = .ok (.istore_n 3, 1) := by decide +kernel
theorem dX3_read_20 : decode cX3_read 20 = .ok (.iconst 0, 1) := by decide +kernel
theorem dX3_read_21 : decode cX3_read 21 = .ok (.istore 4, 2) := by decide +kernel
theorem dX3_read_23 : decode cX3_read 23 = .ok (.iload 4, 2) := by decide +kernel
theorem dX3_read_25 : decode cX3_read 25 = .ok (.iload_n 1, 1) := by decide +kernel
theorem dX3_read_26 : decode cX3_read 26 = .ok (.if_icmp .ge 36, 3) := by decide +kernel
theorem dX3_read_29 : decode cX3_read 29 = .ok (.iload_n 3, 1) := by decide +kernel
theorem dX3_read_30 : decode cX3_read 30 = .ok (.bipush 10, 2) := by decide +kernel
theorem dX3_read_32 : decode cX3_read 32 = .ok (.irem, 1) := by decide +kernel
theorem dX3_read_33 : decode cX3_read 33 = .ok (.istore 5, 2) := by decide +kernel
theorem dX3_read_35 : decode cX3_read 35 = .ok (.iload 5, 2) := by decide +kernel
theorem dX3_read_37 : decode cX3_read 37 = .ok (.ifCond .gt 5, 3) := by decide +kernel
theorem dX3_read_40 : decode cX3_read 40 = .ok (.iconst 0, 1) := by decide +kernel
theorem dX3_read_41 : decode cX3_read 41 = .ok (.ireturn, 1) := by decide +kernel
theorem dX3_read_42 : decode cX3_read 42 = .ok (.aload_n 0, 1) := by decide +kernel
theorem dX3_read_43 : decode cX3_read 43 = .ok (.getfield 9, 3) := by decide +kernel
theorem dX3_read_46 : decode cX3_read 46 = .ok (.iload 4, 2) := by decide +kernel
theorem dX3_read_48 : decode cX3_read 48 = .ok (.iload 5, 2) := by decide +kernel
theorem dX3_read_50 : decode cX3_read 50 = .ok (.iastore, 1) := by decide +kernel
theorem dX3_read_51 : decode cX3_read 51 = .ok (.iload_n 3, 1) := by decide +kernel
theorem dX3_read_52 : decode cX3_read 52 = .ok (.bipush 10, 2) := by decide +kernel
theorem dX3_read_54 : decode cX3_read 54 = .ok (.idiv, 1) := by decide +kernel
theorem dX3_read_55 : decode cX3_read 55 = .ok (.istore_n 3, 1) := by decide +kernel
theorem dX3_read_56 : decode cX3_read 56 = .ok (.iinc 4 1, 3) := by decide +kernel
theorem dX3_read_59 : decode cX3_read 59 = .ok (.goto (-36), 3) := by decide +kernel
theorem dX3_read_62 : decode cX3_read 62 = .ok (.aload_n 0, 1) := by decide +kernel
theorem dX3_read_63 : decode cX3_read 63 = .ok (.iload_n 1, 1) := by decide +kernel
theorem dX3_read_64 : decode cX3_read 64 = .ok (.putfield 15, 3) := by decide +kernel
theorem dX3_read_67 : decode cX3_read 67 = .ok (.iload_n 3, 1) := by decide +kernel
theorem dX3_read_68 : decode cX3_read 68 = .ok (.ifCond .ne 7, 3) := by decide +kernel
theorem dX3_read_71 : decode cX3_read 71 = .ok (.iconst 1, 1) := by decide +kernel
theorem dX3_read_72 : decode cX3_read 72 = .ok (.goto 4, 3) := by decide +kernel
theorem dX3_read_75 : decode cX3_read 75 = .ok (.iconst 0, 1) := by decide +kernel
theorem dX3_read_76 : decode cX3_read 76 = .ok (.ireturn, 1) := by decide +kernel
theorem dX3_copyFrom_0 : decode cX3_copyFrom 0 = .ok (.aload_n 1, 1) := by decide +kernel
theorem dX3_copyFrom_1 : decode cX3_copyFrom 1 = .ok (.getfield 9, 3) := by decide +kernel
theorem dX3_copyFrom_4 : decode cX3_copyFrom 4 = .ok (.iconst 0, 1) := by decide +kernel
theorem dX3_copyFrom_5 : decode cX3_copyFrom 5 = .ok (.aload_n 0, 1) := by decide +kernel
theorem dX3_copyFrom_6 : decode cX3_copyFrom 6 = .ok (.getfield 9, 3) := by decide +kernel
theorem dX3_copyFrom_9 : decode cX3_copyFrom 9 = .ok (.iconst 0, 1) := by decide +kernel
theorem dX3_copyFrom_10 : decode cX3_copyFrom 10 = .ok (.bipush 8, 2) := by decide +kernel
theorem dX3_copyFrom_12 : decode cX3_copyFrom 12 = .ok (.invokestatic 23, 3) := by decide +kernel
theorem dX3_copyFrom_15 : decode cX3_copyFrom 15 = .ok (.aload_n 0, 1) := by decide +kernel
theorem dX3_copyFrom_16 : decode cX3_copyFrom 16 = .ok (.aload_n 1, 1) := by decide +kernel
theorem dX3_copyFrom_17 : decode cX3_copyFrom 17 = .ok (.getfield 15, 3) := by decide +kernel
theorem dX3_copyFrom_20 : decode cX3_copyFrom 20 = .ok (.putfield 15, 3) := by decide +kernel
theorem dX3_copyFrom_23 : decode cX3_copyFrom 23 = .ok (.return_, 1) := by decide +kernel
set_option maxRecDepth 20000 in
theorem ggX3_matches_X3_matchesTurned : GoodIn wsX3_matches wsX3_matchesTurned := goodIn_r _ [6, 1, 7, 8, 9] (by decide +kernel) (by decide +kernel)
set_option maxRecDepth 20000 in
theorem gX3_matches_X3_matchesTurned : GoodIn wsX3_matches (wsV RX3 29 RX3 yX3_matchesTurned wsX3_matchesTurned) := goodIn_app (goodIn_of _ (by decide +kernel)) ggX3_matches_X3_matchesTurned
theorem dX3_matches_0 : decode cX3_matches 0 = .ok (.aload_n 0, 1) := by decide +kernel
theorem dX3_matches_1 : decode cX3_matches 1 = .ok (.getfield 15, 3) := by decide +kernel
theorem dX3_matches_4 : decode cX3_matches 4 = .ok (.aload_n 1, 1) := by decide +kernel
theorem dX3_matches_5 : decode cX3_matches 5 = .ok (.getfield 15, 3) := by decide +kernel
theorem dX3_matches_8 : decode cX3_matches 8 = .ok (.if_icmp .eq 5, 3) := by decide +kernel
theorem dX3_matches_11 : decode cX3_matches 11 = .ok (.iconst 0, 1) := by decide +kernel
theorem dX3_matches_12 : decode cX3_matches 12 = .ok (.ireturn, 1) := by decide +kernel
theorem dX3_matches_13 : decode cX3_matches 13 = .ok (.iconst 0, 1) := by decide +kernel
theorem dX3_matches_14 : decode cX3_matches 14 = .ok (.istore_n 2, 1) := by decide +kernel
theorem dX3_matches_15 : decode cX3_matches 15 = .ok (.iload_n 2, 1) := by decide +kernel
theorem dX3_matches_16 : decode cX3_matches 16 = .ok (.aload_n 0, 1) := by decide +kernel
theorem dX3_matches_17 : decode cX3_matches 17 = .ok (.getfield 15, 3) := by decide +kernel
theorem dX3_matches_20 : decode cX3_matches 20 = .ok (.if_icmp .ge 20, 3) := by decide +kernel
theorem dX3_matches_23 : decode cX3_matches 23 = .ok (.aload_n 0, 1) := by decide +kernel
theorem dX3_matches_24 : decode cX3_matches 24 = .ok (.aload_n 1, 1) := by decide +kernel
theorem dX3_matches_25 : decode cX3_matches 25 = .ok (.iload_n 2, 1) := by decide +kernel
theorem dX3_matches_26 : decode cX3_matches 26 = .ok (.invokevirtual 29, 3) := by decide +kernel
theorem dX3_matches_29 : decode cX3_matches 29 = .ok (.ifCond .eq 5, 3) := by decide +kernel
theorem dX3_matches_32 : decode cX3_matches 32 = .ok (.iconst 1, 1) := by decide +kernel
theorem dX3_matches_33 : decode cX3_matches 33 = .ok (.ireturn, 1) := by decide +kernel
theorem dX3_matches_34 : decode cX3_matches 34 = .ok (.iinc 2 2, 3) := by decide +kernel
theorem dX3_matches_37 : decode cX3_matches 37 = .ok (.goto (-22), 3) := by decide +kernel
theorem dX3_matches_40 : decode cX3_matches 40 = .ok (.iconst 0, 1) := by decide +kernel
theorem dX3_matches_41 : decode cX3_matches 41 = .ok (.ireturn, 1) := by decide +kernel
theorem dX3_matchesTurned_0 : decode cX3_matchesTurned 0 = .ok (.iconst 0, 1) := by decide +kernel
theorem dX3_matchesTurned_1 : decode cX3_matchesTurned 1 = .ok (.istore_n 3, 1) := by decide +kernel
theorem dX3_matchesTurned_2 : decode cX3_matchesTurned 2 = .ok (.iload_n 3, 1) := by decide +kernel
theorem dX3_matchesTurned_3 : decode cX3_matchesTurned 3 = .ok (.aload_n 0, 1) := by decide +kernel
theorem dX3_matchesTurned_4 : decode cX3_matchesTurned 4 = .ok (.getfield 15, 3) := by decide +kernel
theorem dX3_matchesTurned_7 : decode cX3_matchesTurned 7 = .ok (.if_icmp .ge 33, 3) := by decide +kernel
theorem dX3_matchesTurned_10 : decode cX3_matchesTurned 10 = .ok (.aload_n 0, 1) := by decide +kernel
theorem dX3_matchesTurned_11 : decode cX3_matchesTurned 11 = .ok (.getfield 9, 3) := by decide +kernel
theorem dX3_matchesTurned_14 : decode cX3_matchesTurned 14 = .ok (.iload_n 3, 1) := by decide +kernel
theorem dX3_matchesTurned_15 : decode cX3_matchesTurned 15 = .ok (.iload_n 2, 1) := by decide +kernel
theorem dX3_matchesTurned_16 : decode cX3_matchesTurned 16 = .ok (.iadd, 1) := by decide +kernel
theorem dX3_matchesTurned_17 : decode cX3_matchesTurned 17 = .ok (.aload_n 0, 1) := by decide +kernel
theorem dX3_matchesTurned_18 : decode cX3_matchesTurned 18 = .ok (.getfield 15, 3) := by decide +kernel
theorem dX3_matchesTurned_21 : decode cX3_matchesTurned 21 = .ok (.irem, 1) := by decide +kernel
theorem dX3_matchesTurned_22 : decode cX3_matchesTurned 22 = .ok (.iaload, 1) := by decide +kernel
theorem dX3_matchesTurned_23 : decode cX3_matchesTurned 23 = .ok (.aload_n 1, 1) := by decide +kernel
theorem dX3_matchesTurned_24 : decode cX3_matchesTurned 24 = .ok (.getfield 9, 3) := by decide +kernel
theorem dX3_matchesTurned_27 : decode cX3_matchesTurned 27 = .ok (.iload_n 3, 1) := by decide +kernel
theorem dX3_matchesTurned_28 : decode cX3_matchesTurned 28 = .ok (.iaload, 1) := by decide +kernel
theorem dX3_matchesTurned_29 : decode cX3_matchesTurned 29 = .ok (.if_icmp .eq 5, 3) := by decide +kernel
theorem dX3_matchesTurned_32 : decode cX3_matchesTurned 32 = .ok (.iconst 0, 1) := by decide +kernel
theorem dX3_matchesTurned_33 : decode cX3_matchesTurned 33 = .ok (.ireturn, 1) := by decide +kernel
theorem dX3_matchesTurned_34 : decode cX3_matchesTurned 34 = .ok (.iinc 3 1, 3) := by decide +kernel
theorem dX3_matchesTurned_37 : decode cX3_matchesTurned 37 = .ok (.goto (-35), 3) := by decide +kernel
theorem dX3_matchesTurned_40 : decode cX3_matchesTurned 40 = .ok (.iconst 1, 1) := by decide +kernel
theorem dX3_matchesTurned_41 : decode cX3_matchesTurned 41 = .ok (.ireturn, 1) := by decide +kernel
theorem dX4_init_0 : decode cX4_init 0 = .ok (.aload_n 0, 1) := by decide +kernel
theorem dX4_init_1 : decode cX4_init 1 = .ok (.invokespecial 3, 3) := by decide +kernel
theorem dX4_init_4 : decode cX4_init 4 = .ok (.aload_n 0, 1) := by decide +kernel
theorem dX4_init_5 : decode cX4_init 5 = .ok (.bipush 24, 2) := by decide +kernel
theorem dX4_init_7 : decode cX4_init 7 = .ok (.newarray .int, 2) := by decide +kernel
theorem dX4_init_9 : decode cX4_init 9 = .ok (.putfield 9, 3) := by decide +kernel
theorem dX4_init_12 : decode cX4_init 12 = .ok (.aload_n 0, 1) := by decide +kernel
theorem dX4_init_13 : decode cX4_init 13 = .ok (.bipush 24, 2) := by decide +kernel
theorem dX4_init_15 : decode cX4_init 15 = .ok (.newarray .int, 2) := by decide +kernel
theorem dX4_init_17 : decode cX4_init 17 = .ok (.putfield 15, 3) := by decide +kernel
theorem dX4_init_20 : decode cX4_init 20 = .ok (.aload_n 0, 1) := by decide +kernel
theorem dX4_init_21 : decode cX4_init 21 = .ok (.sipush 1440, 3) := by decide +kernel
theorem dX4_init_24 : decode cX4_init 24 = .ok (.putfield 18, 3) := by decide +kernel
theorem dX4_init_27 : decode cX4_init 27 = .ok (.aload_n 0, 1) := by decide +kernel
theorem dX4_init_28 : decode cX4_init 28 = .ok (.iconst 1, 1) := by decide +kernel
theorem dX4_init_29 : decode cX4_init 29 = .ok (.putfield 22, 3) := by decide +kernel
theorem dX4_init_32 : decode cX4_init 32 = .ok (.aload_n 0, 1) := by decide +kernel
theorem dX4_init_33 : decode cX4_init 33 = .ok (.bipush 12, 2) := by decide +kernel
theorem dX4_init_35 : decode cX4_init 35 = .ok (.putfield 25, 3) := by decide +kernel
theorem dX4_init_38 : decode cX4_init 38 = .ok (.return_, 1) := by decide +kernel
theorem dX4_mayBegin_0 : decode cX4_mayBegin 0 = .ok (.iload_n 1, 1) := by decide +kernel
theorem dX4_mayBegin_1 : decode cX4_mayBegin 1 = .ok (.aload_n 0, 1) := by decide +kernel
theorem dX4_mayBegin_2 : decode cX4_mayBegin 2 = .ok (.getfield 9, 3) := by decide +kernel
theorem dX4_mayBegin_5 : decode cX4_mayBegin 5 = .ok (.iload_n 2, 1) := by decide +kernel
theorem dX4_mayBegin_6 : decode cX4_mayBegin 6 = .ok (.iaload, 1) := by decide +kernel
theorem dX4_mayBegin_7 : decode cX4_mayBegin 7 = .ok (.iadd, 1) := by decide +kernel
theorem dX4_mayBegin_8 : decode cX4_mayBegin 8 = .ok (.aload_n 0, 1) := by decide +kernel
theorem dX4_mayBegin_9 : decode cX4_mayBegin 9 = .ok (.getfield 28, 3) := by decide +kernel
theorem dX4_mayBegin_12 : decode cX4_mayBegin 12 = .ok (.if_icmp .lt 20, 3) := by decide +kernel
theorem dX4_mayBegin_15 : decode cX4_mayBegin 15 = .ok (.aload_n 0, 1) := by decide +kernel
theorem dX4_mayBegin_16 : decode cX4_mayBegin 16 = .ok (.getfield 15, 3) := by decide +kernel
theorem dX4_mayBegin_19 : decode cX4_mayBegin 19 = .ok (.iload_n 2, 1) := by decide +kernel
theorem dX4_mayBegin_20 : decode cX4_mayBegin 20 = .ok (.iaload, 1) := by decide +kernel
theorem dX4_mayBegin_21 : decode cX4_mayBegin 21 = .ok (.aload_n 0, 1) := by decide +kernel
theorem dX4_mayBegin_22 : decode cX4_mayBegin 22 = .ok (.getfield 25, 3) := by decide +kernel
theorem dX4_mayBegin_25 : decode cX4_mayBegin 25 = .ok (.if_icmp .gt 7, 3) := by decide +kernel
theorem dX4_mayBegin_28 : decode cX4_mayBegin 28 = .ok (.iconst 1, 1) := by decide +kernel
theorem dX4_mayBegin_29 : decode cX4_mayBegin 29 = .ok (.goto 4, 3) := by decide +kernel
theorem dX4_mayBegin_32 : decode cX4_mayBegin 32 = .ok (.iconst 0, 1) := by decide +kernel
theorem dX4_mayBegin_33 : decode cX4_mayBegin 33 = .ok (.ireturn, 1) := by decide +kernel
theorem dX5_init_0 : decode cX5_init 0 = .ok (.aload_n 0, 1) := by decide +kernel
theorem dX5_init_1 : decode cX5_init 1 = .ok (.invokespecial 3, 3) := by decide +kernel
theorem dX5_init_4 : decode cX5_init 4 = .ok (.aload_n 0, 1) := by decide +kernel
theorem dX5_init_5 : decode cX5_init 5 = .ok (.bipush 40, 2) := by decide +kernel
theorem dX5_init_7 : decode cX5_init 7 = .ok (.newarray .long, 2) := by decide +kernel
theorem dX5_init_9 : decode cX5_init 9 = .ok (.putfield 9, 3) := by decide +kernel
theorem dX5_init_12 : decode cX5_init 12 = .ok (.aload_n 0, 1) := by decide +kernel
theorem dX5_init_13 : decode cX5_init 13 = .ok (.sipush 200, 3) := by decide +kernel
theorem dX5_init_16 : decode cX5_init 16 = .ok (.putfield 15, 3) := by decide +kernel
theorem dX5_init_19 : decode cX5_init 19 = .ok (.return_, 1) := by decide +kernel
set_option maxRecDepth 20000 in
theorem ggX5_begin_J7_fill_d0a16 : GoodIn wsX5_begin wsJ7_fill_d0a16 := goodIn_r _ [8] (by decide +kernel) (by decide +kernel)
set_option maxRecDepth 20000 in
theorem gX5_begin_J7_fill_d0a16 : GoodIn wsX5_begin (va_wsS RX5 19 yJ7_fill_d0a16 wsJ7_fill_d0a16) := goodIn_app (goodIn_of _ (by decide +kernel)) ggX5_begin_J7_fill_d0a16
theorem dX5_begin_0 : decode cX5_begin 0 = .ok (.aload_n 0, 1) := by decide +kernel
theorem dX5_begin_1 : decode cX5_begin 1 = .ok (.getfield 9, 3) := by decide +kernel
theorem dX5_begin_4 : decode cX5_begin 4 = .ok (.lconst 0, 1) := by decide +kernel
theorem dX5_begin_5 : decode cX5_begin 5 = .ok (.invokestatic 19, 3) := by decide +kernel
theorem dX5_begin_8 : decode cX5_begin 8 = .ok (.aload_n 0, 1) := by decide +kernel
theorem dX5_begin_9 : decode cX5_begin 9 = .ok (.iconst 0, 1) := by decide +kernel
theorem dX5_begin_10 : decode cX5_begin 10 = .ok (.putfield 25, 3) := by decide +kernel
theorem dX5_begin_13 : decode cX5_begin 13 = .ok (.aload_n 0, 1) := by decide +kernel
theorem dX5_begin_14 : decode cX5_begin 14 = .ok (.sipush 200, 3) := by decide +kernel
theorem dX5_begin_17 : decode cX5_begin 17 = .ok (.putfield 15, 3) := by decide +kernel
theorem dX5_begin_20 : decode cX5_begin 20 = .ok (.aload_n 0, 1) := by decide +kernel
theorem dX5_begin_21 : decode cX5_begin 21 = .ok (.iconst 0, 1) := by decide +kernel
theorem dX5_begin_22 : decode cX5_begin 22 = .ok (.putfield 28, 3) := by decide +kernel
theorem dX5_begin_25 : decode cX5_begin 25 = .ok (.return_, 1) := by decide +kernel
theorem dX5_tellBearing_0 : decode cX5_tellBearing 0 = .ok (.iconst 0, 1) := by decide +kernel
theorem dX5_tellBearing_1 : decode cX5_tellBearing 1 = .ok (.istore 7, 2) := by decide +kernel
theorem dX5_tellBearing_3 : decode cX5_tellBearing 3 = .ok (.iload 7, 2) := by decide +kernel
theorem dX5_tellBearing_5 : decode cX5_tellBearing 5 = .ok (.bipush 40, 2) := by decide +kernel
theorem dX5_tellBearing_7 : decode cX5_tellBearing 7 = .ok (.if_icmp .ge 99, 3) := by decide +kernel
theorem dX5_tellBearing_10 : decode cX5_tellBearing 10 = .ok (.aload_n 0, 1) := by decide +kernel
theorem dX5_tellBearing_11 : decode cX5_tellBearing 11 = .ok (.getfield 9, 3) := by decide +kernel
theorem dX5_tellBearing_14 : decode cX5_tellBearing 14 = .ok (.iload 7, 2) := by decide +kernel
theorem dX5_tellBearing_16 : decode cX5_tellBearing 16 = .ok (.laload, 1) := by decide +kernel
theorem dX5_tellBearing_17 : decode cX5_tellBearing 17 = .ok (.lstore 8, 2) := by decide +kernel
theorem dX5_tellBearing_19 : decode cX5_tellBearing 19 = .ok (.iconst 0, 1) := by decide +kernel
theorem dX5_tellBearing_20 : decode cX5_tellBearing 20 = .ok (.istore 10, 2) := by decide +kernel
theorem dX5_tellBearing_22 : decode cX5_tellBearing 22 = .ok (.iload 10, 2) := by decide +kernel
theorem dX5_tellBearing_24 : decode cX5_tellBearing 24 = .ok (.bipush 40, 2) := by decide +kernel
theorem dX5_tellBearing_26 : decode cX5_tellBearing 26 = .ok (.if_icmp .ge 65, 3) := by decide +kernel
theorem dX5_tellBearing_29 : decode cX5_tellBearing 29 = .ok (.iload_n 3, 1) := by decide +kernel
theorem dX5_tellBearing_30 : decode cX5_tellBearing 30 = .ok (.iload 7, 2) := by decide +kernel
theorem dX5_tellBearing_32 : decode cX5_tellBearing 32 = .ok (.iload_n 2, 1) := by decide +kernel
theorem dX5_tellBearing_33 : decode cX5_tellBearing 33 = .ok (.isub, 1) := by decide +kernel
theorem dX5_tellBearing_34 : decode cX5_tellBearing 34 = .ok (.imul, 1) := by decide +kernel
theorem dX5_tellBearing_35 : decode cX5_tellBearing 35 = .ok (.iload 4, 2) := by decide +kernel
theorem dX5_tellBearing_37 : decode cX5_tellBearing 37 = .ok (.iload 10, 2) := by decide +kernel
theorem dX5_tellBearing_39 : decode cX5_tellBearing 39 = .ok (.iload_n 1, 1) := by decide +kernel
theorem dX5_tellBearing_40 : decode cX5_tellBearing 40 = .ok (.isub, 1) := by decide +kernel
theorem dX5_tellBearing_41 : decode cX5_tellBearing 41 = .ok (.imul, 1) := by decide +kernel
theorem dX5_tellBearing_42 : decode cX5_tellBearing 42 = .ok (.isub, 1) := by decide +kernel
theorem dX5_tellBearing_43 : decode cX5_tellBearing 43 = .ok (.ifCond .lt 25, 3) := by decide +kernel
theorem dX5_tellBearing_46 : decode cX5_tellBearing 46 = .ok (.iload 5, 2) := by decide +kernel
theorem dX5_tellBearing_48 : decode cX5_tellBearing 48 = .ok (.iload 7, 2) := by decide +kernel
theorem dX5_tellBearing_50 : decode cX5_tellBearing 50 = .ok (.iload_n 2, 1) := by decide +kernel
theorem dX5_tellBearing_51 : decode cX5_tellBearing 51 = .ok (.isub, 1) := by decide +kernel
theorem dX5_tellBearing_52 : decode cX5_tellBearing 52 = .ok (.imul, 1) := by decide +kernel
theorem dX5_tellBearing_53 : decode cX5_tellBearing 53 = .ok (.iload 6, 2) := by decide +kernel
theorem dX5_tellBearing_55 : decode cX5_tellBearing 55 = .ok (.iload 10, 2) := by decide +kernel
theorem dX5_tellBearing_57 : decode cX5_tellBearing 57 = .ok (.iload_n 1, 1) := by decide +kernel
theorem dX5_tellBearing_58 : decode cX5_tellBearing 58 = .ok (.isub, 1) := by decide +kernel
theorem dX5_tellBearing_59 : decode cX5_tellBearing 59 = .ok (.imul, 1) := by decide +kernel
theorem dX5_tellBearing_60 : decode cX5_tellBearing 60 = .ok (.isub, 1) := by decide +kernel
theorem dX5_tellBearing_61 : decode cX5_tellBearing 61 = .ok (.ifCond .gt 7, 3) := by decide +kernel
theorem dX5_tellBearing_64 : decode cX5_tellBearing 64 = .ok (.iconst 1, 1) := by decide +kernel
theorem dX5_tellBearing_65 : decode cX5_tellBearing 65 = .ok (.goto 4, 3) := by decide +kernel
theorem dX5_tellBearing_68 : decode cX5_tellBearing 68 = .ok (.iconst 0, 1) := by decide +kernel
theorem dX5_tellBearing_69 : decode cX5_tellBearing 69 = .ok (.istore 11, 2) := by decide +kernel
theorem dX5_tellBearing_71 : decode cX5_tellBearing 71 = .ok (.iload 11, 2) := by decide +kernel
theorem dX5_tellBearing_73 : decode cX5_tellBearing 73 = .ok (.ifCond .ne 12, 3) := by decide +kernel
theorem dX5_tellBearing_76 : decode cX5_tellBearing 76 = .ok (.lload 8, 2) := by decide +kernel
theorem dX5_tellBearing_78 : decode cX5_tellBearing 78 = .ok (.lconst 1, 1) := by decide +kernel
theorem dX5_tellBearing_79 : decode cX5_tellBearing 79 = .ok (.iload 10, 2) := by decide +kernel
theorem dX5_tellBearing_81 : decode cX5_tellBearing 81 = .ok (.lshl, 1) := by decide +kernel
theorem dX5_tellBearing_82 : decode cX5_tellBearing 82 = .ok (.lor, 1) := by decide +kernel
theorem dX5_tellBearing_83 : decode cX5_tellBearing 83 = .ok (.lstore 8, 2) := by decide +kernel
theorem dX5_tellBearing_85 : decode cX5_tellBearing 85 = .ok (.iinc 10 1, 3) := by decide +kernel
theorem dX5_tellBearing_88 : decode cX5_tellBearing 88 = .ok (.goto (-66), 3) := by decide +kernel
theorem dX5_tellBearing_91 : decode cX5_tellBearing 91 = .ok (.aload_n 0, 1) := by decide +kernel
theorem dX5_tellBearing_92 : decode cX5_tellBearing 92 = .ok (.getfield 9, 3) := by decide +kernel
theorem dX5_tellBearing_95 : decode cX5_tellBearing 95 = .ok (.iload 7, 2) := by decide +kernel
theorem dX5_tellBearing_97 : decode cX5_tellBearing 97 = .ok (.lload 8, 2) := by decide +kernel
theorem dX5_tellBearing_99 : decode cX5_tellBearing 99 = .ok (.lastore, 1) := by decide +kernel
theorem dX5_tellBearing_100 : decode cX5_tellBearing 100 = .ok (.iinc 7 1, 3) := by decide +kernel
theorem dX5_tellBearing_103 : decode cX5_tellBearing 103 = .ok (.goto (-100), 3) := by decide +kernel
theorem dX5_tellBearing_106 : decode cX5_tellBearing 106 = .ok (.aload_n 0, 1) := by decide +kernel
theorem dX5_tellBearing_107 : decode cX5_tellBearing 107 = .ok (.iconst 1, 1) := by decide +kernel
theorem dX5_tellBearing_108 : decode cX5_tellBearing 108 = .ok (.putfield 28, 3) := by decide +kernel
theorem dX5_tellBearing_111 : decode cX5_tellBearing 111 = .ok (.return_, 1) := by decide +kernel
theorem dX5_tellSounding_0 : decode cX5_tellSounding 0 = .ok (.aload_n 0, 1) := by decide +kernel
theorem dX5_tellSounding_1 : decode cX5_tellSounding 1 = .ok (.aload_n 0, 1) := by decide +kernel
theorem dX5_tellSounding_2 : decode cX5_tellSounding 2 = .ok (.getfield 25, 3) := by decide +kernel
theorem dX5_tellSounding_5 : decode cX5_tellSounding 5 = .ok (.iload_n 1, 1) := by decide +kernel
theorem dX5_tellSounding_6 : decode cX5_tellSounding 6 = .ok (.invokestatic 32, 3) := by decide +kernel
theorem dX5_tellSounding_9 : decode cX5_tellSounding 9 = .ok (.putfield 25, 3) := by decide +kernel
theorem dX5_tellSounding_12 : decode cX5_tellSounding 12 = .ok (.aload_n 0, 1) := by decide +kernel
theorem dX5_tellSounding_13 : decode cX5_tellSounding 13 = .ok (.aload_n 0, 1) := by decide +kernel
theorem dX5_tellSounding_14 : decode cX5_tellSounding 14 = .ok (.getfield 15, 3) := by decide +kernel
theorem dX5_tellSounding_17 : decode cX5_tellSounding 17 = .ok (.iload_n 2, 1) := by decide +kernel
theorem dX5_tellSounding_18 : decode cX5_tellSounding 18 = .ok (.invokestatic 38, 3) := by decide +kernel
theorem dX5_tellSounding_21 : decode cX5_tellSounding 21 = .ok (.putfield 15, 3) := by decide +kernel
theorem dX5_tellSounding_24 : decode cX5_tellSounding 24 = .ok (.aload_n 0, 1) := by decide +kernel
theorem dX5_tellSounding_25 : decode cX5_tellSounding 25 = .ok (.iconst 1, 1) := by decide +kernel
theorem dX5_tellSounding_26 : decode cX5_tellSounding 26 = .ok (.putfield 28, 3) := by decide +kernel
theorem dX5_tellSounding_29 : decode cX5_tellSounding 29 = .ok (.return_, 1) := by decide +kernel
theorem dX6_init_0 : decode cX6_init 0 = .ok (.aload_n 0, 1) := by decide +kernel
theorem dX6_init_1 : decode cX6_init 1 = .ok (.invokespecial 3, 3) := by decide +kernel
theorem dX6_init_4 : decode cX6_init 4 = .ok (.return_, 1) := by decide +kernel
set_option maxRecDepth 20000 in
theorem ggX6_take_X6_count : GoodIn wsX6_take wsX6_count := goodIn_r _ [11, 1, 3, 12, 13, 14, 15, 4, 5, 16, 17, 18, 6, 2, 19, 20, 21, 22, 23, 24, 25, 26, 27, 28, 29, 30, 31, 32, 33, 34, 35, 36] (by decide +kernel) (by decide +kernel)
set_option maxRecDepth 20000 in
theorem gX6_take_X6_count : GoodIn wsX6_take (wsV RX6 48 RX6 yX6_count wsX6_count) := goodIn_app (goodIn_of _ (by decide +kernel)) ggX6_take_X6_count
theorem dX6_take_0 : decode cX6_take 0 = .ok (.aload_n 0, 1) := by decide +kernel
theorem dX6_take_1 : decode cX6_take 1 = .ok (.iconst 0, 1) := by decide +kernel
theorem dX6_take_2 : decode cX6_take 2 = .ok (.putfield 9, 3) := by decide +kernel
theorem dX6_take_5 : decode cX6_take 5 = .ok (.aload_n 0, 1) := by decide +kernel
theorem dX6_take_6 : decode cX6_take 6 = .ok (.iconst 0, 1) := by decide +kernel
theorem dX6_take_7 : decode cX6_take 7 = .ok (.putfield 15, 3) := by decide +kernel
theorem dX6_take_10 : decode cX6_take 10 = .ok (.aload_n 0, 1) := by decide +kernel
theorem dX6_take_11 : decode cX6_take 11 = .ok (.iconst (-1), 1) := by decide +kernel
theorem dX6_take_12 : decode cX6_take 12 = .ok (.putfield 18, 3) := by decide +kernel
theorem dX6_take_15 : decode cX6_take 15 = .ok (.aload_n 0, 1) := by decide +kernel
theorem dX6_take_16 : decode cX6_take 16 = .ok (.iconst (-1), 1) := by decide +kernel
theorem dX6_take_17 : decode cX6_take 17 = .ok (.putfield 21, 3) := by decide +kernel
theorem dX6_take_20 : decode cX6_take 20 = .ok (.aload_n 0, 1) := by decide +kernel
theorem dX6_take_21 : decode cX6_take 21 = .ok (.iconst (-1), 1) := by decide +kernel
theorem dX6_take_22 : decode cX6_take 22 = .ok (.putfield 24, 3) := by decide +kernel
theorem dX6_take_25 : decode cX6_take 25 = .ok (.aload_n 0, 1) := by decide +kernel
theorem dX6_take_26 : decode cX6_take 26 = .ok (.iconst (-1), 1) := by decide +kernel
theorem dX6_take_27 : decode cX6_take 27 = .ok (.putfield 27, 3) := by decide +kernel
theorem dX6_take_30 : decode cX6_take 30 = .ok (.aload_n 1, 1) := by decide +kernel
theorem dX6_take_31 : decode cX6_take 31 = .ok (.getfield 30, 3) := by decide +kernel
theorem dX6_take_34 : decode cX6_take 34 = .ok (.astore_n 3, 1) := by decide +kernel
theorem dX6_take_35 : decode cX6_take 35 = .ok (.iconst 0, 1) := by decide +kernel
theorem dX6_take_36 : decode cX6_take 36 = .ok (.istore 4, 2) := by decide +kernel
theorem dX6_take_38 : decode cX6_take 38 = .ok (.iload 4, 2) := by decide +kernel
theorem dX6_take_40 : decode cX6_take 40 = .ok (.sipush 1600, 3) := by decide +kernel
theorem dX6_take_43 : decode cX6_take 43 = .ok (.if_icmp .ge 80, 3) := by decide +kernel
theorem dX6_take_46 : decode cX6_take 46 = .ok (.iload 4, 2) := by decide +kernel
theorem dX6_take_48 : decode cX6_take 48 = .ok (.aload_n 2, 1) := by decide +kernel
theorem dX6_take_49 : decode cX6_take 49 = .ok (.arraylength, 1) := by decide +kernel
theorem dX6_take_50 : decode cX6_take 50 = .ok (.if_icmp .ge 73, 3) := by decide +kernel
theorem dX6_take_53 : decode cX6_take 53 = .ok (.iload 4, 2) := by decide +kernel
theorem dX6_take_55 : decode cX6_take 55 = .ok (.bipush 40, 2) := by decide +kernel
theorem dX6_take_57 : decode cX6_take 57 = .ok (.irem, 1) := by decide +kernel
theorem dX6_take_58 : decode cX6_take 58 = .ok (.istore 5, 2) := by decide +kernel
theorem dX6_take_60 : decode cX6_take 60 = .ok (.iload 4, 2) := by decide +kernel
theorem dX6_take_62 : decode cX6_take 62 = .ok (.bipush 40, 2) := by decide +kernel
theorem dX6_take_64 : decode cX6_take 64 = .ok (.idiv, 1) := by decide +kernel
theorem dX6_take_65 : decode cX6_take 65 = .ok (.istore 6, 2) := by decide +kernel
theorem dX6_take_67 : decode cX6_take 67 = .ok (.aload_n 2, 1) := by decide +kernel
theorem dX6_take_68 : decode cX6_take 68 = .ok (.iload 4, 2) := by decide +kernel
theorem dX6_take_70 : decode cX6_take 70 = .ok (.iaload, 1) := by decide +kernel
theorem dX6_take_71 : decode cX6_take 71 = .ok (.istore 7, 2) := by decide +kernel
theorem dX6_take_73 : decode cX6_take 73 = .ok (.aload_n 3, 1) := by decide +kernel
theorem dX6_take_74 : decode cX6_take 74 = .ok (.getfield 36, 3) := by decide +kernel
theorem dX6_take_77 : decode cX6_take 77 = .ok (.iload 6, 2) := by decide +kernel
theorem dX6_take_79 : decode cX6_take 79 = .ok (.laload, 1) := by decide +kernel
theorem dX6_take_80 : decode cX6_take 80 = .ok (.iload 5, 2) := by decide +kernel
theorem dX6_take_82 : decode cX6_take 82 = .ok (.lshr, 1) := by decide +kernel
theorem dX6_take_83 : decode cX6_take 83 = .ok (.lconst 1, 1) := by decide +kernel
theorem dX6_take_84 : decode cX6_take 84 = .ok (.land, 1) := by decide +kernel
theorem dX6_take_85 : decode cX6_take 85 = .ok (.lconst 0, 1) := by decide +kernel
theorem dX6_take_86 : decode cX6_take 86 = .ok (.lcmp, 1) := by decide +kernel
theorem dX6_take_87 : decode cX6_take 87 = .ok (.ifCond .ne 30, 3) := by decide +kernel
theorem dX6_take_90 : decode cX6_take 90 = .ok (.iload 7, 2) := by decide +kernel
theorem dX6_take_92 : decode cX6_take 92 = .ok (.aload_n 3, 1) := by decide +kernel
theorem dX6_take_93 : decode cX6_take 93 = .ok (.getfield 42, 3) := by decide +kernel
theorem dX6_take_96 : decode cX6_take 96 = .ok (.if_icmp .lt 21, 3) := by decide +kernel
theorem dX6_take_99 : decode cX6_take 99 = .ok (.iload 7, 2) := by decide +kernel
theorem dX6_take_101 : decode cX6_take 101 = .ok (.aload_n 3, 1) := by decide +kernel
theorem dX6_take_102 : decode cX6_take 102 = .ok (.getfield 45, 3) := by decide +kernel
theorem dX6_take_105 : decode cX6_take 105 = .ok (.if_icmp .gt 12, 3) := by decide +kernel
theorem dX6_take_108 : decode cX6_take 108 = .ok (.aload_n 0, 1) := by decide +kernel
theorem dX6_take_109 : decode cX6_take 109 = .ok (.aload_n 1, 1) := by decide +kernel
theorem dX6_take_110 : decode cX6_take 110 = .ok (.iload 5, 2) := by decide +kernel
theorem dX6_take_112 : decode cX6_take 112 = .ok (.iload 6, 2) := by decide +kernel
theorem dX6_take_114 : decode cX6_take 114 = .ok (.invokevirtual 48, 3) := by decide +kernel
theorem dX6_take_117 : decode cX6_take 117 = .ok (.iinc 4 1, 3) := by decide +kernel
theorem dX6_take_120 : decode cX6_take 120 = .ok (.goto (-82), 3) := by decide +kernel
theorem dX6_take_123 : decode cX6_take 123 = .ok (.return_, 1) := by decide +kernel
set_option maxRecDepth 20000 in
theorem ggX6_count_X8_squareBetween : GoodIn wsX6_count wsX8_squareBetween := goodIn_r _ [16] (by decide +kernel) (by decide +kernel)
set_option maxRecDepth 20000 in
theorem gX6_count_X8_squareBetween_n67 : GoodIn wsX6_count (wsX8_squareBetween) := ggX6_count_X8_squareBetween
theorem dX6_count_0 : decode cX6_count 0 = .ok (.aload_n 0, 1) := by decide +kernel
theorem dX6_count_1 : decode cX6_count 1 = .ok (.aload_n 0, 1) := by decide +kernel
theorem dX6_count_2 : decode cX6_count 2 = .ok (.getfield 9, 3) := by decide +kernel
theorem dX6_count_5 : decode cX6_count 5 = .ok (.ifCond .ne 7, 3) := by decide +kernel
theorem dX6_count_8 : decode cX6_count 8 = .ok (.iload_n 2, 1) := by decide +kernel
theorem dX6_count_9 : decode cX6_count 9 = .ok (.goto 11, 3) := by decide +kernel
theorem dX6_count_12 : decode cX6_count 12 = .ok (.aload_n 0, 1) := by decide +kernel
theorem dX6_count_13 : decode cX6_count 13 = .ok (.getfield 18, 3) := by decide +kernel
theorem dX6_count_16 : decode cX6_count 16 = .ok (.iload_n 2, 1) := by decide +kernel
theorem dX6_count_17 : decode cX6_count 17 = .ok (.invokestatic 52, 3) := by decide +kernel
theorem dX6_count_20 : decode cX6_count 20 = .ok (.putfield 18, 3) := by decide +kernel
theorem dX6_count_23 : decode cX6_count 23 = .ok (.aload_n 0, 1) := by decide +kernel
theorem dX6_count_24 : decode cX6_count 24 = .ok (.aload_n 0, 1) := by decide +kernel
theorem dX6_count_25 : decode cX6_count 25 = .ok (.getfield 9, 3) := by decide +kernel
theorem dX6_count_28 : decode cX6_count 28 = .ok (.ifCond .ne 7, 3) := by decide +kernel
theorem dX6_count_31 : decode cX6_count 31 = .ok (.iload_n 3, 1) := by decide +kernel
theorem dX6_count_32 : decode cX6_count 32 = .ok (.goto 11, 3) := by decide +kernel
theorem dX6_count_35 : decode cX6_count 35 = .ok (.aload_n 0, 1) := by decide +kernel
theorem dX6_count_36 : decode cX6_count 36 = .ok (.getfield 21, 3) := by decide +kernel
theorem dX6_count_39 : decode cX6_count 39 = .ok (.iload_n 3, 1) := by decide +kernel
theorem dX6_count_40 : decode cX6_count 40 = .ok (.invokestatic 52, 3) := by decide +kernel
theorem dX6_count_43 : decode cX6_count 43 = .ok (.putfield 21, 3) := by decide +kernel
theorem dX6_count_46 : decode cX6_count 46 = .ok (.aload_n 0, 1) := by decide +kernel
theorem dX6_count_47 : decode cX6_count 47 = .ok (.aload_n 0, 1) := by decide +kernel
theorem dX6_count_48 : decode cX6_count 48 = .ok (.getfield 24, 3) := by decide +kernel
theorem dX6_count_51 : decode cX6_count 51 = .ok (.iload_n 2, 1) := by decide +kernel
theorem dX6_count_52 : decode cX6_count 52 = .ok (.invokestatic 58, 3) := by decide +kernel
theorem dX6_count_55 : decode cX6_count 55 = .ok (.putfield 24, 3) := by decide +kernel
theorem dX6_count_58 : decode cX6_count 58 = .ok (.aload_n 0, 1) := by decide +kernel
theorem dX6_count_59 : decode cX6_count 59 = .ok (.aload_n 0, 1) := by decide +kernel
theorem dX6_count_60 : decode cX6_count 60 = .ok (.getfield 27, 3) := by decide +kernel
theorem dX6_count_63 : decode cX6_count 63 = .ok (.iload_n 3, 1) := by decide +kernel
theorem dX6_count_64 : decode cX6_count 64 = .ok (.invokestatic 58, 3) := by decide +kernel
theorem dX6_count_67 : decode cX6_count 67 = .ok (.putfield 27, 3) := by decide +kernel
theorem dX6_count_70 : decode cX6_count 70 = .ok (.aload_n 0, 1) := by decide +kernel
theorem dX6_count_71 : decode cX6_count 71 = .ok (.dup, 1) := by decide +kernel
theorem dX6_count_72 : decode cX6_count 72 = .ok (.getfield 9, 3) := by decide +kernel
theorem dX6_count_75 : decode cX6_count 75 = .ok (.iconst 1, 1) := by decide +kernel
theorem dX6_count_76 : decode cX6_count 76 = .ok (.iadd, 1) := by decide +kernel
theorem dX6_count_77 : decode cX6_count 77 = .ok (.putfield 9, 3) := by decide +kernel
theorem dX6_count_80 : decode cX6_count 80 = .ok (.iload_n 2, 1) := by decide +kernel
theorem dX6_count_81 : decode cX6_count 81 = .ok (.iload_n 3, 1) := by decide +kernel
theorem dX6_count_82 : decode cX6_count 82 = .ok (.aload_n 1, 1) := by decide +kernel
theorem dX6_count_83 : decode cX6_count 83 = .ok (.getfield 61, 3) := by decide +kernel
theorem dX6_count_86 : decode cX6_count 86 = .ok (.aload_n 1, 1) := by decide +kernel
theorem dX6_count_87 : decode cX6_count 87 = .ok (.getfield 64, 3) := by decide +kernel
theorem dX6_count_90 : decode cX6_count 90 = .ok (.invokestatic 67, 3) := by decide +kernel
theorem dX6_count_93 : decode cX6_count 93 = .ok (.aload_n 1, 1) := by decide +kernel
theorem dX6_count_94 : decode cX6_count 94 = .ok (.getfield 71, 3) := by decide +kernel
theorem dX6_count_97 : decode cX6_count 97 = .ok (.aload_n 1, 1) := by decide +kernel
theorem dX6_count_98 : decode cX6_count 98 = .ok (.getfield 71, 3) := by decide +kernel
theorem dX6_count_101 : decode cX6_count 101 = .ok (.imul, 1) := by decide +kernel
theorem dX6_count_102 : decode cX6_count 102 = .ok (.if_icmp .gt 13, 3) := by decide +kernel
theorem dX6_count_105 : decode cX6_count 105 = .ok (.aload_n 0, 1) := by decide +kernel
theorem dX6_count_106 : decode cX6_count 106 = .ok (.dup, 1) := by decide +kernel
theorem dX6_count_107 : decode cX6_count 107 = .ok (.getfield 15, 3) := by decide +kernel
theorem dX6_count_110 : decode cX6_count 110 = .ok (.iconst 1, 1) := by decide +kernel
theorem dX6_count_111 : decode cX6_count 111 = .ok (.iadd, 1) := by decide +kernel
theorem dX6_count_112 : decode cX6_count 112 = .ok (.putfield 15, 3) := by decide +kernel
theorem dX6_count_115 : decode cX6_count 115 = .ok (.return_, 1) := by decide +kernel
theorem dX6_how_0 : decode cX6_how 0 = .ok (.aload_n 0, 1) := by decide +kernel
theorem dX6_how_1 : decode cX6_how 1 = .ok (.getfield 9, 3) := by decide +kernel
theorem dX6_how_4 : decode cX6_how 4 = .ok (.ifCond .ne 5, 3) := by decide +kernel
theorem dX6_how_7 : decode cX6_how 7 = .ok (.iconst 3, 1) := by decide +kernel
theorem dX6_how_8 : decode cX6_how 8 = .ok (.ireturn, 1) := by decide +kernel
theorem dX6_how_9 : decode cX6_how 9 = .ok (.aload_n 0, 1) := by decide +kernel
theorem dX6_how_10 : decode cX6_how 10 = .ok (.getfield 15, 3) := by decide +kernel
theorem dX6_how_13 : decode cX6_how 13 = .ok (.aload_n 0, 1) := by decide +kernel
theorem dX6_how_14 : decode cX6_how 14 = .ok (.getfield 9, 3) := by decide +kernel
theorem dX6_how_17 : decode cX6_how 17 = .ok (.if_icmp .ne 5, 3) := by decide +kernel
theorem dX6_how_20 : decode cX6_how 20 = .ok (.iconst 1, 1) := by decide +kernel
theorem dX6_how_21 : decode cX6_how 21 = .ok (.ireturn, 1) := by decide +kernel
theorem dX6_how_22 : decode cX6_how 22 = .ok (.aload_n 0, 1) := by decide +kernel
theorem dX6_how_23 : decode cX6_how 23 = .ok (.getfield 15, 3) := by decide +kernel
theorem dX6_how_26 : decode cX6_how 26 = .ok (.ifCond .ne 7, 3) := by decide +kernel
theorem dX6_how_29 : decode cX6_how 29 = .ok (.iconst 2, 1) := by decide +kernel
theorem dX6_how_30 : decode cX6_how 30 = .ok (.goto 4, 3) := by decide +kernel
theorem dX6_how_33 : decode cX6_how 33 = .ok (.iconst 0, 1) := by decide +kernel
theorem dX6_how_34 : decode cX6_how 34 = .ok (.ireturn, 1) := by decide +kernel
theorem dX7_init_0 : decode cX7_init 0 = .ok (.aload_n 0, 1) := by decide +kernel
theorem dX7_init_1 : decode cX7_init 1 = .ok (.invokespecial 3, 3) := by decide +kernel
theorem dX7_init_4 : decode cX7_init 4 = .ok (.aload_n 0, 1) := by decide +kernel
theorem dX7_init_5 : decode cX7_init 5 = .ok (.bipush 100, 2) := by decide +kernel
theorem dX7_init_7 : decode cX7_init 7 = .ok (.newarray .int, 2) := by decide +kernel
theorem dX7_init_9 : decode cX7_init 9 = .ok (.putfield 9, 3) := by decide +kernel
theorem dX7_init_12 : decode cX7_init 12 = .ok (.aload_n 0, 1) := by decide +kernel
theorem dX7_init_13 : decode cX7_init 13 = .ok (.bipush 100, 2) := by decide +kernel
theorem dX7_init_15 : decode cX7_init 15 = .ok (.newarray .int, 2) := by decide +kernel
theorem dX7_init_17 : decode cX7_init 17 = .ok (.putfield 15, 3) := by decide +kernel
theorem dX7_init_20 : decode cX7_init 20 = .ok (.aload_n 0, 1) := by decide +kernel
theorem dX7_init_21 : decode cX7_init 21 = .ok (.bipush 100, 2) := by decide +kernel
theorem dX7_init_23 : decode cX7_init 23 = .ok (.newarray .int, 2) := by decide +kernel
theorem dX7_init_25 : decode cX7_init 25 = .ok (.putfield 18, 3) := by decide +kernel
theorem dX7_init_28 : decode cX7_init 28 = .ok (.aload_n 0, 1) := by decide +kernel
theorem dX7_init_29 : decode cX7_init 29 = .ok (.bipush 100, 2) := by decide +kernel
theorem dX7_init_31 : decode cX7_init 31 = .ok (.newarray .int, 2) := by decide +kernel
theorem dX7_init_33 : decode cX7_init 33 = .ok (.putfield 21, 3) := by decide +kernel
theorem dX7_init_36 : decode cX7_init 36 = .ok (.return_, 1) := by decide +kernel
theorem dX7_has_0 : decode cX7_has 0 = .ok (.iload_n 1, 1) := by decide +kernel
theorem dX7_has_1 : decode cX7_has 1 = .ok (.ifCond .lt 15, 3) := by decide +kernel
theorem dX7_has_4 : decode cX7_has 4 = .ok (.iload_n 1, 1) := by decide +kernel
theorem dX7_has_5 : decode cX7_has 5 = .ok (.aload_n 0, 1) := by decide +kernel
theorem dX7_has_6 : decode cX7_has 6 = .ok (.getfield 24, 3) := by decide +kernel
theorem dX7_has_9 : decode cX7_has 9 = .ok (.if_icmp .ge 7, 3) := by decide +kernel
theorem dX7_has_12 : decode cX7_has 12 = .ok (.iconst 1, 1) := by decide +kernel
theorem dX7_has_13 : decode cX7_has 13 = .ok (.goto 4, 3) := by decide +kernel
theorem dX7_has_16 : decode cX7_has 16 = .ok (.iconst 0, 1) := by decide +kernel
theorem dX7_has_17 : decode cX7_has 17 = .ok (.ireturn, 1) := by decide +kernel
set_option maxRecDepth 20000 in
theorem ggX7_tell_X7_isOpen : GoodIn wsX7_tell wsX7_isOpen := goodIn_r _ [10, 1, 2, 3, 5, 11, 12, 13, 14, 15] (by decide +kernel) (by decide +kernel)
set_option maxRecDepth 20000 in
theorem gX7_tell_X7_isOpen : GoodIn wsX7_tell (wsV RX7 28 RX7 yX7_isOpen wsX7_isOpen) := goodIn_app (goodIn_of _ (by decide +kernel)) ggX7_tell_X7_isOpen
theorem dX7_tell_0 : decode cX7_tell 0 = .ok (.aload_n 0, 1) := by decide +kernel
theorem dX7_tell_1 : decode cX7_tell 1 = .ok (.getfield 24, 3) := by decide +kernel
theorem dX7_tell_4 : decode cX7_tell 4 = .ok (.bipush 100, 2) := by decide +kernel
theorem dX7_tell_6 : decode cX7_tell 6 = .ok (.if_icmp .ge 12, 3) := by decide +kernel
theorem dX7_tell_9 : decode cX7_tell 9 = .ok (.aload_n 0, 1) := by decide +kernel
theorem dX7_tell_10 : decode cX7_tell 10 = .ok (.iload_n 1, 1) := by decide +kernel
theorem dX7_tell_11 : decode cX7_tell 11 = .ok (.iload_n 2, 1) := by decide +kernel
theorem dX7_tell_12 : decode cX7_tell 12 = .ok (.invokevirtual 28, 3) := by decide +kernel
theorem dX7_tell_15 : decode cX7_tell 15 = .ok (.ifCond .eq 5, 3) := by decide +kernel
theorem dX7_tell_18 : decode cX7_tell 18 = .ok (.iconst (-1), 1) := by decide +kernel
theorem dX7_tell_19 : decode cX7_tell 19 = .ok (.ireturn, 1) := by decide +kernel
theorem dX7_tell_20 : decode cX7_tell 20 = .ok (.aload_n 0, 1) := by decide +kernel
theorem dX7_tell_21 : decode cX7_tell 21 = .ok (.getfield 24, 3) := by decide +kernel
theorem dX7_tell_24 : decode cX7_tell 24 = .ok (.istore 4, 2) := by decide +kernel
theorem dX7_tell_26 : decode cX7_tell 26 = .ok (.aload_n 0, 1) := by decide +kernel
theorem dX7_tell_27 : decode cX7_tell 27 = .ok (.getfield 9, 3) := by decide +kernel
theorem dX7_tell_30 : decode cX7_tell 30 = .ok (.iload 4, 2) := by decide +kernel
theorem dX7_tell_32 : decode cX7_tell 32 = .ok (.iload_n 1, 1) := by decide +kernel
theorem dX7_tell_33 : decode cX7_tell 33 = .ok (.iastore, 1) := by decide +kernel
theorem dX7_tell_34 : decode cX7_tell 34 = .ok (.aload_n 0, 1) := by decide +kernel
theorem dX7_tell_35 : decode cX7_tell 35 = .ok (.getfield 15, 3) := by decide +kernel
theorem dX7_tell_38 : decode cX7_tell 38 = .ok (.iload 4, 2) := by decide +kernel
theorem dX7_tell_40 : decode cX7_tell 40 = .ok (.iload_n 2, 1) := by decide +kernel
theorem dX7_tell_41 : decode cX7_tell 41 = .ok (.iastore, 1) := by decide +kernel
theorem dX7_tell_42 : decode cX7_tell 42 = .ok (.aload_n 0, 1) := by decide +kernel
theorem dX7_tell_43 : decode cX7_tell 43 = .ok (.getfield 18, 3) := by decide +kernel
theorem dX7_tell_46 : decode cX7_tell 46 = .ok (.iload 4, 2) := by decide +kernel
theorem dX7_tell_48 : decode cX7_tell 48 = .ok (.iload_n 3, 1) := by decide +kernel
theorem dX7_tell_49 : decode cX7_tell 49 = .ok (.iastore, 1) := by decide +kernel
theorem dX7_tell_50 : decode cX7_tell 50 = .ok (.aload_n 0, 1) := by decide +kernel
theorem dX7_tell_51 : decode cX7_tell 51 = .ok (.getfield 21, 3) := by decide +kernel
theorem dX7_tell_54 : decode cX7_tell 54 = .ok (.iload 4, 2) := by decide +kernel
theorem dX7_tell_56 : decode cX7_tell 56 = .ok (.iconst (-1), 1) := by decide +kernel
theorem dX7_tell_57 : decode cX7_tell 57 = .ok (.iastore, 1) := by decide +kernel
theorem dX7_tell_58 : decode cX7_tell 58 = .ok (.aload_n 0, 1) := by decide +kernel
theorem dX7_tell_59 : decode cX7_tell 59 = .ok (.dup, 1) := by decide +kernel
theorem dX7_tell_60 : decode cX7_tell 60 = .ok (.getfield 24, 3) := by decide +kernel
theorem dX7_tell_63 : decode cX7_tell 63 = .ok (.iconst 1, 1) := by decide +kernel
theorem dX7_tell_64 : decode cX7_tell 64 = .ok (.iadd, 1) := by decide +kernel
theorem dX7_tell_65 : decode cX7_tell 65 = .ok (.putfield 24, 3) := by decide +kernel
theorem dX7_tell_68 : decode cX7_tell 68 = .ok (.iload 4, 2) := by decide +kernel
theorem dX7_tell_70 : decode cX7_tell 70 = .ok (.ireturn, 1) := by decide +kernel
theorem dX7_isOpen_0 : decode cX7_isOpen 0 = .ok (.iconst 0, 1) := by decide +kernel
theorem dX7_isOpen_1 : decode cX7_isOpen 1 = .ok (.istore_n 3, 1) := by decide +kernel
theorem dX7_isOpen_2 : decode cX7_isOpen 2 = .ok (.iload_n 3, 1) := by decide +kernel
theorem dX7_isOpen_3 : decode cX7_isOpen 3 = .ok (.aload_n 0, 1) := by decide +kernel
theorem dX7_isOpen_4 : decode cX7_isOpen 4 = .ok (.getfield 24, 3) := by decide +kernel
theorem dX7_isOpen_7 : decode cX7_isOpen 7 = .ok (.if_icmp .ge 41, 3) := by decide +kernel
theorem dX7_isOpen_10 : decode cX7_isOpen 10 = .ok (.aload_n 0, 1) := by decide +kernel
theorem dX7_isOpen_11 : decode cX7_isOpen 11 = .ok (.getfield 9, 3) := by decide +kernel
theorem dX7_isOpen_14 : decode cX7_isOpen 14 = .ok (.iload_n 3, 1) := by decide +kernel
theorem dX7_isOpen_15 : decode cX7_isOpen 15 = .ok (.iaload, 1) := by decide +kernel
theorem dX7_isOpen_16 : decode cX7_isOpen 16 = .ok (.iload_n 1, 1) := by decide +kernel
theorem dX7_isOpen_17 : decode cX7_isOpen 17 = .ok (.if_icmp .ne 25, 3) := by decide +kernel
theorem dX7_isOpen_20 : decode cX7_isOpen 20 = .ok (.aload_n 0, 1) := by decide +kernel
theorem dX7_isOpen_21 : decode cX7_isOpen 21 = .ok (.getfield 15, 3) := by decide +kernel
theorem dX7_isOpen_24 : decode cX7_isOpen 24 = .ok (.iload_n 3, 1) := by decide +kernel
theorem dX7_isOpen_25 : decode cX7_isOpen 25 = .ok (.iaload, 1) := by decide +kernel
theorem dX7_isOpen_26 : decode cX7_isOpen 26 = .ok (.iload_n 2, 1) := by decide +kernel
theorem dX7_isOpen_27 : decode cX7_isOpen 27 = .ok (.if_icmp .ne 15, 3) := by decide +kernel
theorem dX7_isOpen_30 : decode cX7_isOpen 30 = .ok (.aload_n 0, 1) := by decide +kernel
theorem dX7_isOpen_31 : decode cX7_isOpen 31 = .ok (.getfield 21, 3) := by decide +kernel
theorem dX7_isOpen_34 : decode cX7_isOpen 34 = .ok (.iload_n 3, 1) := by decide +kernel
theorem dX7_isOpen_35 : decode cX7_isOpen 35 = .ok (.iaload, 1) := by decide +kernel
theorem dX7_isOpen_36 : decode cX7_isOpen 36 = .ok (.iconst (-1), 1) := by decide +kernel
theorem dX7_isOpen_37 : decode cX7_isOpen 37 = .ok (.if_icmp .ne 5, 3) := by decide +kernel
theorem dX7_isOpen_40 : decode cX7_isOpen 40 = .ok (.iconst 1, 1) := by decide +kernel
theorem dX7_isOpen_41 : decode cX7_isOpen 41 = .ok (.ireturn, 1) := by decide +kernel
theorem dX7_isOpen_42 : decode cX7_isOpen 42 = .ok (.iinc 3 1, 3) := by decide +kernel
theorem dX7_isOpen_45 : decode cX7_isOpen 45 = .ok (.goto (-43), 3) := by decide +kernel
theorem dX7_isOpen_48 : decode cX7_isOpen 48 = .ok (.iconst 0, 1) := by decide +kernel
theorem dX7_isOpen_49 : decode cX7_isOpen 49 = .ok (.ireturn, 1) := by decide +kernel
set_option maxRecDepth 20000 in
theorem ggX7_end_X7_has : GoodIn wsX7_end wsX7_has := goodIn_r _ [6, 7, 8, 9, 10, 11, 12] (by decide +kernel) (by decide +kernel)
set_option maxRecDepth 20000 in
theorem gX7_end_X7_has : GoodIn wsX7_end (wsV RX7 32 RX7 yX7_has wsX7_has) := goodIn_app (goodIn_of _ (by decide +kernel)) ggX7_end_X7_has
theorem dX7_end_0 : decode cX7_end 0 = .ok (.aload_n 0, 1) := by decide +kernel
theorem dX7_end_1 : decode cX7_end 1 = .ok (.iload_n 1, 1) := by decide +kernel
theorem dX7_end_2 : decode cX7_end 2 = .ok (.invokevirtual 32, 3) := by decide +kernel
theorem dX7_end_5 : decode cX7_end 5 = .ok (.ifCond .eq 13, 3) := by decide +kernel
theorem dX7_end_8 : decode cX7_end 8 = .ok (.aload_n 0, 1) := by decide +kernel
theorem dX7_end_9 : decode cX7_end 9 = .ok (.getfield 21, 3) := by decide +kernel
theorem dX7_end_12 : decode cX7_end 12 = .ok (.iload_n 1, 1) := by decide +kernel
theorem dX7_end_13 : decode cX7_end 13 = .ok (.iaload, 1) := by decide +kernel
theorem dX7_end_14 : decode cX7_end 14 = .ok (.iconst (-1), 1) := by decide +kernel
theorem dX7_end_15 : decode cX7_end 15 = .ok (.if_icmp .eq 5, 3) := by decide +kernel
theorem dX7_end_18 : decode cX7_end 18 = .ok (.iconst 0, 1) := by decide +kernel
theorem dX7_end_19 : decode cX7_end 19 = .ok (.ireturn, 1) := by decide +kernel
theorem dX7_end_20 : decode cX7_end 20 = .ok (.aload_n 0, 1) := by decide +kernel
theorem dX7_end_21 : decode cX7_end 21 = .ok (.getfield 21, 3) := by decide +kernel
theorem dX7_end_24 : decode cX7_end 24 = .ok (.iload_n 1, 1) := by decide +kernel
theorem dX7_end_25 : decode cX7_end 25 = .ok (.iload_n 2, 1) := by decide +kernel
theorem dX7_end_26 : decode cX7_end 26 = .ok (.iastore, 1) := by decide +kernel
theorem dX7_end_27 : decode cX7_end 27 = .ok (.iconst 1, 1) := by decide +kernel
theorem dX7_end_28 : decode cX7_end 28 = .ok (.ireturn, 1) := by decide +kernel
theorem dX7_isOutOn_0 : decode cX7_isOutOn 0 = .ok (.aload_n 0, 1) := by decide +kernel
theorem dX7_isOutOn_1 : decode cX7_isOutOn 1 = .ok (.getfield 18, 3) := by decide +kernel
theorem dX7_isOutOn_4 : decode cX7_isOutOn 4 = .ok (.iload_n 1, 1) := by decide +kernel
theorem dX7_isOutOn_5 : decode cX7_isOutOn 5 = .ok (.iaload, 1) := by decide +kernel
theorem dX7_isOutOn_6 : decode cX7_isOutOn 6 = .ok (.iload_n 2, 1) := by decide +kernel
theorem dX7_isOutOn_7 : decode cX7_isOutOn 7 = .ok (.if_icmp .gt 27, 3) := by decide +kernel
theorem dX7_isOutOn_10 : decode cX7_isOutOn 10 = .ok (.aload_n 0, 1) := by decide +kernel
theorem dX7_isOutOn_11 : decode cX7_isOutOn 11 = .ok (.getfield 21, 3) := by decide +kernel
theorem dX7_isOutOn_14 : decode cX7_isOutOn 14 = .ok (.iload_n 1, 1) := by decide +kernel
theorem dX7_isOutOn_15 : decode cX7_isOutOn 15 = .ok (.iaload, 1) := by decide +kernel
theorem dX7_isOutOn_16 : decode cX7_isOutOn 16 = .ok (.iconst (-1), 1) := by decide +kernel
theorem dX7_isOutOn_17 : decode cX7_isOutOn 17 = .ok (.if_icmp .eq 13, 3) := by decide +kernel
theorem dX7_isOutOn_20 : decode cX7_isOutOn 20 = .ok (.iload_n 2, 1) := by decide +kernel
theorem dX7_isOutOn_21 : decode cX7_isOutOn 21 = .ok (.aload_n 0, 1) := by decide +kernel
theorem dX7_isOutOn_22 : decode cX7_isOutOn 22 = .ok (.getfield 21, 3) := by decide +kernel
theorem dX7_isOutOn_25 : decode cX7_isOutOn 25 = .ok (.iload_n 1, 1) := by decide +kernel
theorem dX7_isOutOn_26 : decode cX7_isOutOn 26 = .ok (.iaload, 1) := by decide +kernel
theorem dX7_isOutOn_27 : decode cX7_isOutOn 27 = .ok (.if_icmp .ge 7, 3) := by decide +kernel
theorem dX7_isOutOn_30 : decode cX7_isOutOn 30 = .ok (.iconst 1, 1) := by decide +kernel
theorem dX7_isOutOn_31 : decode cX7_isOutOn 31 = .ok (.goto 4, 3) := by decide +kernel
theorem dX7_isOutOn_34 : decode cX7_isOutOn 34 = .ok (.iconst 0, 1) := by decide +kernel
theorem dX7_isOutOn_35 : decode cX7_isOutOn 35 = .ok (.ireturn, 1) := by decide +kernel
set_option maxRecDepth 20000 in
theorem ggX7_countOn_X7_isOutOn : GoodIn wsX7_countOn wsX7_isOutOn := goodIn_r _ [6, 7, 8, 9, 10, 11, 12, 13] (by decide +kernel) (by decide +kernel)
set_option maxRecDepth 20000 in
theorem gX7_countOn_X7_isOutOn : GoodIn wsX7_countOn (wsV RX7 36 RX7 yX7_isOutOn wsX7_isOutOn) := goodIn_app (goodIn_of _ (by decide +kernel)) ggX7_countOn_X7_isOutOn
theorem dX7_countOn_0 : decode cX7_countOn 0 = .ok (.iconst 0, 1) := by decide +kernel
theorem dX7_countOn_1 : decode cX7_countOn 1 = .ok (.istore_n 2, 1) := by decide +kernel
theorem dX7_countOn_2 : decode cX7_countOn 2 = .ok (.iconst 0, 1) := by decide +kernel
theorem dX7_countOn_3 : decode cX7_countOn 3 = .ok (.istore_n 3, 1) := by decide +kernel
theorem dX7_countOn_4 : decode cX7_countOn 4 = .ok (.iload_n 3, 1) := by decide +kernel
theorem dX7_countOn_5 : decode cX7_countOn 5 = .ok (.aload_n 0, 1) := by decide +kernel
theorem dX7_countOn_6 : decode cX7_countOn 6 = .ok (.getfield 24, 3) := by decide +kernel
theorem dX7_countOn_9 : decode cX7_countOn 9 = .ok (.if_icmp .ge 21, 3) := by decide +kernel
theorem dX7_countOn_12 : decode cX7_countOn 12 = .ok (.aload_n 0, 1) := by decide +kernel
theorem dX7_countOn_13 : decode cX7_countOn 13 = .ok (.iload_n 3, 1) := by decide +kernel
theorem dX7_countOn_14 : decode cX7_countOn 14 = .ok (.iload_n 1, 1) := by decide +kernel
theorem dX7_countOn_15 : decode cX7_countOn 15 = .ok (.invokevirtual 36, 3) := by decide +kernel
theorem dX7_countOn_18 : decode cX7_countOn 18 = .ok (.ifCond .eq 6, 3) := by decide +kernel
theorem dX7_countOn_21 : decode cX7_countOn 21 = .ok (.iinc 2 1, 3) := by decide +kernel
theorem dX7_countOn_24 : decode cX7_countOn 24 = .ok (.iinc 3 1, 3) := by decide +kernel
theorem dX7_countOn_27 : decode cX7_countOn 27 = .ok (.goto (-23), 3) := by decide +kernel
theorem dX7_countOn_30 : decode cX7_countOn 30 = .ok (.iload_n 2, 1) := by decide +kernel
theorem dX7_countOn_31 : decode cX7_countOn 31 = .ok (.ireturn, 1) := by decide +kernel
set_option maxRecDepth 20000 in
theorem ggX7_numberOn_X7_isOutOn : GoodIn wsX7_numberOn wsX7_isOutOn := goodIn_r _ [6, 7, 8, 9, 10, 11, 12, 13] (by decide +kernel) (by decide +kernel)
set_option maxRecDepth 20000 in
theorem gX7_numberOn_X7_isOutOn : GoodIn wsX7_numberOn (wsV RX7 36 RX7 yX7_isOutOn wsX7_isOutOn) := goodIn_app (goodIn_of _ (by decide +kernel)) ggX7_numberOn_X7_isOutOn
theorem dX7_numberOn_0 : decode cX7_numberOn 0 = .ok (.iconst 0, 1) := by decide +kernel
theorem dX7_numberOn_1 : decode cX7_numberOn 1 = .ok (.istore_n 3, 1) := by decide +kernel
theorem dX7_numberOn_2 : decode cX7_numberOn 2 = .ok (.iconst 0, 1) := by decide +kernel
theorem dX7_numberOn_3 : decode cX7_numberOn 3 = .ok (.istore 4, 2) := by decide +kernel
theorem dX7_numberOn_5 : decode cX7_numberOn 5 = .ok (.iload 4, 2) := by decide +kernel
theorem dX7_numberOn_7 : decode cX7_numberOn 7 = .ok (.aload_n 0, 1) := by decide +kernel
theorem dX7_numberOn_8 : decode cX7_numberOn 8 = .ok (.getfield 24, 3) := by decide +kernel
theorem dX7_numberOn_11 : decode cX7_numberOn 11 = .ok (.if_icmp .ge 30, 3) := by decide +kernel
theorem dX7_numberOn_14 : decode cX7_numberOn 14 = .ok (.aload_n 0, 1) := by decide +kernel
theorem dX7_numberOn_15 : decode cX7_numberOn 15 = .ok (.iload 4, 2) := by decide +kernel
theorem dX7_numberOn_17 : decode cX7_numberOn 17 = .ok (.iload_n 1, 1) := by decide +kernel
theorem dX7_numberOn_18 : decode cX7_numberOn 18 = .ok (.invokevirtual 36, 3) := by decide +kernel
theorem dX7_numberOn_21 : decode cX7_numberOn 21 = .ok (.ifCond .eq 14, 3) := by decide +kernel
theorem dX7_numberOn_24 : decode cX7_numberOn 24 = .ok (.iload_n 3, 1) := by decide +kernel
theorem dX7_numberOn_25 : decode cX7_numberOn 25 = .ok (.iload_n 2, 1) := by decide +kernel
theorem dX7_numberOn_26 : decode cX7_numberOn 26 = .ok (.if_icmp .ne 6, 3) := by decide +kernel
theorem dX7_numberOn_29 : decode cX7_numberOn 29 = .ok (.iload 4, 2) := by decide +kernel
theorem dX7_numberOn_31 : decode cX7_numberOn 31 = .ok (.ireturn, 1) := by decide +kernel
theorem dX7_numberOn_32 : decode cX7_numberOn 32 = .ok (.iinc 3 1, 3) := by decide +kernel
theorem dX7_numberOn_35 : decode cX7_numberOn 35 = .ok (.iinc 4 1, 3) := by decide +kernel
theorem dX7_numberOn_38 : decode cX7_numberOn 38 = .ok (.goto (-33), 3) := by decide +kernel
theorem dX7_numberOn_41 : decode cX7_numberOn 41 = .ok (.iconst (-1), 1) := by decide +kernel
theorem dX7_numberOn_42 : decode cX7_numberOn 42 = .ok (.ireturn, 1) := by decide +kernel
set_option maxRecDepth 20000 in
theorem ggX8_init_X7_init : GoodIn wsX8_init wsX7_init := goodIn_r _ [26, 27, 2, 3, 4, 28, 29, 30, 31, 59, 60, 61, 62, 63] (by decide +kernel) (by decide +kernel)
set_option maxRecDepth 20000 in
theorem gX8_init_X7_init_n24 : GoodIn wsX8_init (wsX7_init) := ggX8_init_X7_init
set_option maxRecDepth 20000 in
theorem ggX8_init_X4_init : GoodIn wsX8_init wsX4_init := goodIn_r _ [33, 34, 2, 3, 4, 35, 36, 37, 38, 39, 64, 65, 66, 67, 68, 69, 70, 71, 72, 73] (by decide +kernel) (by decide +kernel)
set_option maxRecDepth 20000 in
theorem gX8_init_X4_init_n31 : GoodIn wsX8_init (wsX4_init) := ggX8_init_X4_init
set_option maxRecDepth 20000 in
theorem ggX8_init_X6_init : GoodIn wsX8_init wsX6_init := goodIn_r _ [41, 42, 2, 3] (by decide +kernel) (by decide +kernel)
set_option maxRecDepth 20000 in
theorem gX8_init_X6_init_n38 : GoodIn wsX8_init (wsX6_init) := ggX8_init_X6_init
set_option maxRecDepth 20000 in
theorem ggX8_init_X3_init : GoodIn wsX8_init wsX3_init := goodIn_r _ [44, 45, 2, 3, 4, 46, 80, 81] (by decide +kernel) (by decide +kernel)
set_option maxRecDepth 20000 in
theorem gX8_init_X3_init_n45 : GoodIn wsX8_init (wsX3_init) := ggX8_init_X3_init
theorem dX8_init_0 : decode cX8_init 0 = .ok (.aload_n 0, 1) := by decide +kernel
theorem dX8_init_1 : decode cX8_init 1 = .ok (.invokespecial 1, 3) := by decide +kernel
theorem dX8_init_4 : decode cX8_init 4 = .ok (.aload_n 0, 1) := by decide +kernel
theorem dX8_init_5 : decode cX8_init 5 = .ok (.sipush 1600, 3) := by decide +kernel
theorem dX8_init_8 : decode cX8_init 8 = .ok (.newarray .int, 2) := by decide +kernel
theorem dX8_init_10 : decode cX8_init 10 = .ok (.putfield 9, 3) := by decide +kernel
theorem dX8_init_13 : decode cX8_init 13 = .ok (.aload_n 0, 1) := by decide +kernel
theorem dX8_init_14 : decode cX8_init 14 = .ok (.bipush 10, 2) := by decide +kernel
theorem dX8_init_16 : decode cX8_init 16 = .ok (.anewarray 13, 3) := by decide +kernel
theorem dX8_init_19 : decode cX8_init 19 = .ok (.putfield 15, 3) := by decide +kernel
theorem dX8_init_22 : decode cX8_init 22 = .ok (.aload_n 0, 1) := by decide +kernel
theorem dX8_init_23 : decode cX8_init 23 = .ok (.bipush 48, 2) := by decide +kernel
theorem dX8_init_25 : decode cX8_init 25 = .ok (.newarray .int, 2) := by decide +kernel
theorem dX8_init_27 : decode cX8_init 27 = .ok (.putfield 19, 3) := by decide +kernel
theorem dX8_init_30 : decode cX8_init 30 = .ok (.aload_n 0, 1) := by decide +kernel
theorem dX8_init_31 : decode cX8_init 31 = .ok (.new 22, 3) := by decide +kernel
theorem dX8_init_34 : decode cX8_init 34 = .ok (.dup, 1) := by decide +kernel
theorem dX8_init_35 : decode cX8_init 35 = .ok (.invokespecial 24, 3) := by decide +kernel
theorem dX8_init_38 : decode cX8_init 38 = .ok (.putfield 25, 3) := by decide +kernel
theorem dX8_init_41 : decode cX8_init 41 = .ok (.aload_n 0, 1) := by decide +kernel
theorem dX8_init_42 : decode cX8_init 42 = .ok (.new 29, 3) := by decide +kernel
theorem dX8_init_45 : decode cX8_init 45 = .ok (.dup, 1) := by decide +kernel
theorem dX8_init_46 : decode cX8_init 46 = .ok (.invokespecial 31, 3) := by decide +kernel
theorem dX8_init_49 : decode cX8_init 49 = .ok (.putfield 32, 3) := by decide +kernel
theorem dX8_init_52 : decode cX8_init 52 = .ok (.aload_n 0, 1) := by decide +kernel
theorem dX8_init_53 : decode cX8_init 53 = .ok (.new 36, 3) := by decide +kernel
theorem dX8_init_56 : decode cX8_init 56 = .ok (.dup, 1) := by decide +kernel
theorem dX8_init_57 : decode cX8_init 57 = .ok (.invokespecial 38, 3) := by decide +kernel
theorem dX8_init_60 : decode cX8_init 60 = .ok (.putfield 39, 3) := by decide +kernel
theorem dX8_init_63 : decode cX8_init 63 = .ok (.aload_n 0, 1) := by decide +kernel
theorem dX8_init_64 : decode cX8_init 64 = .ok (.new 43, 3) := by decide +kernel
theorem dX8_init_67 : decode cX8_init 67 = .ok (.dup, 1) := by decide +kernel
theorem dX8_init_68 : decode cX8_init 68 = .ok (.invokespecial 45, 3) := by decide +kernel
theorem dX8_init_71 : decode cX8_init 71 = .ok (.putfield 46, 3) := by decide +kernel
theorem dX8_init_74 : decode cX8_init 74 = .ok (.return_, 1) := by decide +kernel
set_option maxRecDepth 20000 in
theorem ggX8_depth_X8_isPlace : GoodIn wsX8_depth wsX8_isPlace := goodIn_r _ [6, 7, 8, 5, 9] (by decide +kernel) (by decide +kernel)
set_option maxRecDepth 20000 in
theorem gX8_depth_X8_isPlace : GoodIn wsX8_depth (va_wsS RX8 50 yX8_isPlace wsX8_isPlace) := goodIn_app (goodIn_of _ (by decide +kernel)) ggX8_depth_X8_isPlace
set_option maxRecDepth 20000 in
theorem ggX8_depth_X8_within : GoodIn wsX8_depth wsX8_within := goodIn_r _ [9] (by decide +kernel) (by decide +kernel)
set_option maxRecDepth 20000 in
theorem gX8_depth_X8_within : GoodIn wsX8_depth (va_wsS RX8 54 yX8_within wsX8_within) := goodIn_app (goodIn_of _ (by decide +kernel)) ggX8_depth_X8_within
theorem dX8_depth_0 : decode cX8_depth 0 = .ok (.iload_n 1, 1) := by decide +kernel
theorem dX8_depth_1 : decode cX8_depth 1 = .ok (.iload_n 2, 1) := by decide +kernel
theorem dX8_depth_2 : decode cX8_depth 2 = .ok (.invokestatic 50, 3) := by decide +kernel
theorem dX8_depth_5 : decode cX8_depth 5 = .ok (.ifCond .eq 35, 3) := by decide +kernel
theorem dX8_depth_8 : decode cX8_depth 8 = .ok (.iload_n 3, 1) := by decide +kernel
theorem dX8_depth_9 : decode cX8_depth 9 = .ok (.iload 4, 2) := by decide +kernel
theorem dX8_depth_11 : decode cX8_depth 11 = .ok (.invokestatic 50, 3) := by decide +kernel
theorem dX8_depth_14 : decode cX8_depth 14 = .ok (.ifCond .eq 26, 3) := by decide +kernel
theorem dX8_depth_17 : decode cX8_depth 17 = .ok (.iload_n 1, 1) := by decide +kernel
theorem dX8_depth_18 : decode cX8_depth 18 = .ok (.iload_n 3, 1) := by decide +kernel
theorem dX8_depth_19 : decode cX8_depth 19 = .ok (.if_icmp .gt 21, 3) := by decide +kernel
theorem dX8_depth_22 : decode cX8_depth 22 = .ok (.iload_n 2, 1) := by decide +kernel
theorem dX8_depth_23 : decode cX8_depth 23 = .ok (.iload 4, 2) := by decide +kernel
theorem dX8_depth_25 : decode cX8_depth 25 = .ok (.if_icmp .gt 15, 3) := by decide +kernel
theorem dX8_depth_28 : decode cX8_depth 28 = .ok (.iload 5, 2) := by decide +kernel
theorem dX8_depth_30 : decode cX8_depth 30 = .ok (.iconst 0, 1) := by decide +kernel
theorem dX8_depth_31 : decode cX8_depth 31 = .ok (.sipush 200, 3) := by decide +kernel
theorem dX8_depth_34 : decode cX8_depth 34 = .ok (.invokestatic 54, 3) := by decide +kernel
theorem dX8_depth_37 : decode cX8_depth 37 = .ok (.ifCond .ne 5, 3) := by decide +kernel
theorem dX8_depth_40 : decode cX8_depth 40 = .ok (.iconst 0, 1) := by decide +kernel
theorem dX8_depth_41 : decode cX8_depth 41 = .ok (.ireturn, 1) := by decide +kernel
theorem dX8_depth_42 : decode cX8_depth 42 = .ok (.iload_n 2, 1) := by decide +kernel
theorem dX8_depth_43 : decode cX8_depth 43 = .ok (.istore 6, 2) := by decide +kernel
theorem dX8_depth_45 : decode cX8_depth 45 = .ok (.iload 6, 2) := by decide +kernel
theorem dX8_depth_47 : decode cX8_depth 47 = .ok (.iload 4, 2) := by decide +kernel
theorem dX8_depth_49 : decode cX8_depth 49 = .ok (.if_icmp .gt 39, 3) := by decide +kernel
theorem dX8_depth_52 : decode cX8_depth 52 = .ok (.iload_n 1, 1) := by decide +kernel
theorem dX8_depth_53 : decode cX8_depth 53 = .ok (.istore 7, 2) := by decide +kernel
theorem dX8_depth_55 : decode cX8_depth 55 = .ok (.iload 7, 2) := by decide +kernel
theorem dX8_depth_57 : decode cX8_depth 57 = .ok (.iload_n 3, 1) := by decide +kernel
theorem dX8_depth_58 : decode cX8_depth 58 = .ok (.if_icmp .gt 24, 3) := by decide +kernel
theorem dX8_depth_61 : decode cX8_depth 61 = .ok (.aload_n 0, 1) := by decide +kernel
theorem dX8_depth_62 : decode cX8_depth 62 = .ok (.getfield 9, 3) := by decide +kernel
theorem dX8_depth_65 : decode cX8_depth 65 = .ok (.iload 6, 2) := by decide +kernel
theorem dX8_depth_67 : decode cX8_depth 67 = .ok (.bipush 40, 2) := by decide +kernel
theorem dX8_depth_69 : decode cX8_depth 69 = .ok (.imul, 1) := by decide +kernel
theorem dX8_depth_70 : decode cX8_depth 70 = .ok (.iload 7, 2) := by decide +kernel
theorem dX8_depth_72 : decode cX8_depth 72 = .ok (.iadd, 1) := by decide +kernel
theorem dX8_depth_73 : decode cX8_depth 73 = .ok (.iload 5, 2) := by decide +kernel
theorem dX8_depth_75 : decode cX8_depth 75 = .ok (.iastore, 1) := by decide +kernel
theorem dX8_depth_76 : decode cX8_depth 76 = .ok (.iinc 7 1, 3) := by decide +kernel
theorem dX8_depth_79 : decode cX8_depth 79 = .ok (.goto (-24), 3) := by decide +kernel
theorem dX8_depth_82 : decode cX8_depth 82 = .ok (.iinc 6 1, 3) := by decide +kernel
theorem dX8_depth_85 : decode cX8_depth 85 = .ok (.goto (-40), 3) := by decide +kernel
theorem dX8_depth_88 : decode cX8_depth 88 = .ok (.aload_n 0, 1) := by decide +kernel
theorem dX8_depth_89 : decode cX8_depth 89 = .ok (.iconst 0, 1) := by decide +kernel
theorem dX8_depth_90 : decode cX8_depth 90 = .ok (.putfield 58, 3) := by decide +kernel
theorem dX8_depth_93 : decode cX8_depth 93 = .ok (.iconst 1, 1) := by decide +kernel
theorem dX8_depth_94 : decode cX8_depth 94 = .ok (.ireturn, 1) := by decide +kernel
set_option maxRecDepth 20000 in
theorem ggX8_mark_X8_isPlace : GoodIn wsX8_mark wsX8_isPlace := goodIn_r _ [9, 10, 11, 8, 12] (by decide +kernel) (by decide +kernel)
set_option maxRecDepth 20000 in
theorem gX8_mark_X8_isPlace : GoodIn wsX8_mark (va_wsS RX8 50 yX8_isPlace wsX8_isPlace) := goodIn_app (goodIn_of _ (by decide +kernel)) ggX8_mark_X8_isPlace
set_option maxRecDepth 20000 in
theorem ggX8_mark_X8_within : GoodIn wsX8_mark wsX8_within := goodIn_r _ [12] (by decide +kernel) (by decide +kernel)
set_option maxRecDepth 20000 in
theorem gX8_mark_X8_within : GoodIn wsX8_mark (va_wsS RX8 54 yX8_within wsX8_within) := goodIn_app (goodIn_of _ (by decide +kernel)) ggX8_mark_X8_within
set_option maxRecDepth 20000 in
theorem ggX8_mark_X1_init : GoodIn wsX8_mark wsX1_init := goodIn_r _ [14, 15, 16, 17, 18, 19, 20, 21, 22, 23, 24, 25, 26, 27, 28, 29, 30, 31, 32, 33, 34, 35, 36, 37, 38, 39, 40, 41, 42, 43, 44, 45, 46, 68, 69, 70, 71, 59, 60, 61, 62, 63, 64, 65, 66, 67, 72, 73, 74, 75, 76, 77, 78] (by decide +kernel) (by decide +kernel)
set_option maxRecDepth 20000 in
theorem gX8_mark_X1_init_n66 : GoodIn wsX8_mark (wsX1_init) := ggX8_mark_X1_init
theorem dX8_mark_0 : decode cX8_mark 0 = .ok (.iload_n 1, 1) := by decide +kernel
theorem dX8_mark_1 : decode cX8_mark 1 = .ok (.iload_n 2, 1) := by decide +kernel
theorem dX8_mark_2 : decode cX8_mark 2 = .ok (.invokestatic 50, 3) := by decide +kernel
theorem dX8_mark_5 : decode cX8_mark 5 = .ok (.ifCond .eq 22, 3) := by decide +kernel
theorem dX8_mark_8 : decode cX8_mark 8 = .ok (.iload_n 3, 1) := by decide +kernel
theorem dX8_mark_9 : decode cX8_mark 9 = .ok (.iconst 0, 1) := by decide +kernel
theorem dX8_mark_10 : decode cX8_mark 10 = .ok (.bipush 20, 2) := by decide +kernel
theorem dX8_mark_12 : decode cX8_mark 12 = .ok (.invokestatic 54, 3) := by decide +kernel
theorem dX8_mark_15 : decode cX8_mark 15 = .ok (.ifCond .eq 12, 3) := by decide +kernel
theorem dX8_mark_18 : decode cX8_mark 18 = .ok (.aload_n 0, 1) := by decide +kernel
theorem dX8_mark_19 : decode cX8_mark 19 = .ok (.getfield 62, 3) := by decide +kernel
theorem dX8_mark_22 : decode cX8_mark 22 = .ok (.bipush 10, 2) := by decide +kernel
theorem dX8_mark_24 : decode cX8_mark 24 = .ok (.if_icmp .lt 5, 3) := by decide +kernel
theorem dX8_mark_27 : decode cX8_mark 27 = .ok (.iconst (-1), 1) := by decide +kernel
theorem dX8_mark_28 : decode cX8_mark 28 = .ok (.ireturn, 1) := by decide +kernel
theorem dX8_mark_29 : decode cX8_mark 29 = .ok (.aload_n 0, 1) := by decide +kernel
theorem dX8_mark_30 : decode cX8_mark 30 = .ok (.getfield 62, 3) := by decide +kernel
theorem dX8_mark_33 : decode cX8_mark 33 = .ok (.istore 4, 2) := by decide +kernel
theorem dX8_mark_35 : decode cX8_mark 35 = .ok (.aload_n 0, 1) := by decide +kernel
theorem dX8_mark_36 : decode cX8_mark 36 = .ok (.getfield 15, 3) := by decide +kernel
theorem dX8_mark_39 : decode cX8_mark 39 = .ok (.iload 4, 2) := by decide +kernel
theorem dX8_mark_41 : decode cX8_mark 41 = .ok (.new 13, 3) := by decide +kernel
theorem dX8_mark_44 : decode cX8_mark 44 = .ok (.dup, 1) := by decide +kernel
theorem dX8_mark_45 : decode cX8_mark 45 = .ok (.iload_n 1, 1) := by decide +kernel
theorem dX8_mark_46 : decode cX8_mark 46 = .ok (.iload_n 2, 1) := by decide +kernel
theorem dX8_mark_47 : decode cX8_mark 47 = .ok (.iload_n 3, 1) := by decide +kernel
theorem dX8_mark_48 : decode cX8_mark 48 = .ok (.invokespecial 66, 3) := by decide +kernel
theorem dX8_mark_51 : decode cX8_mark 51 = .ok (.aastore, 1) := by decide +kernel
theorem dX8_mark_52 : decode cX8_mark 52 = .ok (.aload_n 0, 1) := by decide +kernel
theorem dX8_mark_53 : decode cX8_mark 53 = .ok (.dup, 1) := by decide +kernel
theorem dX8_mark_54 : decode cX8_mark 54 = .ok (.getfield 62, 3) := by decide +kernel
theorem dX8_mark_57 : decode cX8_mark 57 = .ok (.iconst 1, 1) := by decide +kernel
theorem dX8_mark_58 : decode cX8_mark 58 = .ok (.iadd, 1) := by decide +kernel
theorem dX8_mark_59 : decode cX8_mark 59 = .ok (.putfield 62, 3) := by decide +kernel
theorem dX8_mark_62 : decode cX8_mark 62 = .ok (.iload 4, 2) := by decide +kernel
theorem dX8_mark_64 : decode cX8_mark 64 = .ok (.ireturn, 1) := by decide +kernel
set_option maxRecDepth 20000 in
theorem ggX8_sight_X8_known : GoodIn wsX8_sight wsX8_known := goodIn_r _ [5, 6, 7, 29, 30, 31, 32, 33, 34, 35, 36, 37, 38, 39, 40] (by decide +kernel) (by decide +kernel)
set_option maxRecDepth 20000 in
theorem gX8_sight_X8_known : GoodIn wsX8_sight (wsV RX8 69 RX8 yX8_known wsX8_known) := goodIn_app (goodIn_of _ (by decide +kernel)) ggX8_sight_X8_known
set_option maxRecDepth 20000 in
theorem ggX8_sight_X5_begin : GoodIn wsX8_sight wsX5_begin := goodIn_r _ [11, 12, 13, 14, 15, 16, 17, 18, 19, 41, 42, 43, 44] (by decide +kernel) (by decide +kernel)
set_option maxRecDepth 20000 in
theorem gX8_sight_X5_begin_n77 : GoodIn wsX8_sight (wsX5_begin) := ggX8_sight_X5_begin
theorem dX8_sight_0 : decode cX8_sight 0 = .ok (.aload_n 0, 1) := by decide +kernel
theorem dX8_sight_1 : decode cX8_sight 1 = .ok (.iload_n 1, 1) := by decide +kernel
theorem dX8_sight_2 : decode cX8_sight 2 = .ok (.invokevirtual 69, 3) := by decide +kernel
theorem dX8_sight_5 : decode cX8_sight 5 = .ok (.astore_n 2, 1) := by decide +kernel
theorem dX8_sight_6 : decode cX8_sight 6 = .ok (.aload_n 2, 1) := by decide +kernel
theorem dX8_sight_7 : decode cX8_sight 7 = .ok (.ifnonnull 5, 3) := by decide +kernel
theorem dX8_sight_10 : decode cX8_sight 10 = .ok (.iconst 0, 1) := by decide +kernel
theorem dX8_sight_11 : decode cX8_sight 11 = .ok (.ireturn, 1) := by decide +kernel
theorem dX8_sight_12 : decode cX8_sight 12 = .ok (.aload_n 2, 1) := by decide +kernel
theorem dX8_sight_13 : decode cX8_sight 13 = .ok (.getfield 73, 3) := by decide +kernel
theorem dX8_sight_16 : decode cX8_sight 16 = .ok (.invokevirtual 77, 3) := by decide +kernel
theorem dX8_sight_19 : decode cX8_sight 19 = .ok (.iconst 1, 1) := by decide +kernel
theorem dX8_sight_20 : decode cX8_sight 20 = .ok (.ireturn, 1) := by decide +kernel
set_option maxRecDepth 20000 in
theorem ggX8_bearing_X8_known : GoodIn wsX8_bearing wsX8_known := goodIn_r _ [5, 6, 7, 29, 30, 31, 32, 33, 34, 35, 36, 37, 38, 39, 40] (by decide +kernel) (by decide +kernel)
set_option maxRecDepth 20000 in
theorem gX8_bearing_X8_known : GoodIn wsX8_bearing (wsV RX8 69 RX8 yX8_known wsX8_known) := goodIn_app (goodIn_of _ (by decide +kernel)) ggX8_bearing_X8_known
set_option maxRecDepth 20000 in
theorem ggX8_bearing_X8_isWay : GoodIn wsX8_bearing wsX8_isWay := goodIn_r _ [10, 11, 12, 4, 13] (by decide +kernel) (by decide +kernel)
set_option maxRecDepth 20000 in
theorem gX8_bearing_X8_isWay : GoodIn wsX8_bearing (va_wsS RX8 82 yX8_isWay wsX8_isWay) := goodIn_app (goodIn_of _ (by decide +kernel)) ggX8_bearing_X8_isWay
set_option maxRecDepth 20000 in
theorem ggX8_bearing_X5_tellBearing : GoodIn wsX8_bearing wsX5_tellBearing := goodIn_r _ [17, 18, 19, 41, 42, 43, 44] (by decide +kernel) (by decide +kernel)
set_option maxRecDepth 20000 in
theorem gX8_bearing_X5_tellBearing_n91 : GoodIn wsX8_bearing (wsX5_tellBearing) := ggX8_bearing_X5_tellBearing
theorem dX8_bearing_0 : decode cX8_bearing 0 = .ok (.aload_n 0, 1) := by decide +kernel
theorem dX8_bearing_1 : decode cX8_bearing 1 = .ok (.iload_n 1, 1) := by decide +kernel
theorem dX8_bearing_2 : decode cX8_bearing 2 = .ok (.invokevirtual 69, 3) := by decide +kernel
theorem dX8_bearing_5 : decode cX8_bearing 5 = .ok (.astore 7, 2) := by decide +kernel
theorem dX8_bearing_7 : decode cX8_bearing 7 = .ok (.aload_n 0, 1) := by decide +kernel
theorem dX8_bearing_8 : decode cX8_bearing 8 = .ok (.iload_n 2, 1) := by decide +kernel
theorem dX8_bearing_9 : decode cX8_bearing 9 = .ok (.invokevirtual 69, 3) := by decide +kernel
theorem dX8_bearing_12 : decode cX8_bearing 12 = .ok (.astore 8, 2) := by decide +kernel
theorem dX8_bearing_14 : decode cX8_bearing 14 = .ok (.aload 7, 2) := by decide +kernel
theorem dX8_bearing_16 : decode cX8_bearing 16 = .ok (.ifnull 32, 3) := by decide +kernel
theorem dX8_bearing_19 : decode cX8_bearing 19 = .ok (.aload 8, 2) := by decide +kernel
theorem dX8_bearing_21 : decode cX8_bearing 21 = .ok (.ifnull 27, 3) := by decide +kernel
theorem dX8_bearing_24 : decode cX8_bearing 24 = .ok (.iload_n 1, 1) := by decide +kernel
theorem dX8_bearing_25 : decode cX8_bearing 25 = .ok (.iload_n 2, 1) := by decide +kernel
theorem dX8_bearing_26 : decode cX8_bearing 26 = .ok (.if_icmp .eq 22, 3) := by decide +kernel
theorem dX8_bearing_29 : decode cX8_bearing 29 = .ok (.iload_n 3, 1) := by decide +kernel
theorem dX8_bearing_30 : decode cX8_bearing 30 = .ok (.iload 4, 2) := by decide +kernel
theorem dX8_bearing_32 : decode cX8_bearing 32 = .ok (.invokestatic 82, 3) := by decide +kernel
theorem dX8_bearing_35 : decode cX8_bearing 35 = .ok (.ifCond .eq 13, 3) := by decide +kernel
theorem dX8_bearing_38 : decode cX8_bearing 38 = .ok (.iload 5, 2) := by decide +kernel
theorem dX8_bearing_40 : decode cX8_bearing 40 = .ok (.iload 6, 2) := by decide +kernel
end
section
theorem dX8_bearing_42 : decode cX8_bearing 42 = .ok (.invokestatic 82, 3) := by decide +kernel
theorem dX8_bearing_45 : decode cX8_bearing 45 = .ok (.ifCond .ne 5, 3) := by decide +kernel
theorem dX8_bearing_48 : decode cX8_bearing 48 = .ok (.iconst 0, 1) := by decide +kernel
theorem dX8_bearing_49 : decode cX8_bearing 49 = .ok (.ireturn, 1) := by decide +kernel
theorem dX8_bearing_50 : decode cX8_bearing 50 = .ok (.aload 7, 2) := by decide +kernel
theorem dX8_bearing_52 : decode cX8_bearing 52 = .ok (.getfield 73, 3) := by decide +kernel
theorem dX8_bearing_55 : decode cX8_bearing 55 = .ok (.aload 8, 2) := by decide +kernel
theorem dX8_bearing_57 : decode cX8_bearing 57 = .ok (.getfield 85, 3) := by decide +kernel
theorem dX8_bearing_60 : decode cX8_bearing 60 = .ok (.aload 8, 2) := by decide +kernel
theorem dX8_bearing_62 : decode cX8_bearing 62 = .ok (.getfield 88, 3) := by decide +kernel
theorem dX8_bearing_65 : decode cX8_bearing 65 = .ok (.iload_n 3, 1) := by decide +kernel
theorem dX8_bearing_66 : decode cX8_bearing 66 = .ok (.iload 4, 2) := by decide +kernel
theorem dX8_bearing_68 : decode cX8_bearing 68 = .ok (.iload 5, 2) := by decide +kernel
theorem dX8_bearing_70 : decode cX8_bearing 70 = .ok (.iload 6, 2) := by decide +kernel
theorem dX8_bearing_72 : decode cX8_bearing 72 = .ok (.invokevirtual 91, 3) := by decide +kernel
theorem dX8_bearing_75 : decode cX8_bearing 75 = .ok (.iconst 1, 1) := by decide +kernel
theorem dX8_bearing_76 : decode cX8_bearing 76 = .ok (.ireturn, 1) := by decide +kernel
set_option maxRecDepth 20000 in
theorem ggX8_sounding_X8_known : GoodIn wsX8_sounding wsX8_known := goodIn_r _ [5, 6, 7, 34, 35, 36, 37, 38, 39, 40, 41, 42, 43, 44, 45] (by decide +kernel) (by decide +kernel)
set_option maxRecDepth 20000 in
theorem gX8_sounding_X8_known : GoodIn wsX8_sounding (wsV RX8 69 RX8 yX8_known wsX8_known) := goodIn_app (goodIn_of _ (by decide +kernel)) ggX8_sounding_X8_known
set_option maxRecDepth 20000 in
theorem ggX8_sounding_X8_within : GoodIn wsX8_sounding wsX8_within := goodIn_r _ [10] (by decide +kernel) (by decide +kernel)
set_option maxRecDepth 20000 in
theorem gX8_sounding_X8_within : GoodIn wsX8_sounding (va_wsS RX8 54 yX8_within wsX8_within) := goodIn_app (goodIn_of _ (by decide +kernel)) ggX8_sounding_X8_within
set_option maxRecDepth 20000 in
theorem ggX8_sounding_X5_tellSounding : GoodIn wsX8_sounding wsX5_tellSounding := goodIn_r _ [14, 15, 16, 17, 18, 19, 20, 21, 22, 23, 24, 46, 47, 48, 49] (by decide +kernel) (by decide +kernel)
set_option maxRecDepth 20000 in
theorem gX8_sounding_X5_tellSounding_n95 : GoodIn wsX8_sounding (wsX5_tellSounding) := ggX8_sounding_X5_tellSounding
theorem dX8_sounding_0 : decode cX8_sounding 0 = .ok (.aload_n 0, 1) := by decide +kernel
theorem dX8_sounding_1 : decode cX8_sounding 1 = .ok (.iload_n 1, 1) := by decide +kernel
theorem dX8_sounding_2 : decode cX8_sounding 2 = .ok (.invokevirtual 69, 3) := by decide +kernel
theorem dX8_sounding_5 : decode cX8_sounding 5 = .ok (.astore 4, 2) := by decide +kernel
theorem dX8_sounding_7 : decode cX8_sounding 7 = .ok (.aload 4, 2) := by decide +kernel
theorem dX8_sounding_9 : decode cX8_sounding 9 = .ok (.ifnull 25, 3) := by decide +kernel
theorem dX8_sounding_12 : decode cX8_sounding 12 = .ok (.iload_n 2, 1) := by decide +kernel
theorem dX8_sounding_13 : decode cX8_sounding 13 = .ok (.iconst 0, 1) := by decide +kernel
theorem dX8_sounding_14 : decode cX8_sounding 14 = .ok (.sipush 200, 3) := by decide +kernel
theorem dX8_sounding_17 : decode cX8_sounding 17 = .ok (.invokestatic 54, 3) := by decide +kernel
theorem dX8_sounding_20 : decode cX8_sounding 20 = .ok (.ifCond .eq 14, 3) := by decide +kernel
theorem dX8_sounding_23 : decode cX8_sounding 23 = .ok (.iload_n 3, 1) := by decide +kernel
theorem dX8_sounding_24 : decode cX8_sounding 24 = .ok (.iload_n 2, 1) := by decide +kernel
theorem dX8_sounding_25 : decode cX8_sounding 25 = .ok (.sipush 200, 3) := by decide +kernel
theorem dX8_sounding_28 : decode cX8_sounding 28 = .ok (.invokestatic 54, 3) := by decide +kernel
theorem dX8_sounding_31 : decode cX8_sounding 31 = .ok (.ifCond .ne 5, 3) := by decide +kernel
theorem dX8_sounding_34 : decode cX8_sounding 34 = .ok (.iconst 0, 1) := by decide +kernel
theorem dX8_sounding_35 : decode cX8_sounding 35 = .ok (.ireturn, 1) := by decide +kernel
theorem dX8_sounding_36 : decode cX8_sounding 36 = .ok (.aload 4, 2) := by decide +kernel
theorem dX8_sounding_38 : decode cX8_sounding 38 = .ok (.getfield 73, 3) := by decide +kernel
theorem dX8_sounding_41 : decode cX8_sounding 41 = .ok (.iload_n 2, 1) := by decide +kernel
theorem dX8_sounding_42 : decode cX8_sounding 42 = .ok (.iload_n 3, 1) := by decide +kernel
theorem dX8_sounding_43 : decode cX8_sounding 43 = .ok (.invokevirtual 95, 3) := by decide +kernel
theorem dX8_sounding_46 : decode cX8_sounding 46 = .ok (.iconst 1, 1) := by decide +kernel
theorem dX8_sounding_47 : decode cX8_sounding 47 = .ok (.ireturn, 1) := by decide +kernel
set_option maxRecDepth 20000 in
theorem ggX8_lies_X8_known : GoodIn wsX8_lies wsX8_known := goodIn_r _ [7, 8, 9, 52, 53, 54, 55, 56, 57, 58, 59, 60, 61, 62, 63] (by decide +kernel) (by decide +kernel)
set_option maxRecDepth 20000 in
theorem gX8_lies_X8_known : GoodIn wsX8_lies (wsV RX8 69 RX8 yX8_known wsX8_known) := goodIn_app (goodIn_of _ (by decide +kernel)) ggX8_lies_X8_known
set_option maxRecDepth 20000 in
theorem ggX8_lies_X8_within : GoodIn wsX8_lies wsX8_within := goodIn_r _ [12] (by decide +kernel) (by decide +kernel)
set_option maxRecDepth 20000 in
theorem gX8_lies_X8_within : GoodIn wsX8_lies (va_wsS RX8 54 yX8_within wsX8_within) := goodIn_app (goodIn_of _ (by decide +kernel)) ggX8_lies_X8_within
set_option maxRecDepth 20000 in
theorem ggX8_lies_X6_take : GoodIn wsX8_lies wsX6_take := goodIn_r _ [16, 17, 18, 19, 20, 21, 22, 23, 24, 25, 14, 26, 27, 28, 29, 30, 31, 32, 33, 34, 6, 35, 68, 69, 70, 71, 72, 73, 43, 44, 45, 46, 47, 48, 49, 50, 51, 64, 65, 66, 67] (by decide +kernel) (by decide +kernel)
set_option maxRecDepth 20000 in
theorem gX8_lies_X6_take_n102 : GoodIn wsX8_lies (wsX6_take) := ggX8_lies_X6_take
set_option maxRecDepth 20000 in
theorem ggX8_lies_X8_surveyed : GoodIn wsX8_lies wsX8_surveyed := goodIn_r _ [39, 1, 40, 14, 41, 42, 17, 18, 52, 53, 54, 55, 56, 57, 58, 59, 60, 61, 62, 63, 68, 69, 70, 71, 72, 73] (by decide +kernel) (by decide +kernel)
set_option maxRecDepth 20000 in
theorem gX8_lies_X8_surveyed : GoodIn wsX8_lies (wsV RX8 109 RX8 yX8_surveyed wsX8_surveyed) := goodIn_app (goodIn_of _ (by decide +kernel)) ggX8_lies_X8_surveyed
theorem dX8_lies_0 : decode cX8_lies 0 = .ok (.aload_n 0, 1) := by decide +kernel
theorem dX8_lies_1 : decode cX8_lies 1 = .ok (.iload_n 1, 1) := by decide +kernel
theorem dX8_lies_2 : decode cX8_lies 2 = .ok (.invokevirtual 69, 3) := by decide +kernel
theorem dX8_lies_5 : decode cX8_lies 5 = .ok (.astore_n 3, 1) := by decide +kernel
theorem dX8_lies_6 : decode cX8_lies 6 = .ok (.aload_n 3, 1) := by decide +kernel
theorem dX8_lies_7 : decode cX8_lies 7 = .ok (.ifnonnull 5, 3) := by decide +kernel
theorem dX8_lies_10 : decode cX8_lies 10 = .ok (.iconst (-1), 1) := by decide +kernel
theorem dX8_lies_11 : decode cX8_lies 11 = .ok (.ireturn, 1) := by decide +kernel
theorem dX8_lies_12 : decode cX8_lies 12 = .ok (.iload_n 2, 1) := by decide +kernel
theorem dX8_lies_13 : decode cX8_lies 13 = .ok (.bipush 6, 2) := by decide +kernel
theorem dX8_lies_15 : decode cX8_lies 15 = .ok (.if_icmp .ne 8, 3) := by decide +kernel
theorem dX8_lies_18 : decode cX8_lies 18 = .ok (.aload_n 3, 1) := by decide +kernel
theorem dX8_lies_19 : decode cX8_lies 19 = .ok (.getfield 85, 3) := by decide +kernel
theorem dX8_lies_22 : decode cX8_lies 22 = .ok (.ireturn, 1) := by decide +kernel
theorem dX8_lies_23 : decode cX8_lies 23 = .ok (.iload_n 2, 1) := by decide +kernel
theorem dX8_lies_24 : decode cX8_lies 24 = .ok (.bipush 7, 2) := by decide +kernel
theorem dX8_lies_26 : decode cX8_lies 26 = .ok (.if_icmp .ne 8, 3) := by decide +kernel
theorem dX8_lies_29 : decode cX8_lies 29 = .ok (.aload_n 3, 1) := by decide +kernel
theorem dX8_lies_30 : decode cX8_lies 30 = .ok (.getfield 88, 3) := by decide +kernel
theorem dX8_lies_33 : decode cX8_lies 33 = .ok (.ireturn, 1) := by decide +kernel
theorem dX8_lies_34 : decode cX8_lies 34 = .ok (.iload_n 2, 1) := by decide +kernel
theorem dX8_lies_35 : decode cX8_lies 35 = .ok (.bipush 8, 2) := by decide +kernel
theorem dX8_lies_37 : decode cX8_lies 37 = .ok (.if_icmp .ne 8, 3) := by decide +kernel
theorem dX8_lies_40 : decode cX8_lies 40 = .ok (.aload_n 3, 1) := by decide +kernel
theorem dX8_lies_41 : decode cX8_lies 41 = .ok (.getfield 99, 3) := by decide +kernel
theorem dX8_lies_44 : decode cX8_lies 44 = .ok (.ireturn, 1) := by decide +kernel
theorem dX8_lies_45 : decode cX8_lies 45 = .ok (.iload_n 2, 1) := by decide +kernel
theorem dX8_lies_46 : decode cX8_lies 46 = .ok (.iconst 0, 1) := by decide +kernel
theorem dX8_lies_47 : decode cX8_lies 47 = .ok (.iconst 5, 1) := by decide +kernel
theorem dX8_lies_48 : decode cX8_lies 48 = .ok (.invokestatic 54, 3) := by decide +kernel
theorem dX8_lies_51 : decode cX8_lies 51 = .ok (.ifCond .ne 5, 3) := by decide +kernel
theorem dX8_lies_54 : decode cX8_lies 54 = .ok (.iconst (-1), 1) := by decide +kernel
theorem dX8_lies_55 : decode cX8_lies 55 = .ok (.ireturn, 1) := by decide +kernel
theorem dX8_lies_56 : decode cX8_lies 56 = .ok (.aload_n 0, 1) := by decide +kernel
theorem dX8_lies_57 : decode cX8_lies 57 = .ok (.getfield 39, 3) := by decide +kernel
theorem dX8_lies_60 : decode cX8_lies 60 = .ok (.aload_n 3, 1) := by decide +kernel
theorem dX8_lies_61 : decode cX8_lies 61 = .ok (.aload_n 0, 1) := by decide +kernel
theorem dX8_lies_62 : decode cX8_lies 62 = .ok (.getfield 9, 3) := by decide +kernel
theorem dX8_lies_65 : decode cX8_lies 65 = .ok (.invokevirtual 102, 3) := by decide +kernel
theorem dX8_lies_68 : decode cX8_lies 68 = .ok (.aload_n 0, 1) := by decide +kernel
theorem dX8_lies_69 : decode cX8_lies 69 = .ok (.iload_n 2, 1) := by decide +kernel
theorem dX8_lies_70 : decode cX8_lies 70 = .ok (.aload_n 3, 1) := by decide +kernel
theorem dX8_lies_71 : decode cX8_lies 71 = .ok (.getfield 73, 3) := by decide +kernel
theorem dX8_lies_74 : decode cX8_lies 74 = .ok (.getfield 106, 3) := by decide +kernel
theorem dX8_lies_77 : decode cX8_lies 77 = .ok (.invokevirtual 109, 3) := by decide +kernel
theorem dX8_lies_80 : decode cX8_lies 80 = .ok (.ireturn, 1) := by decide +kernel
set_option maxRecDepth 20000 in
theorem ggX8_day_X8_within : GoodIn wsX8_day wsX8_within := goodIn_r _ [5] (by decide +kernel) (by decide +kernel)
set_option maxRecDepth 20000 in
theorem gX8_day_X8_within : GoodIn wsX8_day (va_wsS RX8 54 yX8_within wsX8_within) := goodIn_app (goodIn_of _ (by decide +kernel)) ggX8_day_X8_within
theorem dX8_day_0 : decode cX8_day 0 = .ok (.iload_n 1, 1) := by decide +kernel
theorem dX8_day_1 : decode cX8_day 1 = .ok (.aload_n 0, 1) := by decide +kernel
theorem dX8_day_2 : decode cX8_day 2 = .ok (.getfield 113, 3) := by decide +kernel
theorem dX8_day_5 : decode cX8_day 5 = .ok (.sipush 10000, 3) := by decide +kernel
theorem dX8_day_8 : decode cX8_day 8 = .ok (.invokestatic 54, 3) := by decide +kernel
theorem dX8_day_11 : decode cX8_day 11 = .ok (.ifCond .ne 5, 3) := by decide +kernel
theorem dX8_day_14 : decode cX8_day 14 = .ok (.iconst 0, 1) := by decide +kernel
theorem dX8_day_15 : decode cX8_day 15 = .ok (.ireturn, 1) := by decide +kernel
theorem dX8_day_16 : decode cX8_day 16 = .ok (.aload_n 0, 1) := by decide +kernel
theorem dX8_day_17 : decode cX8_day 17 = .ok (.iload_n 1, 1) := by decide +kernel
theorem dX8_day_18 : decode cX8_day 18 = .ok (.putfield 113, 3) := by decide +kernel
theorem dX8_day_21 : decode cX8_day 21 = .ok (.iconst 1, 1) := by decide +kernel
theorem dX8_day_22 : decode cX8_day 22 = .ok (.ireturn, 1) := by decide +kernel
set_option maxRecDepth 20000 in
theorem ggX8_chain_X8_known : GoodIn wsX8_chain wsX8_known := goodIn_r _ [5, 6, 7, 34, 35, 36, 37, 38, 39, 40, 41, 42, 43, 44, 45] (by decide +kernel) (by decide +kernel)
set_option maxRecDepth 20000 in
theorem gX8_chain_X8_known : GoodIn wsX8_chain (wsV RX8 69 RX8 yX8_known wsX8_known) := goodIn_app (goodIn_of _ (by decide +kernel)) ggX8_chain_X8_known
set_option maxRecDepth 20000 in
theorem ggX8_chain_X8_within : GoodIn wsX8_chain wsX8_within := goodIn_r _ [10] (by decide +kernel) (by decide +kernel)
set_option maxRecDepth 20000 in
theorem gX8_chain_X8_within : GoodIn wsX8_chain (va_wsS RX8 54 yX8_within wsX8_within) := goodIn_app (goodIn_of _ (by decide +kernel)) ggX8_chain_X8_within
set_option maxRecDepth 20000 in
theorem ggX8_chain_X8_thisMonth : GoodIn wsX8_chain wsX8_thisMonth := goodIn_r _ [14, 15, 34, 35, 36, 37, 38, 39, 40, 41, 42, 43, 44, 45] (by decide +kernel) (by decide +kernel)
set_option maxRecDepth 20000 in
theorem gX8_chain_X8_thisMonth : GoodIn wsX8_chain (wsV RX8 120 RX8 yX8_thisMonth wsX8_thisMonth) := goodIn_app (goodIn_of _ (by decide +kernel)) ggX8_chain_X8_thisMonth
set_option maxRecDepth 20000 in
theorem ggX8_chain_X0_lay : GoodIn wsX8_chain wsX0_lay := goodIn_r _ [19, 20, 21, 22, 23, 24, 46, 47, 48, 49, 50] (by decide +kernel) (by decide +kernel)
set_option maxRecDepth 20000 in
theorem gX8_chain_X0_lay_n124 : GoodIn wsX8_chain (wsX0_lay) := ggX8_chain_X0_lay
theorem dX8_chain_0 : decode cX8_chain 0 = .ok (.aload_n 0, 1) := by decide +kernel
theorem dX8_chain_1 : decode cX8_chain 1 = .ok (.iload_n 1, 1) := by decide +kernel
theorem dX8_chain_2 : decode cX8_chain 2 = .ok (.invokevirtual 69, 3) := by decide +kernel
theorem dX8_chain_5 : decode cX8_chain 5 = .ok (.astore 5, 2) := by decide +kernel
theorem dX8_chain_7 : decode cX8_chain 7 = .ok (.aload 5, 2) := by decide +kernel
theorem dX8_chain_9 : decode cX8_chain 9 = .ok (.ifnull 33, 3) := by decide +kernel
theorem dX8_chain_12 : decode cX8_chain 12 = .ok (.iload_n 2, 1) := by decide +kernel
theorem dX8_chain_13 : decode cX8_chain 13 = .ok (.iconst 1, 1) := by decide +kernel
theorem dX8_chain_14 : decode cX8_chain 14 = .ok (.sipush 1000, 3) := by decide +kernel
theorem dX8_chain_17 : decode cX8_chain 17 = .ok (.invokestatic 54, 3) := by decide +kernel
theorem dX8_chain_20 : decode cX8_chain 20 = .ok (.ifCond .eq 22, 3) := by decide +kernel
theorem dX8_chain_23 : decode cX8_chain 23 = .ok (.iload_n 3, 1) := by decide +kernel
theorem dX8_chain_24 : decode cX8_chain 24 = .ok (.iconst 0, 1) := by decide +kernel
theorem dX8_chain_25 : decode cX8_chain 25 = .ok (.iload_n 2, 1) := by decide +kernel
theorem dX8_chain_26 : decode cX8_chain 26 = .ok (.invokestatic 54, 3) := by decide +kernel
theorem dX8_chain_29 : decode cX8_chain 29 = .ok (.ifCond .eq 13, 3) := by decide +kernel
theorem dX8_chain_32 : decode cX8_chain 32 = .ok (.iload 4, 2) := by decide +kernel
theorem dX8_chain_34 : decode cX8_chain 34 = .ok (.iconst 0, 1) := by decide +kernel
theorem dX8_chain_35 : decode cX8_chain 35 = .ok (.iconst 3, 1) := by decide +kernel
theorem dX8_chain_36 : decode cX8_chain 36 = .ok (.invokestatic 54, 3) := by decide +kernel
theorem dX8_chain_39 : decode cX8_chain 39 = .ok (.ifCond .ne 5, 3) := by decide +kernel
theorem dX8_chain_42 : decode cX8_chain 42 = .ok (.iconst 0, 1) := by decide +kernel
theorem dX8_chain_43 : decode cX8_chain 43 = .ok (.ireturn, 1) := by decide +kernel
theorem dX8_chain_44 : decode cX8_chain 44 = .ok (.aload 5, 2) := by decide +kernel
theorem dX8_chain_46 : decode cX8_chain 46 = .ok (.getfield 116, 3) := by decide +kernel
theorem dX8_chain_49 : decode cX8_chain 49 = .ok (.iload_n 2, 1) := by decide +kernel
theorem dX8_chain_50 : decode cX8_chain 50 = .ok (.iload_n 3, 1) := by decide +kernel
theorem dX8_chain_51 : decode cX8_chain 51 = .ok (.iload 4, 2) := by decide +kernel
theorem dX8_chain_53 : decode cX8_chain 53 = .ok (.aload_n 0, 1) := by decide +kernel
theorem dX8_chain_54 : decode cX8_chain 54 = .ok (.invokevirtual 120, 3) := by decide +kernel
theorem dX8_chain_57 : decode cX8_chain 57 = .ok (.invokevirtual 124, 3) := by decide +kernel
theorem dX8_chain_60 : decode cX8_chain 60 = .ok (.iconst 1, 1) := by decide +kernel
theorem dX8_chain_61 : decode cX8_chain 61 = .ok (.ireturn, 1) := by decide +kernel
set_option maxRecDepth 20000 in
theorem ggX8_wear_X8_within : GoodIn wsX8_wear wsX8_within := goodIn_r _ [5] (by decide +kernel) (by decide +kernel)
set_option maxRecDepth 20000 in
theorem gX8_wear_X8_within : GoodIn wsX8_wear (va_wsS RX8 54 yX8_within wsX8_within) := goodIn_app (goodIn_of _ (by decide +kernel)) ggX8_wear_X8_within
theorem dX8_wear_0 : decode cX8_wear 0 = .ok (.iload_n 1, 1) := by decide +kernel
theorem dX8_wear_1 : decode cX8_wear 1 = .ok (.iconst 0, 1) := by decide +kernel
theorem dX8_wear_2 : decode cX8_wear 2 = .ok (.iconst 3, 1) := by decide +kernel
theorem dX8_wear_3 : decode cX8_wear 3 = .ok (.invokestatic 54, 3) := by decide +kernel
theorem dX8_wear_6 : decode cX8_wear 6 = .ok (.ifCond .eq 23, 3) := by decide +kernel
theorem dX8_wear_9 : decode cX8_wear 9 = .ok (.iload_n 2, 1) := by decide +kernel
theorem dX8_wear_10 : decode cX8_wear 10 = .ok (.iconst 0, 1) := by decide +kernel
theorem dX8_wear_11 : decode cX8_wear 11 = .ok (.bipush 11, 2) := by decide +kernel
theorem dX8_wear_13 : decode cX8_wear 13 = .ok (.invokestatic 54, 3) := by decide +kernel
theorem dX8_wear_16 : decode cX8_wear 16 = .ok (.ifCond .eq 13, 3) := by decide +kernel
theorem dX8_wear_19 : decode cX8_wear 19 = .ok (.iload_n 3, 1) := by decide +kernel
theorem dX8_wear_20 : decode cX8_wear 20 = .ok (.iconst 0, 1) := by decide +kernel
theorem dX8_wear_21 : decode cX8_wear 21 = .ok (.bipush 100, 2) := by decide +kernel
theorem dX8_wear_23 : decode cX8_wear 23 = .ok (.invokestatic 54, 3) := by decide +kernel
theorem dX8_wear_26 : decode cX8_wear 26 = .ok (.ifCond .ne 5, 3) := by decide +kernel
theorem dX8_wear_29 : decode cX8_wear 29 = .ok (.iconst 0, 1) := by decide +kernel
theorem dX8_wear_30 : decode cX8_wear 30 = .ok (.ireturn, 1) := by decide +kernel
theorem dX8_wear_31 : decode cX8_wear 31 = .ok (.aload_n 0, 1) := by decide +kernel
theorem dX8_wear_32 : decode cX8_wear 32 = .ok (.getfield 19, 3) := by decide +kernel
theorem dX8_wear_35 : decode cX8_wear 35 = .ok (.iload_n 1, 1) := by decide +kernel
theorem dX8_wear_36 : decode cX8_wear 36 = .ok (.bipush 12, 2) := by decide +kernel
theorem dX8_wear_38 : decode cX8_wear 38 = .ok (.imul, 1) := by decide +kernel
theorem dX8_wear_39 : decode cX8_wear 39 = .ok (.iload_n 2, 1) := by decide +kernel
theorem dX8_wear_40 : decode cX8_wear 40 = .ok (.iadd, 1) := by decide +kernel
theorem dX8_wear_41 : decode cX8_wear 41 = .ok (.iload_n 3, 1) := by decide +kernel
theorem dX8_wear_42 : decode cX8_wear 42 = .ok (.iastore, 1) := by decide +kernel
theorem dX8_wear_43 : decode cX8_wear 43 = .ok (.iconst 1, 1) := by decide +kernel
theorem dX8_wear_44 : decode cX8_wear 44 = .ok (.ireturn, 1) := by decide +kernel
set_option maxRecDepth 20000 in
theorem ggX8_chainOf_X8_known : GoodIn wsX8_chainOf wsX8_known := goodIn_r _ [10, 11, 12, 47, 48, 49, 50, 51, 52, 53, 54, 55, 56, 57, 58] (by decide +kernel) (by decide +kernel)
set_option maxRecDepth 20000 in
theorem gX8_chainOf_X8_known : GoodIn wsX8_chainOf (wsV RX8 69 RX8 yX8_known wsX8_known) := goodIn_app (goodIn_of _ (by decide +kernel)) ggX8_chainOf_X8_known
set_option maxRecDepth 20000 in
theorem ggX8_chainOf_X8_thisMonth : GoodIn wsX8_chainOf wsX8_thisMonth := goodIn_r _ [16, 17, 47, 48, 49, 50, 51, 52, 53, 54, 55, 56, 57, 58] (by decide +kernel) (by decide +kernel)
set_option maxRecDepth 20000 in
theorem gX8_chainOf_X8_thisMonth : GoodIn wsX8_chainOf (wsV RX8 120 RX8 yX8_thisMonth wsX8_thisMonth) := goodIn_app (goodIn_of _ (by decide +kernel)) ggX8_chainOf_X8_thisMonth
set_option maxRecDepth 20000 in
theorem ggX8_chainOf_X0_leftBehind : GoodIn wsX8_chainOf wsX0_leftBehind := goodIn_r _ [21, 22, 23, 24, 25, 26, 19, 27, 28, 42, 43, 44, 45, 46] (by decide +kernel) (by decide +kernel)
set_option maxRecDepth 20000 in
theorem gX8_chainOf_X0_leftBehind_n133 : GoodIn wsX8_chainOf (wsX0_leftBehind) := ggX8_chainOf_X0_leftBehind
set_option maxRecDepth 20000 in
theorem ggX8_chainOf_X0_lifeEnds : GoodIn wsX8_chainOf wsX0_lifeEnds := goodIn_r _ [31, 22, 23, 32, 24, 25, 26, 19, 27, 28, 42, 43, 44, 45, 46] (by decide +kernel) (by decide +kernel)
set_option maxRecDepth 20000 in
theorem gX8_chainOf_X0_lifeEnds_n143 : GoodIn wsX8_chainOf (wsX0_lifeEnds) := ggX8_chainOf_X0_lifeEnds
theorem dX8_chainOf_0 : decode cX8_chainOf 0 = .ok (.aload_n 0, 1) := by decide +kernel
theorem dX8_chainOf_1 : decode cX8_chainOf 1 = .ok (.iload_n 1, 1) := by decide +kernel
theorem dX8_chainOf_2 : decode cX8_chainOf 2 = .ok (.invokevirtual 69, 3) := by decide +kernel
theorem dX8_chainOf_5 : decode cX8_chainOf 5 = .ok (.astore_n 3, 1) := by decide +kernel
theorem dX8_chainOf_6 : decode cX8_chainOf 6 = .ok (.aload_n 3, 1) := by decide +kernel
theorem dX8_chainOf_7 : decode cX8_chainOf 7 = .ok (.ifnull 13, 3) := by decide +kernel
theorem dX8_chainOf_10 : decode cX8_chainOf 10 = .ok (.aload_n 3, 1) := by decide +kernel
theorem dX8_chainOf_11 : decode cX8_chainOf 11 = .ok (.getfield 116, 3) := by decide +kernel
theorem dX8_chainOf_14 : decode cX8_chainOf 14 = .ok (.getfield 130, 3) := by decide +kernel
theorem dX8_chainOf_17 : decode cX8_chainOf 17 = .ok (.ifCond .ne 5, 3) := by decide +kernel
theorem dX8_chainOf_20 : decode cX8_chainOf 20 = .ok (.iconst (-1), 1) := by decide +kernel
theorem dX8_chainOf_21 : decode cX8_chainOf 21 = .ok (.ireturn, 1) := by decide +kernel
theorem dX8_chainOf_22 : decode cX8_chainOf 22 = .ok (.iload_n 2, 1) := by decide +kernel
theorem dX8_chainOf_23 : decode cX8_chainOf 23 = .ok (.tableswitch 65 0 2 #[25, 45, 57], 25) := by decide +kernel
theorem dX8_chainOf_48 : decode cX8_chainOf 48 = .ok (.iconst 0, 1) := by decide +kernel
theorem dX8_chainOf_49 : decode cX8_chainOf 49 = .ok (.aload_n 3, 1) := by decide +kernel
theorem dX8_chainOf_50 : decode cX8_chainOf 50 = .ok (.getfield 116, 3) := by decide +kernel
theorem dX8_chainOf_53 : decode cX8_chainOf 53 = .ok (.aload_n 0, 1) := by decide +kernel
theorem dX8_chainOf_54 : decode cX8_chainOf 54 = .ok (.invokevirtual 120, 3) := by decide +kernel
theorem dX8_chainOf_57 : decode cX8_chainOf 57 = .ok (.aload_n 0, 1) := by decide +kernel
theorem dX8_chainOf_58 : decode cX8_chainOf 58 = .ok (.getfield 19, 3) := by decide +kernel
theorem dX8_chainOf_61 : decode cX8_chainOf 61 = .ok (.invokevirtual 133, 3) := by decide +kernel
theorem dX8_chainOf_64 : decode cX8_chainOf 64 = .ok (.invokestatic 137, 3) := by decide +kernel
theorem dX8_chainOf_67 : decode cX8_chainOf 67 = .ok (.ireturn, 1) := by decide +kernel
theorem dX8_chainOf_68 : decode cX8_chainOf 68 = .ok (.aload_n 3, 1) := by decide +kernel
theorem dX8_chainOf_69 : decode cX8_chainOf 69 = .ok (.getfield 116, 3) := by decide +kernel
theorem dX8_chainOf_72 : decode cX8_chainOf 72 = .ok (.aload_n 0, 1) := by decide +kernel
theorem dX8_chainOf_73 : decode cX8_chainOf 73 = .ok (.getfield 19, 3) := by decide +kernel
theorem dX8_chainOf_76 : decode cX8_chainOf 76 = .ok (.invokevirtual 143, 3) := by decide +kernel
theorem dX8_chainOf_79 : decode cX8_chainOf 79 = .ok (.ireturn, 1) := by decide +kernel
theorem dX8_chainOf_80 : decode cX8_chainOf 80 = .ok (.aload_n 3, 1) := by decide +kernel
theorem dX8_chainOf_81 : decode cX8_chainOf 81 = .ok (.getfield 116, 3) := by decide +kernel
theorem dX8_chainOf_84 : decode cX8_chainOf 84 = .ok (.getfield 147, 3) := by decide +kernel
theorem dX8_chainOf_87 : decode cX8_chainOf 87 = .ok (.ireturn, 1) := by decide +kernel
theorem dX8_chainOf_88 : decode cX8_chainOf 88 = .ok (.iconst (-1), 1) := by decide +kernel
theorem dX8_chainOf_89 : decode cX8_chainOf 89 = .ok (.ireturn, 1) := by decide +kernel
set_option maxRecDepth 20000 in
theorem ggX8_light_X8_known : GoodIn wsX8_light wsX8_known := goodIn_r _ [6, 7, 8, 56, 57, 58, 59, 60, 61, 62, 63, 64, 65, 66, 67] (by decide +kernel) (by decide +kernel)
set_option maxRecDepth 20000 in
theorem gX8_light_X8_known : GoodIn wsX8_light (wsV RX8 69 RX8 yX8_known wsX8_known) := goodIn_app (goodIn_of _ (by decide +kernel)) ggX8_light_X8_known
set_option maxRecDepth 20000 in
theorem ggX8_light_X3_goDark : GoodIn wsX8_light wsX3_goDark := goodIn_r _ [12, 13, 68, 69] (by decide +kernel) (by decide +kernel)
set_option maxRecDepth 20000 in
theorem gX8_light_X3_goDark_n153 : GoodIn wsX8_light (wsX3_goDark) := ggX8_light_X3_goDark
set_option maxRecDepth 20000 in
theorem ggX8_light_X3_read : GoodIn wsX8_light wsX3_read := goodIn_r _ [16, 17, 13, 18, 5, 19, 68, 69] (by decide +kernel) (by decide +kernel)
set_option maxRecDepth 20000 in
theorem gX8_light_X3_read_n156 : GoodIn wsX8_light (wsX3_read) := ggX8_light_X3_read
set_option maxRecDepth 20000 in
theorem ggX8_light_X8_clashesNearby : GoodIn wsX8_light wsX8_clashesNearby := goodIn_r _ [23, 7, 24, 1, 2, 3, 4, 5, 6, 8, 25, 26, 27, 28, 29, 30, 31, 32, 33, 10, 34, 35, 13, 36, 37, 38, 39, 17, 56, 57, 58, 59, 60, 61, 62, 63, 64, 65, 66, 67, 47, 48, 49, 50, 51, 52, 53, 54, 55, 68, 69] (by decide +kernel) (by decide +kernel)
set_option maxRecDepth 20000 in
theorem gX8_light_X8_clashesNearby : GoodIn wsX8_light (wsV RX8 159 RX8 yX8_clashesNearby wsX8_clashesNearby) := goodIn_app (goodIn_of _ (by decide +kernel)) ggX8_light_X8_clashesNearby
set_option maxRecDepth 20000 in
theorem ggX8_light_X3_copyFrom : GoodIn wsX8_light wsX3_copyFrom := goodIn_r _ [42, 17, 43, 44, 45, 46, 13, 68, 69] (by decide +kernel) (by decide +kernel)
set_option maxRecDepth 20000 in
theorem gX8_light_X3_copyFrom_n163 : GoodIn wsX8_light (wsX3_copyFrom) := ggX8_light_X3_copyFrom
theorem dX8_light_0 : decode cX8_light 0 = .ok (.aload_n 0, 1) := by decide +kernel
theorem dX8_light_1 : decode cX8_light 1 = .ok (.iload_n 1, 1) := by decide +kernel
theorem dX8_light_2 : decode cX8_light 2 = .ok (.invokevirtual 69, 3) := by decide +kernel
theorem dX8_light_5 : decode cX8_light 5 = .ok (.astore 4, 2) := by decide +kernel
theorem dX8_light_7 : decode cX8_light 7 = .ok (.aload 4, 2) := by decide +kernel
theorem dX8_light_9 : decode cX8_light 9 = .ok (.ifnonnull 5, 3) := by decide +kernel
theorem dX8_light_12 : decode cX8_light 12 = .ok (.iconst 0, 1) := by decide +kernel
theorem dX8_light_13 : decode cX8_light 13 = .ok (.ireturn, 1) := by decide +kernel
theorem dX8_light_14 : decode cX8_light 14 = .ok (.iload_n 2, 1) := by decide +kernel
theorem dX8_light_15 : decode cX8_light 15 = .ok (.ifCond .ne 13, 3) := by decide +kernel
theorem dX8_light_18 : decode cX8_light 18 = .ok (.aload 4, 2) := by decide +kernel
theorem dX8_light_20 : decode cX8_light 20 = .ok (.getfield 150, 3) := by decide +kernel
theorem dX8_light_23 : decode cX8_light 23 = .ok (.invokevirtual 153, 3) := by decide +kernel
theorem dX8_light_26 : decode cX8_light 26 = .ok (.iconst 1, 1) := by decide +kernel
theorem dX8_light_27 : decode cX8_light 27 = .ok (.ireturn, 1) := by decide +kernel
theorem dX8_light_28 : decode cX8_light 28 = .ok (.aload_n 0, 1) := by decide +kernel
theorem dX8_light_29 : decode cX8_light 29 = .ok (.getfield 46, 3) := by decide +kernel
theorem dX8_light_32 : decode cX8_light 32 = .ok (.iload_n 2, 1) := by decide +kernel
theorem dX8_light_33 : decode cX8_light 33 = .ok (.iload_n 3, 1) := by decide +kernel
theorem dX8_light_34 : decode cX8_light 34 = .ok (.invokevirtual 156, 3) := by decide +kernel
theorem dX8_light_37 : decode cX8_light 37 = .ok (.ifCond .eq 13, 3) := by decide +kernel
theorem dX8_light_40 : decode cX8_light 40 = .ok (.aload_n 0, 1) := by decide +kernel
theorem dX8_light_41 : decode cX8_light 41 = .ok (.iload_n 1, 1) := by decide +kernel
theorem dX8_light_42 : decode cX8_light 42 = .ok (.aload 4, 2) := by decide +kernel
theorem dX8_light_44 : decode cX8_light 44 = .ok (.invokevirtual 159, 3) := by decide +kernel
theorem dX8_light_47 : decode cX8_light 47 = .ok (.ifCond .eq 5, 3) := by decide +kernel
theorem dX8_light_50 : decode cX8_light 50 = .ok (.iconst 0, 1) := by decide +kernel
theorem dX8_light_51 : decode cX8_light 51 = .ok (.ireturn, 1) := by decide +kernel
theorem dX8_light_52 : decode cX8_light 52 = .ok (.aload 4, 2) := by decide +kernel
theorem dX8_light_54 : decode cX8_light 54 = .ok (.getfield 150, 3) := by decide +kernel
theorem dX8_light_57 : decode cX8_light 57 = .ok (.aload_n 0, 1) := by decide +kernel
theorem dX8_light_58 : decode cX8_light 58 = .ok (.getfield 46, 3) := by decide +kernel
theorem dX8_light_61 : decode cX8_light 61 = .ok (.invokevirtual 163, 3) := by decide +kernel
theorem dX8_light_64 : decode cX8_light 64 = .ok (.iconst 1, 1) := by decide +kernel
theorem dX8_light_65 : decode cX8_light 65 = .ok (.ireturn, 1) := by decide +kernel
set_option maxRecDepth 20000 in
theorem ggX8_near_X8_within : GoodIn wsX8_near wsX8_within := goodIn_r _ [5] (by decide +kernel) (by decide +kernel)
set_option maxRecDepth 20000 in
theorem gX8_near_X8_within : GoodIn wsX8_near (va_wsS RX8 54 yX8_within wsX8_within) := goodIn_app (goodIn_of _ (by decide +kernel)) ggX8_near_X8_within
set_option maxRecDepth 20000 in
theorem ggX8_near_X8_clashesWithin : GoodIn wsX8_near wsX8_clashesWithin := goodIn_r _ [9, 10, 11, 12, 13, 4, 14, 15, 16, 17, 18, 19, 20, 21, 22, 23, 24, 25, 26, 27, 28, 29, 30, 31, 32, 33, 34, 35, 36, 37, 38, 39, 40, 41, 42, 43, 44, 45, 46, 47, 48, 49, 50, 51, 52, 53, 54, 55, 56] (by decide +kernel) (by decide +kernel)
set_option maxRecDepth 20000 in
theorem gX8_near_X8_clashesWithin : GoodIn wsX8_near (wsV RX8 167 RX8 yX8_clashesWithin wsX8_clashesWithin) := goodIn_app (goodIn_of _ (by decide +kernel)) ggX8_near_X8_clashesWithin
theorem dX8_near_0 : decode cX8_near 0 = .ok (.iload_n 1, 1) := by decide +kernel
theorem dX8_near_1 : decode cX8_near 1 = .ok (.iconst 0, 1) := by decide +kernel
theorem dX8_near_2 : decode cX8_near 2 = .ok (.sipush 5000, 3) := by decide +kernel
theorem dX8_near_5 : decode cX8_near 5 = .ok (.invokestatic 54, 3) := by decide +kernel
theorem dX8_near_8 : decode cX8_near 8 = .ok (.ifCond .eq 11, 3) := by decide +kernel
theorem dX8_near_11 : decode cX8_near 11 = .ok (.aload_n 0, 1) := by decide +kernel
theorem dX8_near_12 : decode cX8_near 12 = .ok (.iload_n 1, 1) := by decide +kernel
theorem dX8_near_13 : decode cX8_near 13 = .ok (.invokevirtual 167, 3) := by decide +kernel
theorem dX8_near_16 : decode cX8_near 16 = .ok (.ifCond .eq 5, 3) := by decide +kernel
theorem dX8_near_19 : decode cX8_near 19 = .ok (.iconst 0, 1) := by decide +kernel
theorem dX8_near_20 : decode cX8_near 20 = .ok (.ireturn, 1) := by decide +kernel
theorem dX8_near_21 : decode cX8_near 21 = .ok (.aload_n 0, 1) := by decide +kernel
theorem dX8_near_22 : decode cX8_near 22 = .ok (.iload_n 1, 1) := by decide +kernel
theorem dX8_near_23 : decode cX8_near 23 = .ok (.putfield 171, 3) := by decide +kernel
theorem dX8_near_26 : decode cX8_near 26 = .ok (.iconst 1, 1) := by decide +kernel
theorem dX8_near_27 : decode cX8_near 27 = .ok (.ireturn, 1) := by decide +kernel
set_option maxRecDepth 20000 in
theorem ggX8_alike_X8_known : GoodIn wsX8_alike wsX8_known := goodIn_r _ [5, 6, 7, 30, 31, 32, 33, 34, 35, 36, 37, 38, 39, 40, 41] (by decide +kernel) (by decide +kernel)
set_option maxRecDepth 20000 in
theorem gX8_alike_X8_known : GoodIn wsX8_alike (wsV RX8 69 RX8 yX8_known wsX8_known) := goodIn_app (goodIn_of _ (by decide +kernel)) ggX8_alike_X8_known
set_option maxRecDepth 20000 in
theorem ggX8_alike_X3_isLit : GoodIn wsX8_alike wsX3_isLit := goodIn_r _ [11, 12, 42, 43] (by decide +kernel) (by decide +kernel)
set_option maxRecDepth 20000 in
theorem gX8_alike_X3_isLit_n174 : GoodIn wsX8_alike (wsX3_isLit) := ggX8_alike_X3_isLit
set_option maxRecDepth 20000 in
theorem ggX8_alike_X3_matches : GoodIn wsX8_alike wsX3_matches := goodIn_r _ [15, 12, 16, 17, 18, 9, 19, 20, 42, 43] (by decide +kernel) (by decide +kernel)
set_option maxRecDepth 20000 in
theorem gX8_alike_X3_matches_n178 : GoodIn wsX8_alike (wsX3_matches) := ggX8_alike_X3_matches
theorem dX8_alike_0 : decode cX8_alike 0 = .ok (.aload_n 0, 1) := by decide +kernel
theorem dX8_alike_1 : decode cX8_alike 1 = .ok (.iload_n 1, 1) := by decide +kernel
theorem dX8_alike_2 : decode cX8_alike 2 = .ok (.invokevirtual 69, 3) := by decide +kernel
theorem dX8_alike_5 : decode cX8_alike 5 = .ok (.astore_n 3, 1) := by decide +kernel
theorem dX8_alike_6 : decode cX8_alike 6 = .ok (.aload_n 0, 1) := by decide +kernel
theorem dX8_alike_7 : decode cX8_alike 7 = .ok (.iload_n 2, 1) := by decide +kernel
theorem dX8_alike_8 : decode cX8_alike 8 = .ok (.invokevirtual 69, 3) := by decide +kernel
theorem dX8_alike_11 : decode cX8_alike 11 = .ok (.astore 4, 2) := by decide +kernel
theorem dX8_alike_13 : decode cX8_alike 13 = .ok (.aload_n 3, 1) := by decide +kernel
theorem dX8_alike_14 : decode cX8_alike 14 = .ok (.ifnull 34, 3) := by decide +kernel
theorem dX8_alike_17 : decode cX8_alike 17 = .ok (.aload 4, 2) := by decide +kernel
theorem dX8_alike_19 : decode cX8_alike 19 = .ok (.ifnull 29, 3) := by decide +kernel
theorem dX8_alike_22 : decode cX8_alike 22 = .ok (.iload_n 1, 1) := by decide +kernel
theorem dX8_alike_23 : decode cX8_alike 23 = .ok (.iload_n 2, 1) := by decide +kernel
theorem dX8_alike_24 : decode cX8_alike 24 = .ok (.if_icmp .eq 24, 3) := by decide +kernel
theorem dX8_alike_27 : decode cX8_alike 27 = .ok (.aload_n 3, 1) := by decide +kernel
theorem dX8_alike_28 : decode cX8_alike 28 = .ok (.getfield 150, 3) := by decide +kernel
theorem dX8_alike_31 : decode cX8_alike 31 = .ok (.invokevirtual 174, 3) := by decide +kernel
theorem dX8_alike_34 : decode cX8_alike 34 = .ok (.ifCond .eq 14, 3) := by decide +kernel
theorem dX8_alike_37 : decode cX8_alike 37 = .ok (.aload 4, 2) := by decide +kernel
theorem dX8_alike_39 : decode cX8_alike 39 = .ok (.getfield 150, 3) := by decide +kernel
theorem dX8_alike_42 : decode cX8_alike 42 = .ok (.invokevirtual 174, 3) := by decide +kernel
theorem dX8_alike_45 : decode cX8_alike 45 = .ok (.ifCond .ne 5, 3) := by decide +kernel
theorem dX8_alike_48 : decode cX8_alike 48 = .ok (.iconst (-1), 1) := by decide +kernel
theorem dX8_alike_49 : decode cX8_alike 49 = .ok (.ireturn, 1) := by decide +kernel
theorem dX8_alike_50 : decode cX8_alike 50 = .ok (.aload_n 3, 1) := by decide +kernel
theorem dX8_alike_51 : decode cX8_alike 51 = .ok (.getfield 150, 3) := by decide +kernel
theorem dX8_alike_54 : decode cX8_alike 54 = .ok (.aload 4, 2) := by decide +kernel
theorem dX8_alike_56 : decode cX8_alike 56 = .ok (.getfield 150, 3) := by decide +kernel
theorem dX8_alike_59 : decode cX8_alike 59 = .ok (.invokevirtual 178, 3) := by decide +kernel
theorem dX8_alike_62 : decode cX8_alike 62 = .ok (.ifCond .eq 7, 3) := by decide +kernel
theorem dX8_alike_65 : decode cX8_alike 65 = .ok (.iconst 1, 1) := by decide +kernel
theorem dX8_alike_66 : decode cX8_alike 66 = .ok (.goto 4, 3) := by decide +kernel
theorem dX8_alike_69 : decode cX8_alike 69 = .ok (.iconst 0, 1) := by decide +kernel
theorem dX8_alike_70 : decode cX8_alike 70 = .ok (.ireturn, 1) := by decide +kernel
set_option maxRecDepth 20000 in
theorem ggX8_warn_X8_known : GoodIn wsX8_warn wsX8_known := goodIn_r _ [7, 8, 9, 26, 27, 28, 29, 30, 31, 32, 33, 34, 35, 36, 37] (by decide +kernel) (by decide +kernel)
set_option maxRecDepth 20000 in
theorem gX8_warn_X8_known : GoodIn wsX8_warn (wsV RX8 69 RX8 yX8_known wsX8_known) := goodIn_app (goodIn_of _ (by decide +kernel)) ggX8_warn_X8_known
set_option maxRecDepth 20000 in
theorem ggX8_warn_X8_within : GoodIn wsX8_warn wsX8_within := goodIn_r _ [12] (by decide +kernel) (by decide +kernel)
set_option maxRecDepth 20000 in
theorem gX8_warn_X8_within : GoodIn wsX8_warn (va_wsS RX8 54 yX8_within wsX8_within) := goodIn_app (goodIn_of _ (by decide +kernel)) ggX8_warn_X8_within
set_option maxRecDepth 20000 in
theorem ggX8_warn_X7_tell : GoodIn wsX8_warn wsX7_tell := goodIn_r _ [16, 17, 18, 19, 20, 21, 22, 23, 24, 14, 25, 38, 39, 40, 41, 42] (by decide +kernel) (by decide +kernel)
set_option maxRecDepth 20000 in
theorem gX8_warn_X7_tell_n182 : GoodIn wsX8_warn (wsX7_tell) := ggX8_warn_X7_tell
theorem dX8_warn_0 : decode cX8_warn 0 = .ok (.aload_n 0, 1) := by decide +kernel
theorem dX8_warn_1 : decode cX8_warn 1 = .ok (.iload_n 1, 1) := by decide +kernel
theorem dX8_warn_2 : decode cX8_warn 2 = .ok (.invokevirtual 69, 3) := by decide +kernel
theorem dX8_warn_5 : decode cX8_warn 5 = .ok (.ifnull 13, 3) := by decide +kernel
theorem dX8_warn_8 : decode cX8_warn 8 = .ok (.iload_n 2, 1) := by decide +kernel
theorem dX8_warn_9 : decode cX8_warn 9 = .ok (.iconst 1, 1) := by decide +kernel
theorem dX8_warn_10 : decode cX8_warn 10 = .ok (.bipush 9, 2) := by decide +kernel
theorem dX8_warn_12 : decode cX8_warn 12 = .ok (.invokestatic 54, 3) := by decide +kernel
theorem dX8_warn_15 : decode cX8_warn 15 = .ok (.ifCond .ne 5, 3) := by decide +kernel
theorem dX8_warn_18 : decode cX8_warn 18 = .ok (.iconst (-1), 1) := by decide +kernel
theorem dX8_warn_19 : decode cX8_warn 19 = .ok (.ireturn, 1) := by decide +kernel
theorem dX8_warn_20 : decode cX8_warn 20 = .ok (.aload_n 0, 1) := by decide +kernel
theorem dX8_warn_21 : decode cX8_warn 21 = .ok (.getfield 25, 3) := by decide +kernel
theorem dX8_warn_24 : decode cX8_warn 24 = .ok (.iload_n 1, 1) := by decide +kernel
theorem dX8_warn_25 : decode cX8_warn 25 = .ok (.iload_n 2, 1) := by decide +kernel
theorem dX8_warn_26 : decode cX8_warn 26 = .ok (.aload_n 0, 1) := by decide +kernel
theorem dX8_warn_27 : decode cX8_warn 27 = .ok (.getfield 113, 3) := by decide +kernel
theorem dX8_warn_30 : decode cX8_warn 30 = .ok (.invokevirtual 182, 3) := by decide +kernel
theorem dX8_warn_33 : decode cX8_warn 33 = .ok (.ireturn, 1) := by decide +kernel
set_option maxRecDepth 20000 in
theorem ggX8_cancel_X7_end : GoodIn wsX8_cancel wsX7_end := goodIn_r _ [6, 7, 8, 9, 10, 4, 11, 12, 25, 26, 27, 28, 29] (by decide +kernel) (by decide +kernel)
set_option maxRecDepth 20000 in
theorem gX8_cancel_X7_end_n186 : GoodIn wsX8_cancel (wsX7_end) := ggX8_cancel_X7_end
theorem dX8_cancel_0 : decode cX8_cancel 0 = .ok (.aload_n 0, 1) := by decide +kernel
theorem dX8_cancel_1 : decode cX8_cancel 1 = .ok (.getfield 25, 3) := by decide +kernel
theorem dX8_cancel_4 : decode cX8_cancel 4 = .ok (.iload_n 1, 1) := by decide +kernel
theorem dX8_cancel_5 : decode cX8_cancel 5 = .ok (.aload_n 0, 1) := by decide +kernel
theorem dX8_cancel_6 : decode cX8_cancel 6 = .ok (.getfield 113, 3) := by decide +kernel
theorem dX8_cancel_9 : decode cX8_cancel 9 = .ok (.invokevirtual 186, 3) := by decide +kernel
theorem dX8_cancel_12 : decode cX8_cancel 12 = .ok (.ireturn, 1) := by decide +kernel
set_option maxRecDepth 20000 in
theorem ggX8_list_X8_within : GoodIn wsX8_list wsX8_within := goodIn_r _ [6] (by decide +kernel) (by decide +kernel)
set_option maxRecDepth 20000 in
theorem gX8_list_X8_within : GoodIn wsX8_list (va_wsS RX8 54 yX8_within wsX8_within) := goodIn_app (goodIn_of _ (by decide +kernel)) ggX8_list_X8_within
set_option maxRecDepth 20000 in
theorem ggX8_list_X7_countOn : GoodIn wsX8_list wsX7_countOn := goodIn_r _ [10, 11, 12, 13, 14, 8, 15, 16, 17, 30, 31, 32, 33, 34] (by decide +kernel) (by decide +kernel)
set_option maxRecDepth 20000 in
theorem gX8_list_X7_countOn_n189 : GoodIn wsX8_list (wsX7_countOn) := ggX8_list_X7_countOn
theorem dX8_list_0 : decode cX8_list 0 = .ok (.iload_n 1, 1) := by decide +kernel
theorem dX8_list_1 : decode cX8_list 1 = .ok (.iconst 0, 1) := by decide +kernel
theorem dX8_list_2 : decode cX8_list 2 = .ok (.aload_n 0, 1) := by decide +kernel
theorem dX8_list_3 : decode cX8_list 3 = .ok (.getfield 113, 3) := by decide +kernel
theorem dX8_list_6 : decode cX8_list 6 = .ok (.invokestatic 54, 3) := by decide +kernel
theorem dX8_list_9 : decode cX8_list 9 = .ok (.ifCond .eq 14, 3) := by decide +kernel
theorem dX8_list_12 : decode cX8_list 12 = .ok (.aload_n 0, 1) := by decide +kernel
theorem dX8_list_13 : decode cX8_list 13 = .ok (.getfield 25, 3) := by decide +kernel
theorem dX8_list_16 : decode cX8_list 16 = .ok (.iload_n 1, 1) := by decide +kernel
theorem dX8_list_17 : decode cX8_list 17 = .ok (.invokevirtual 189, 3) := by decide +kernel
theorem dX8_list_20 : decode cX8_list 20 = .ok (.goto 4, 3) := by decide +kernel
theorem dX8_list_23 : decode cX8_list 23 = .ok (.iconst (-1), 1) := by decide +kernel
theorem dX8_list_24 : decode cX8_list 24 = .ok (.ireturn, 1) := by decide +kernel
set_option maxRecDepth 20000 in
theorem ggX8_listed_X8_within : GoodIn wsX8_listed wsX8_within := goodIn_r _ [6] (by decide +kernel) (by decide +kernel)
set_option maxRecDepth 20000 in
theorem gX8_listed_X8_within : GoodIn wsX8_listed (va_wsS RX8 54 yX8_within wsX8_within) := goodIn_app (goodIn_of _ (by decide +kernel)) ggX8_listed_X8_within
set_option maxRecDepth 20000 in
theorem ggX8_listed_X7_numberOn : GoodIn wsX8_listed wsX7_numberOn := goodIn_r _ [10, 11, 12, 13, 14, 8, 15, 16, 17, 30, 31, 32, 33, 34] (by decide +kernel) (by decide +kernel)
set_option maxRecDepth 20000 in
theorem gX8_listed_X7_numberOn_n193 : GoodIn wsX8_listed (wsX7_numberOn) := ggX8_listed_X7_numberOn
theorem dX8_listed_0 : decode cX8_listed 0 = .ok (.iload_n 1, 1) := by decide +kernel
theorem dX8_listed_1 : decode cX8_listed 1 = .ok (.iconst 0, 1) := by decide +kernel
theorem dX8_listed_2 : decode cX8_listed 2 = .ok (.aload_n 0, 1) := by decide +kernel
theorem dX8_listed_3 : decode cX8_listed 3 = .ok (.getfield 113, 3) := by decide +kernel
theorem dX8_listed_6 : decode cX8_listed 6 = .ok (.invokestatic 54, 3) := by decide +kernel
theorem dX8_listed_9 : decode cX8_listed 9 = .ok (.ifCond .eq 15, 3) := by decide +kernel
theorem dX8_listed_12 : decode cX8_listed 12 = .ok (.aload_n 0, 1) := by decide +kernel
theorem dX8_listed_13 : decode cX8_listed 13 = .ok (.getfield 25, 3) := by decide +kernel
theorem dX8_listed_16 : decode cX8_listed 16 = .ok (.iload_n 1, 1) := by decide +kernel
theorem dX8_listed_17 : decode cX8_listed 17 = .ok (.iload_n 2, 1) := by decide +kernel
theorem dX8_listed_18 : decode cX8_listed 18 = .ok (.invokevirtual 193, 3) := by decide +kernel
theorem dX8_listed_21 : decode cX8_listed 21 = .ok (.goto 4, 3) := by decide +kernel
theorem dX8_listed_24 : decode cX8_listed 24 = .ok (.iconst (-1), 1) := by decide +kernel
theorem dX8_listed_25 : decode cX8_listed 25 = .ok (.ireturn, 1) := by decide +kernel
set_option maxRecDepth 20000 in
theorem ggX8_warning_X7_has : GoodIn wsX8_warning wsX7_has := goodIn_r _ [5, 6, 19, 20, 21, 22, 23] (by decide +kernel) (by decide +kernel)
set_option maxRecDepth 20000 in
theorem gX8_warning_X7_has_n196 : GoodIn wsX8_warning (wsX7_has) := ggX8_warning_X7_has
theorem dX8_warning_0 : decode cX8_warning 0 = .ok (.aload_n 0, 1) := by decide +kernel
theorem dX8_warning_1 : decode cX8_warning 1 = .ok (.getfield 25, 3) := by decide +kernel
theorem dX8_warning_4 : decode cX8_warning 4 = .ok (.iload_n 1, 1) := by decide +kernel
theorem dX8_warning_5 : decode cX8_warning 5 = .ok (.invokevirtual 196, 3) := by decide +kernel
theorem dX8_warning_8 : decode cX8_warning 8 = .ok (.ifCond .ne 5, 3) := by decide +kernel
theorem dX8_warning_11 : decode cX8_warning 11 = .ok (.iconst (-1), 1) := by decide +kernel
theorem dX8_warning_12 : decode cX8_warning 12 = .ok (.ireturn, 1) := by decide +kernel
theorem dX8_warning_13 : decode cX8_warning 13 = .ok (.iload_n 2, 1) := by decide +kernel
theorem dX8_warning_14 : decode cX8_warning 14 = .ok (.tableswitch 70 0 3 #[30, 40, 50, 60], 30) := by decide +kernel
theorem dX8_warning_44 : decode cX8_warning 44 = .ok (.aload_n 0, 1) := by decide +kernel
theorem dX8_warning_45 : decode cX8_warning 45 = .ok (.getfield 25, 3) := by decide +kernel
theorem dX8_warning_48 : decode cX8_warning 48 = .ok (.getfield 199, 3) := by decide +kernel
theorem dX8_warning_51 : decode cX8_warning 51 = .ok (.iload_n 1, 1) := by decide +kernel
theorem dX8_warning_52 : decode cX8_warning 52 = .ok (.iaload, 1) := by decide +kernel
theorem dX8_warning_53 : decode cX8_warning 53 = .ok (.ireturn, 1) := by decide +kernel
theorem dX8_warning_54 : decode cX8_warning 54 = .ok (.aload_n 0, 1) := by decide +kernel
theorem dX8_warning_55 : decode cX8_warning 55 = .ok (.getfield 25, 3) := by decide +kernel
theorem dX8_warning_58 : decode cX8_warning 58 = .ok (.getfield 202, 3) := by decide +kernel
theorem dX8_warning_61 : decode cX8_warning 61 = .ok (.iload_n 1, 1) := by decide +kernel
theorem dX8_warning_62 : decode cX8_warning 62 = .ok (.iaload, 1) := by decide +kernel
theorem dX8_warning_63 : decode cX8_warning 63 = .ok (.ireturn, 1) := by decide +kernel
theorem dX8_warning_64 : decode cX8_warning 64 = .ok (.aload_n 0, 1) := by decide +kernel
theorem dX8_warning_65 : decode cX8_warning 65 = .ok (.getfield 25, 3) := by decide +kernel
theorem dX8_warning_68 : decode cX8_warning 68 = .ok (.getfield 205, 3) := by decide +kernel
theorem dX8_warning_71 : decode cX8_warning 71 = .ok (.iload_n 1, 1) := by decide +kernel
theorem dX8_warning_72 : decode cX8_warning 72 = .ok (.iaload, 1) := by decide +kernel
theorem dX8_warning_73 : decode cX8_warning 73 = .ok (.ireturn, 1) := by decide +kernel
theorem dX8_warning_74 : decode cX8_warning 74 = .ok (.aload_n 0, 1) := by decide +kernel
theorem dX8_warning_75 : decode cX8_warning 75 = .ok (.getfield 25, 3) := by decide +kernel
theorem dX8_warning_78 : decode cX8_warning 78 = .ok (.getfield 208, 3) := by decide +kernel
theorem dX8_warning_81 : decode cX8_warning 81 = .ok (.iload_n 1, 1) := by decide +kernel
theorem dX8_warning_82 : decode cX8_warning 82 = .ok (.iaload, 1) := by decide +kernel
theorem dX8_warning_83 : decode cX8_warning 83 = .ok (.ireturn, 1) := by decide +kernel
theorem dX8_warning_84 : decode cX8_warning 84 = .ok (.iconst (-1), 1) := by decide +kernel
theorem dX8_warning_85 : decode cX8_warning 85 = .ok (.ireturn, 1) := by decide +kernel
set_option maxRecDepth 20000 in
theorem ggX8_job_X8_known : GoodIn wsX8_job wsX8_known := goodIn_r _ [6, 7, 8, 21, 22, 23, 24, 25, 26, 27, 28, 29, 30, 31, 32] (by decide +kernel) (by decide +kernel)
set_option maxRecDepth 20000 in
theorem gX8_job_X8_known : GoodIn wsX8_job (wsV RX8 69 RX8 yX8_known wsX8_known) := goodIn_app (goodIn_of _ (by decide +kernel)) ggX8_job_X8_known
set_option maxRecDepth 20000 in
theorem ggX8_job_X8_within : GoodIn wsX8_job wsX8_within := goodIn_r _ [11] (by decide +kernel) (by decide +kernel)
set_option maxRecDepth 20000 in
theorem gX8_job_X8_within : GoodIn wsX8_job (va_wsS RX8 54 yX8_within wsX8_within) := goodIn_app (goodIn_of _ (by decide +kernel)) ggX8_job_X8_within
theorem dX8_job_0 : decode cX8_job 0 = .ok (.aload_n 0, 1) := by decide +kernel
theorem dX8_job_1 : decode cX8_job 1 = .ok (.iload_n 1, 1) := by decide +kernel
theorem dX8_job_2 : decode cX8_job 2 = .ok (.invokevirtual 69, 3) := by decide +kernel
theorem dX8_job_5 : decode cX8_job 5 = .ok (.astore 5, 2) := by decide +kernel
theorem dX8_job_7 : decode cX8_job 7 = .ok (.aload 5, 2) := by decide +kernel
theorem dX8_job_9 : decode cX8_job 9 = .ok (.ifnull 37, 3) := by decide +kernel
theorem dX8_job_12 : decode cX8_job 12 = .ok (.iload_n 2, 1) := by decide +kernel
theorem dX8_job_13 : decode cX8_job 13 = .ok (.iconst 0, 1) := by decide +kernel
theorem dX8_job_14 : decode cX8_job 14 = .ok (.sipush 600, 3) := by decide +kernel
theorem dX8_job_17 : decode cX8_job 17 = .ok (.invokestatic 54, 3) := by decide +kernel
theorem dX8_job_20 : decode cX8_job 20 = .ok (.ifCond .eq 26, 3) := by decide +kernel
theorem dX8_job_23 : decode cX8_job 23 = .ok (.iload_n 3, 1) := by decide +kernel
theorem dX8_job_24 : decode cX8_job 24 = .ok (.iconst 0, 1) := by decide +kernel
theorem dX8_job_25 : decode cX8_job 25 = .ok (.sipush 1000, 3) := by decide +kernel
theorem dX8_job_28 : decode cX8_job 28 = .ok (.invokestatic 54, 3) := by decide +kernel
theorem dX8_job_31 : decode cX8_job 31 = .ok (.ifCond .eq 15, 3) := by decide +kernel
theorem dX8_job_34 : decode cX8_job 34 = .ok (.iload 4, 2) := by decide +kernel
theorem dX8_job_36 : decode cX8_job 36 = .ok (.iconst 0, 1) := by decide +kernel
theorem dX8_job_37 : decode cX8_job 37 = .ok (.sipush 1000, 3) := by decide +kernel
theorem dX8_job_40 : decode cX8_job 40 = .ok (.invokestatic 54, 3) := by decide +kernel
theorem dX8_job_43 : decode cX8_job 43 = .ok (.ifCond .ne 5, 3) := by decide +kernel
theorem dX8_job_46 : decode cX8_job 46 = .ok (.iconst 0, 1) := by decide +kernel
theorem dX8_job_47 : decode cX8_job 47 = .ok (.ireturn, 1) := by decide +kernel
theorem dX8_job_48 : decode cX8_job 48 = .ok (.aload 5, 2) := by decide +kernel
theorem dX8_job_50 : decode cX8_job 50 = .ok (.iload_n 2, 1) := by decide +kernel
theorem dX8_job_51 : decode cX8_job 51 = .ok (.putfield 211, 3) := by decide +kernel
theorem dX8_job_54 : decode cX8_job 54 = .ok (.aload 5, 2) := by decide +kernel
theorem dX8_job_56 : decode cX8_job 56 = .ok (.iload_n 3, 1) := by decide +kernel
theorem dX8_job_57 : decode cX8_job 57 = .ok (.putfield 214, 3) := by decide +kernel
theorem dX8_job_60 : decode cX8_job 60 = .ok (.aload 5, 2) := by decide +kernel
theorem dX8_job_62 : decode cX8_job 62 = .ok (.iload 4, 2) := by decide +kernel
theorem dX8_job_64 : decode cX8_job 64 = .ok (.putfield 217, 3) := by decide +kernel
theorem dX8_job_67 : decode cX8_job 67 = .ok (.aload_n 0, 1) := by decide +kernel
theorem dX8_job_68 : decode cX8_job 68 = .ok (.iconst 0, 1) := by decide +kernel
theorem dX8_job_69 : decode cX8_job 69 = .ok (.putfield 58, 3) := by decide +kernel
theorem dX8_job_72 : decode cX8_job 72 = .ok (.iconst 1, 1) := by decide +kernel
theorem dX8_job_73 : decode cX8_job 73 = .ok (.ireturn, 1) := by decide +kernel
set_option maxRecDepth 20000 in
theorem ggX8_weather_X8_within : GoodIn wsX8_weather wsX8_within := goodIn_r _ [6] (by decide +kernel) (by decide +kernel)
set_option maxRecDepth 20000 in
theorem gX8_weather_X8_within : GoodIn wsX8_weather (va_wsS RX8 54 yX8_within wsX8_within) := goodIn_app (goodIn_of _ (by decide +kernel)) ggX8_weather_X8_within
theorem dX8_weather_0 : decode cX8_weather 0 = .ok (.iload_n 1, 1) := by decide +kernel
theorem dX8_weather_1 : decode cX8_weather 1 = .ok (.iconst 0, 1) := by decide +kernel
theorem dX8_weather_2 : decode cX8_weather 2 = .ok (.bipush 23, 2) := by decide +kernel
theorem dX8_weather_4 : decode cX8_weather 4 = .ok (.invokestatic 54, 3) := by decide +kernel
theorem dX8_weather_7 : decode cX8_weather 7 = .ok (.ifCond .eq 24, 3) := by decide +kernel
theorem dX8_weather_10 : decode cX8_weather 10 = .ok (.iload_n 2, 1) := by decide +kernel
theorem dX8_weather_11 : decode cX8_weather 11 = .ok (.bipush (-50), 2) := by decide +kernel
theorem dX8_weather_13 : decode cX8_weather 13 = .ok (.bipush 50, 2) := by decide +kernel
theorem dX8_weather_15 : decode cX8_weather 15 = .ok (.invokestatic 54, 3) := by decide +kernel
theorem dX8_weather_18 : decode cX8_weather 18 = .ok (.ifCond .eq 13, 3) := by decide +kernel
theorem dX8_weather_21 : decode cX8_weather 21 = .ok (.iload_n 3, 1) := by decide +kernel
theorem dX8_weather_22 : decode cX8_weather 22 = .ok (.iconst 0, 1) := by decide +kernel
theorem dX8_weather_23 : decode cX8_weather 23 = .ok (.bipush 12, 2) := by decide +kernel
theorem dX8_weather_25 : decode cX8_weather 25 = .ok (.invokestatic 54, 3) := by decide +kernel
theorem dX8_weather_28 : decode cX8_weather 28 = .ok (.ifCond .ne 5, 3) := by decide +kernel
theorem dX8_weather_31 : decode cX8_weather 31 = .ok (.iconst 0, 1) := by decide +kernel
theorem dX8_weather_32 : decode cX8_weather 32 = .ok (.ireturn, 1) := by decide +kernel
theorem dX8_weather_33 : decode cX8_weather 33 = .ok (.aload_n 0, 1) := by decide +kernel
theorem dX8_weather_34 : decode cX8_weather 34 = .ok (.getfield 32, 3) := by decide +kernel
theorem dX8_weather_37 : decode cX8_weather 37 = .ok (.getfield 220, 3) := by decide +kernel
theorem dX8_weather_40 : decode cX8_weather 40 = .ok (.iload_n 1, 1) := by decide +kernel
theorem dX8_weather_41 : decode cX8_weather 41 = .ok (.iload_n 2, 1) := by decide +kernel
theorem dX8_weather_42 : decode cX8_weather 42 = .ok (.iastore, 1) := by decide +kernel
theorem dX8_weather_43 : decode cX8_weather 43 = .ok (.aload_n 0, 1) := by decide +kernel
theorem dX8_weather_44 : decode cX8_weather 44 = .ok (.getfield 32, 3) := by decide +kernel
theorem dX8_weather_47 : decode cX8_weather 47 = .ok (.getfield 223, 3) := by decide +kernel
theorem dX8_weather_50 : decode cX8_weather 50 = .ok (.iload_n 1, 1) := by decide +kernel
theorem dX8_weather_51 : decode cX8_weather 51 = .ok (.iload_n 3, 1) := by decide +kernel
theorem dX8_weather_52 : decode cX8_weather 52 = .ok (.iastore, 1) := by decide +kernel
theorem dX8_weather_53 : decode cX8_weather 53 = .ok (.aload_n 0, 1) := by decide +kernel
theorem dX8_weather_54 : decode cX8_weather 54 = .ok (.iconst 0, 1) := by decide +kernel
theorem dX8_weather_55 : decode cX8_weather 55 = .ok (.putfield 58, 3) := by decide +kernel
theorem dX8_weather_58 : decode cX8_weather 58 = .ok (.iconst 1, 1) := by decide +kernel
theorem dX8_weather_59 : decode cX8_weather 59 = .ok (.ireturn, 1) := by decide +kernel
set_option maxRecDepth 20000 in
theorem ggX8_ship_X8_within : GoodIn wsX8_ship wsX8_within := goodIn_r _ [6] (by decide +kernel) (by decide +kernel)
set_option maxRecDepth 20000 in
theorem gX8_ship_X8_within : GoodIn wsX8_ship (va_wsS RX8 54 yX8_within wsX8_within) := goodIn_app (goodIn_of _ (by decide +kernel)) ggX8_ship_X8_within
theorem dX8_ship_0 : decode cX8_ship 0 = .ok (.iload_n 1, 1) := by decide +kernel
theorem dX8_ship_1 : decode cX8_ship 1 = .ok (.iconst 0, 1) := by decide +kernel
theorem dX8_ship_2 : decode cX8_ship 2 = .ok (.bipush 60, 2) := by decide +kernel
theorem dX8_ship_4 : decode cX8_ship 4 = .ok (.invokestatic 54, 3) := by decide +kernel
theorem dX8_ship_7 : decode cX8_ship 7 = .ok (.ifCond .eq 35, 3) := by decide +kernel
theorem dX8_ship_10 : decode cX8_ship 10 = .ok (.iload_n 2, 1) := by decide +kernel
theorem dX8_ship_11 : decode cX8_ship 11 = .ok (.iconst 0, 1) := by decide +kernel
theorem dX8_ship_12 : decode cX8_ship 12 = .ok (.bipush 100, 2) := by decide +kernel
theorem dX8_ship_14 : decode cX8_ship 14 = .ok (.invokestatic 54, 3) := by decide +kernel
theorem dX8_ship_17 : decode cX8_ship 17 = .ok (.ifCond .eq 25, 3) := by decide +kernel
theorem dX8_ship_20 : decode cX8_ship 20 = .ok (.iload_n 3, 1) := by decide +kernel
theorem dX8_ship_21 : decode cX8_ship 21 = .ok (.iconst 0, 1) := by decide +kernel
theorem dX8_ship_22 : decode cX8_ship 22 = .ok (.bipush 12, 2) := by decide +kernel
theorem dX8_ship_24 : decode cX8_ship 24 = .ok (.invokestatic 54, 3) := by decide +kernel
theorem dX8_ship_27 : decode cX8_ship 27 = .ok (.ifCond .eq 15, 3) := by decide +kernel
theorem dX8_ship_30 : decode cX8_ship 30 = .ok (.iload 4, 2) := by decide +kernel
theorem dX8_ship_32 : decode cX8_ship 32 = .ok (.iconst 0, 1) := by decide +kernel
theorem dX8_ship_33 : decode cX8_ship 33 = .ok (.sipush 10000, 3) := by decide +kernel
theorem dX8_ship_36 : decode cX8_ship 36 = .ok (.invokestatic 54, 3) := by decide +kernel
theorem dX8_ship_39 : decode cX8_ship 39 = .ok (.ifCond .ne 5, 3) := by decide +kernel
theorem dX8_ship_42 : decode cX8_ship 42 = .ok (.iconst 0, 1) := by decide +kernel
theorem dX8_ship_43 : decode cX8_ship 43 = .ok (.ireturn, 1) := by decide +kernel
theorem dX8_ship_44 : decode cX8_ship 44 = .ok (.aload_n 0, 1) := by decide +kernel
theorem dX8_ship_45 : decode cX8_ship 45 = .ok (.getfield 32, 3) := by decide +kernel
theorem dX8_ship_48 : decode cX8_ship 48 = .ok (.iload_n 1, 1) := by decide +kernel
theorem dX8_ship_49 : decode cX8_ship 49 = .ok (.putfield 226, 3) := by decide +kernel
theorem dX8_ship_52 : decode cX8_ship 52 = .ok (.aload_n 0, 1) := by decide +kernel
theorem dX8_ship_53 : decode cX8_ship 53 = .ok (.getfield 32, 3) := by decide +kernel
theorem dX8_ship_56 : decode cX8_ship 56 = .ok (.iload_n 2, 1) := by decide +kernel
theorem dX8_ship_57 : decode cX8_ship 57 = .ok (.putfield 229, 3) := by decide +kernel
theorem dX8_ship_60 : decode cX8_ship 60 = .ok (.aload_n 0, 1) := by decide +kernel
theorem dX8_ship_61 : decode cX8_ship 61 = .ok (.getfield 32, 3) := by decide +kernel
theorem dX8_ship_64 : decode cX8_ship 64 = .ok (.iload_n 3, 1) := by decide +kernel
theorem dX8_ship_65 : decode cX8_ship 65 = .ok (.putfield 232, 3) := by decide +kernel
theorem dX8_ship_68 : decode cX8_ship 68 = .ok (.aload_n 0, 1) := by decide +kernel
theorem dX8_ship_69 : decode cX8_ship 69 = .ok (.getfield 32, 3) := by decide +kernel
theorem dX8_ship_72 : decode cX8_ship 72 = .ok (.iload 4, 2) := by decide +kernel
theorem dX8_ship_74 : decode cX8_ship 74 = .ok (.putfield 235, 3) := by decide +kernel
theorem dX8_ship_77 : decode cX8_ship 77 = .ok (.aload_n 0, 1) := by decide +kernel
theorem dX8_ship_78 : decode cX8_ship 78 = .ok (.iconst 0, 1) := by decide +kernel
theorem dX8_ship_79 : decode cX8_ship 79 = .ok (.putfield 58, 3) := by decide +kernel
theorem dX8_ship_82 : decode cX8_ship 82 = .ok (.iconst 1, 1) := by decide +kernel
theorem dX8_ship_83 : decode cX8_ship 83 = .ok (.ireturn, 1) := by decide +kernel
set_option maxRecDepth 20000 in
theorem ggX8_at_X8_isPlace : GoodIn wsX8_at wsX8_isPlace := goodIn_r _ [6, 7, 8, 5, 9] (by decide +kernel) (by decide +kernel)
set_option maxRecDepth 20000 in
theorem gX8_at_X8_isPlace : GoodIn wsX8_at (va_wsS RX8 50 yX8_isPlace wsX8_isPlace) := goodIn_app (goodIn_of _ (by decide +kernel)) ggX8_at_X8_isPlace
set_option maxRecDepth 20000 in
theorem ggX8_at_X8_within : GoodIn wsX8_at wsX8_within := goodIn_r _ [9] (by decide +kernel) (by decide +kernel)
set_option maxRecDepth 20000 in
theorem gX8_at_X8_within : GoodIn wsX8_at (va_wsS RX8 54 yX8_within wsX8_within) := goodIn_app (goodIn_of _ (by decide +kernel)) ggX8_at_X8_within
theorem dX8_at_0 : decode cX8_at 0 = .ok (.iload_n 1, 1) := by decide +kernel
theorem dX8_at_1 : decode cX8_at 1 = .ok (.iload_n 2, 1) := by decide +kernel
theorem dX8_at_2 : decode cX8_at 2 = .ok (.invokestatic 50, 3) := by decide +kernel
theorem dX8_at_5 : decode cX8_at 5 = .ok (.ifCond .eq 26, 3) := by decide +kernel
theorem dX8_at_8 : decode cX8_at 8 = .ok (.iload_n 3, 1) := by decide +kernel
theorem dX8_at_9 : decode cX8_at 9 = .ok (.iconst 0, 1) := by decide +kernel
theorem dX8_at_10 : decode cX8_at 10 = .ok (.sipush 1440, 3) := by decide +kernel
theorem dX8_at_13 : decode cX8_at 13 = .ok (.invokestatic 54, 3) := by decide +kernel
theorem dX8_at_16 : decode cX8_at 16 = .ok (.ifCond .eq 15, 3) := by decide +kernel
theorem dX8_at_19 : decode cX8_at 19 = .ok (.iload 4, 2) := by decide +kernel
theorem dX8_at_21 : decode cX8_at 21 = .ok (.iload_n 3, 1) := by decide +kernel
theorem dX8_at_22 : decode cX8_at 22 = .ok (.sipush 1440, 3) := by decide +kernel
theorem dX8_at_25 : decode cX8_at 25 = .ok (.invokestatic 54, 3) := by decide +kernel
theorem dX8_at_28 : decode cX8_at 28 = .ok (.ifCond .ne 5, 3) := by decide +kernel
theorem dX8_at_31 : decode cX8_at 31 = .ok (.iconst 0, 1) := by decide +kernel
theorem dX8_at_32 : decode cX8_at 32 = .ok (.ireturn, 1) := by decide +kernel
theorem dX8_at_33 : decode cX8_at 33 = .ok (.aload_n 0, 1) := by decide +kernel
theorem dX8_at_34 : decode cX8_at 34 = .ok (.getfield 32, 3) := by decide +kernel
theorem dX8_at_37 : decode cX8_at 37 = .ok (.iload_n 1, 1) := by decide +kernel
theorem dX8_at_38 : decode cX8_at 38 = .ok (.putfield 238, 3) := by decide +kernel
theorem dX8_at_41 : decode cX8_at 41 = .ok (.aload_n 0, 1) := by decide +kernel
theorem dX8_at_42 : decode cX8_at 42 = .ok (.getfield 32, 3) := by decide +kernel
theorem dX8_at_45 : decode cX8_at 45 = .ok (.iload_n 2, 1) := by decide +kernel
theorem dX8_at_46 : decode cX8_at 46 = .ok (.putfield 239, 3) := by decide +kernel
theorem dX8_at_49 : decode cX8_at 49 = .ok (.aload_n 0, 1) := by decide +kernel
theorem dX8_at_50 : decode cX8_at 50 = .ok (.getfield 32, 3) := by decide +kernel
theorem dX8_at_53 : decode cX8_at 53 = .ok (.iload_n 3, 1) := by decide +kernel
theorem dX8_at_54 : decode cX8_at 54 = .ok (.putfield 240, 3) := by decide +kernel
theorem dX8_at_57 : decode cX8_at 57 = .ok (.aload_n 0, 1) := by decide +kernel
theorem dX8_at_58 : decode cX8_at 58 = .ok (.getfield 32, 3) := by decide +kernel
theorem dX8_at_61 : decode cX8_at 61 = .ok (.iload 4, 2) := by decide +kernel
theorem dX8_at_63 : decode cX8_at 63 = .ok (.putfield 243, 3) := by decide +kernel
theorem dX8_at_66 : decode cX8_at 66 = .ok (.aload_n 0, 1) := by decide +kernel
theorem dX8_at_67 : decode cX8_at 67 = .ok (.iconst 0, 1) := by decide +kernel
theorem dX8_at_68 : decode cX8_at 68 = .ok (.putfield 58, 3) := by decide +kernel
theorem dX8_at_71 : decode cX8_at 71 = .ok (.iconst 1, 1) := by decide +kernel
theorem dX8_at_72 : decode cX8_at 72 = .ok (.ireturn, 1) := by decide +kernel
set_option maxRecDepth 20000 in
theorem ggX8_round_X2_init : GoodIn wsX8_round wsX2_init := goodIn_r _ [10, 11, 12, 13, 14, 15, 16, 17, 18, 19, 20, 21, 22, 23, 24, 25, 26, 153, 154, 155, 156, 157, 158, 159, 160, 161, 162, 163, 164, 165, 166, 167, 168] (by decide +kernel) (by decide +kernel)
set_option maxRecDepth 20000 in
theorem gX8_round_X2_init_n251 : GoodIn wsX8_round (wsX2_init) := ggX8_round_X2_init
set_option maxRecDepth 20000 in
theorem ggX8_round_X2_plan : GoodIn wsX8_round wsX2_plan := goodIn_r _ [29, 30, 31, 32, 4, 33, 34, 15, 16, 17, 18, 35, 36, 37, 38, 21, 20, 39, 40, 41, 42, 43, 44, 45, 46, 47, 48, 49, 50, 19, 51, 52, 53, 54, 55, 56, 57, 58, 59, 60, 61, 62, 63, 64, 65, 66, 67, 68, 23, 69, 22, 70, 71, 72, 73, 74, 75, 76, 77, 78, 79, 80, 81, 82, 83, 84, 85, 86, 87, 88, 89, 90, 91, 92, 93, 94, 95, 96, 97, 98, 99, 100, 101, 102, 103, 104, 105, 106, 107, 108, 109, 110, 111, 112, 113, 114, 24, 25, 115, 116, 117, 118, 119, 120, 121, 122, 123, 124, 125, 126, 127, 128, 129, 130, 131, 132, 133, 134, 26, 153, 154, 155, 156, 157, 158, 159, 160, 161, 162, 163, 164, 165, 166, 167, 168, 169, 170, 171, 172, 173, 174, 175, 176, 177, 178, 179, 180, 181, 182, 183, 184, 185, 186, 187] (by decide +kernel) (by decide +kernel)
set_option maxRecDepth 20000 in
theorem gX8_round_X2_plan_n252 : GoodIn wsX8_round (wsX2_plan) := ggX8_round_X2_plan
set_option maxRecDepth 20000 in
theorem ggX8_round_X2_loadDone : GoodIn wsX8_round wsX2_loadDone := goodIn_r _ [137, 114, 17, 25, 153, 154, 155, 156, 157, 158, 159, 160, 161, 162, 163, 164, 165, 166, 167, 168] (by decide +kernel) (by decide +kernel)
set_option maxRecDepth 20000 in
theorem gX8_round_X2_loadDone_n265 : GoodIn wsX8_round (wsX2_loadDone) := ggX8_round_X2_loadDone
set_option maxRecDepth 20000 in
theorem ggX8_round_X2_step : GoodIn wsX8_round wsX2_step := goodIn_r _ [140, 114, 15, 25, 26, 153, 154, 155, 156, 157, 158, 159, 160, 161, 162, 163, 164, 165, 166, 167, 168] (by decide +kernel) (by decide +kernel)
set_option maxRecDepth 20000 in
theorem gX8_round_X2_step_n268 : GoodIn wsX8_round (wsX2_step) := ggX8_round_X2_step
theorem dX8_round_0 : decode cX8_round 0 = .ok (.aload_n 0, 1) := by decide +kernel
theorem dX8_round_1 : decode cX8_round 1 = .ok (.getfield 245, 3) := by decide +kernel
theorem dX8_round_4 : decode cX8_round 4 = .ok (.ifnonnull 14, 3) := by decide +kernel
theorem dX8_round_7 : decode cX8_round 7 = .ok (.aload_n 0, 1) := by decide +kernel
theorem dX8_round_8 : decode cX8_round 8 = .ok (.new 249, 3) := by decide +kernel
theorem dX8_round_11 : decode cX8_round 11 = .ok (.dup, 1) := by decide +kernel
theorem dX8_round_12 : decode cX8_round 12 = .ok (.invokespecial 251, 3) := by decide +kernel
theorem dX8_round_15 : decode cX8_round 15 = .ok (.putfield 245, 3) := by decide +kernel
theorem dX8_round_18 : decode cX8_round 18 = .ok (.aload_n 0, 1) := by decide +kernel
theorem dX8_round_19 : decode cX8_round 19 = .ok (.getfield 58, 3) := by decide +kernel
theorem dX8_round_22 : decode cX8_round 22 = .ok (.ifCond .ne 27, 3) := by decide +kernel
theorem dX8_round_25 : decode cX8_round 25 = .ok (.aload_n 0, 1) := by decide +kernel
theorem dX8_round_26 : decode cX8_round 26 = .ok (.getfield 245, 3) := by decide +kernel
theorem dX8_round_29 : decode cX8_round 29 = .ok (.aload_n 0, 1) := by decide +kernel
theorem dX8_round_30 : decode cX8_round 30 = .ok (.getfield 15, 3) := by decide +kernel
theorem dX8_round_33 : decode cX8_round 33 = .ok (.aload_n 0, 1) := by decide +kernel
theorem dX8_round_34 : decode cX8_round 34 = .ok (.getfield 9, 3) := by decide +kernel
theorem dX8_round_37 : decode cX8_round 37 = .ok (.aload_n 0, 1) := by decide +kernel
theorem dX8_round_38 : decode cX8_round 38 = .ok (.getfield 32, 3) := by decide +kernel
theorem dX8_round_41 : decode cX8_round 41 = .ok (.invokevirtual 252, 3) := by decide +kernel
theorem dX8_round_44 : decode cX8_round 44 = .ok (.aload_n 0, 1) := by decide +kernel
theorem dX8_round_45 : decode cX8_round 45 = .ok (.iconst 1, 1) := by decide +kernel
theorem dX8_round_46 : decode cX8_round 46 = .ok (.putfield 58, 3) := by decide +kernel
theorem dX8_round_49 : decode cX8_round 49 = .ok (.iload_n 1, 1) := by decide +kernel
theorem dX8_round_50 : decode cX8_round 50 = .ok (.tableswitch 62 0 3 #[30, 38, 46, 54], 30) := by decide +kernel
theorem dX8_round_80 : decode cX8_round 80 = .ok (.aload_n 0, 1) := by decide +kernel
theorem dX8_round_81 : decode cX8_round 81 = .ok (.getfield 245, 3) := by decide +kernel
theorem dX8_round_84 : decode cX8_round 84 = .ok (.getfield 256, 3) := by decide +kernel
theorem dX8_round_87 : decode cX8_round 87 = .ok (.ireturn, 1) := by decide +kernel
theorem dX8_round_88 : decode cX8_round 88 = .ok (.aload_n 0, 1) := by decide +kernel
theorem dX8_round_89 : decode cX8_round 89 = .ok (.getfield 245, 3) := by decide +kernel
theorem dX8_round_92 : decode cX8_round 92 = .ok (.getfield 259, 3) := by decide +kernel
theorem dX8_round_95 : decode cX8_round 95 = .ok (.ireturn, 1) := by decide +kernel
theorem dX8_round_96 : decode cX8_round 96 = .ok (.aload_n 0, 1) := by decide +kernel
theorem dX8_round_97 : decode cX8_round 97 = .ok (.getfield 245, 3) := by decide +kernel
theorem dX8_round_100 : decode cX8_round 100 = .ok (.getfield 262, 3) := by decide +kernel
theorem dX8_round_103 : decode cX8_round 103 = .ok (.ireturn, 1) := by decide +kernel
theorem dX8_round_104 : decode cX8_round 104 = .ok (.aload_n 0, 1) := by decide +kernel
theorem dX8_round_105 : decode cX8_round 105 = .ok (.getfield 245, 3) := by decide +kernel
theorem dX8_round_108 : decode cX8_round 108 = .ok (.invokevirtual 265, 3) := by decide +kernel
theorem dX8_round_111 : decode cX8_round 111 = .ok (.ireturn, 1) := by decide +kernel
theorem dX8_round_112 : decode cX8_round 112 = .ok (.aload_n 0, 1) := by decide +kernel
theorem dX8_round_113 : decode cX8_round 113 = .ok (.getfield 245, 3) := by decide +kernel
theorem dX8_round_116 : decode cX8_round 116 = .ok (.iload_n 1, 1) := by decide +kernel
theorem dX8_round_117 : decode cX8_round 117 = .ok (.invokevirtual 268, 3) := by decide +kernel
theorem dX8_round_120 : decode cX8_round 120 = .ok (.ireturn, 1) := by decide +kernel
set_option maxRecDepth 20000 in
theorem ggX8_about_X8_jobCount : GoodIn wsX8_about wsX8_jobCount := goodIn_r _ [10, 1, 11, 12, 13, 9, 14, 15, 16, 17, 18, 19, 20, 21, 22, 23, 24, 25, 26, 27, 43, 44, 45, 46, 47, 48, 49, 50, 51] (by decide +kernel) (by decide +kernel)
set_option maxRecDepth 20000 in
theorem gX8_about_X8_jobCount : GoodIn wsX8_about (wsV RX8 274 RX8 yX8_jobCount wsX8_jobCount) := goodIn_app (goodIn_of _ (by decide +kernel)) ggX8_about_X8_jobCount
theorem dX8_about_0 : decode cX8_about 0 = .ok (.iload_n 1, 1) := by decide +kernel
theorem dX8_about_1 : decode cX8_about 1 = .ok (.tableswitch 75 0 5 #[39, 44, 49, 57, 62, 67], 39) := by decide +kernel
theorem dX8_about_40 : decode cX8_about 40 = .ok (.aload_n 0, 1) := by decide +kernel
theorem dX8_about_41 : decode cX8_about 41 = .ok (.getfield 62, 3) := by decide +kernel
theorem dX8_about_44 : decode cX8_about 44 = .ok (.ireturn, 1) := by decide +kernel
theorem dX8_about_45 : decode cX8_about 45 = .ok (.aload_n 0, 1) := by decide +kernel
theorem dX8_about_46 : decode cX8_about 46 = .ok (.getfield 113, 3) := by decide +kernel
theorem dX8_about_49 : decode cX8_about 49 = .ok (.ireturn, 1) := by decide +kernel
theorem dX8_about_50 : decode cX8_about 50 = .ok (.aload_n 0, 1) := by decide +kernel
theorem dX8_about_51 : decode cX8_about 51 = .ok (.getfield 25, 3) := by decide +kernel
theorem dX8_about_54 : decode cX8_about 54 = .ok (.getfield 271, 3) := by decide +kernel
theorem dX8_about_57 : decode cX8_about 57 = .ok (.ireturn, 1) := by decide +kernel
theorem dX8_about_58 : decode cX8_about 58 = .ok (.aload_n 0, 1) := by decide +kernel
theorem dX8_about_59 : decode cX8_about 59 = .ok (.getfield 171, 3) := by decide +kernel
theorem dX8_about_62 : decode cX8_about 62 = .ok (.ireturn, 1) := by decide +kernel
theorem dX8_about_63 : decode cX8_about 63 = .ok (.aload_n 0, 1) := by decide +kernel
theorem dX8_about_64 : decode cX8_about 64 = .ok (.invokevirtual 274, 3) := by decide +kernel
theorem dX8_about_67 : decode cX8_about 67 = .ok (.ireturn, 1) := by decide +kernel
theorem dX8_about_68 : decode cX8_about 68 = .ok (.aload_n 0, 1) := by decide +kernel
theorem dX8_about_69 : decode cX8_about 69 = .ok (.getfield 32, 3) := by decide +kernel
theorem dX8_about_72 : decode cX8_about 72 = .ok (.getfield 243, 3) := by decide +kernel
theorem dX8_about_75 : decode cX8_about 75 = .ok (.ireturn, 1) := by decide +kernel
theorem dX8_about_76 : decode cX8_about 76 = .ok (.iconst (-1), 1) := by decide +kernel
theorem dX8_about_77 : decode cX8_about 77 = .ok (.ireturn, 1) := by decide +kernel
theorem dX8_within_0 : decode cX8_within 0 = .ok (.iload_n 0, 1) := by decide +kernel
theorem dX8_within_1 : decode cX8_within 1 = .ok (.iload_n 1, 1) := by decide +kernel
theorem dX8_within_2 : decode cX8_within 2 = .ok (.if_icmp .lt 12, 3) := by decide +kernel
theorem dX8_within_5 : decode cX8_within 5 = .ok (.iload_n 0, 1) := by decide +kernel
theorem dX8_within_6 : decode cX8_within 6 = .ok (.iload_n 2, 1) := by decide +kernel
theorem dX8_within_7 : decode cX8_within 7 = .ok (.if_icmp .gt 7, 3) := by decide +kernel
theorem dX8_within_10 : decode cX8_within 10 = .ok (.iconst 1, 1) := by decide +kernel
theorem dX8_within_11 : decode cX8_within 11 = .ok (.goto 4, 3) := by decide +kernel
theorem dX8_within_14 : decode cX8_within 14 = .ok (.iconst 0, 1) := by decide +kernel
theorem dX8_within_15 : decode cX8_within 15 = .ok (.ireturn, 1) := by decide +kernel
set_option maxRecDepth 20000 in
theorem ggX8_isPlace_X8_within : GoodIn wsX8_isPlace wsX8_within := goodIn_r _ [4] (by decide +kernel) (by decide +kernel)
set_option maxRecDepth 20000 in
theorem gX8_isPlace_X8_within : GoodIn wsX8_isPlace (va_wsS RX8 54 yX8_within wsX8_within) := goodIn_app (goodIn_of _ (by decide +kernel)) ggX8_isPlace_X8_within
theorem dX8_isPlace_0 : decode cX8_isPlace 0 = .ok (.iload_n 0, 1) := by decide +kernel
theorem dX8_isPlace_1 : decode cX8_isPlace 1 = .ok (.iconst 0, 1) := by decide +kernel
theorem dX8_isPlace_2 : decode cX8_isPlace 2 = .ok (.bipush 39, 2) := by decide +kernel
theorem dX8_isPlace_4 : decode cX8_isPlace 4 = .ok (.invokestatic 54, 3) := by decide +kernel
theorem dX8_isPlace_7 : decode cX8_isPlace 7 = .ok (.ifCond .eq 17, 3) := by decide +kernel
theorem dX8_isPlace_10 : decode cX8_isPlace 10 = .ok (.iload_n 1, 1) := by decide +kernel
theorem dX8_isPlace_11 : decode cX8_isPlace 11 = .ok (.iconst 0, 1) := by decide +kernel
theorem dX8_isPlace_12 : decode cX8_isPlace 12 = .ok (.bipush 39, 2) := by decide +kernel
theorem dX8_isPlace_14 : decode cX8_isPlace 14 = .ok (.invokestatic 54, 3) := by decide +kernel
theorem dX8_isPlace_17 : decode cX8_isPlace 17 = .ok (.ifCond .eq 7, 3) := by decide +kernel
theorem dX8_isPlace_20 : decode cX8_isPlace 20 = .ok (.iconst 1, 1) := by decide +kernel
theorem dX8_isPlace_21 : decode cX8_isPlace 21 = .ok (.goto 4, 3) := by decide +kernel
theorem dX8_isPlace_24 : decode cX8_isPlace 24 = .ok (.iconst 0, 1) := by decide +kernel
theorem dX8_isPlace_25 : decode cX8_isPlace 25 = .ok (.ireturn, 1) := by decide +kernel
set_option maxRecDepth 20000 in
theorem ggX8_isWay_X8_within : GoodIn wsX8_isWay wsX8_within := goodIn_r _ [4] (by decide +kernel) (by decide +kernel)
set_option maxRecDepth 20000 in
theorem gX8_isWay_X8_within : GoodIn wsX8_isWay (va_wsS RX8 54 yX8_within wsX8_within) := goodIn_app (goodIn_of _ (by decide +kernel)) ggX8_isWay_X8_within
theorem dX8_isWay_0 : decode cX8_isWay 0 = .ok (.iload_n 0, 1) := by decide +kernel
theorem dX8_isWay_1 : decode cX8_isWay 1 = .ok (.sipush (-1000), 3) := by decide +kernel
theorem dX8_isWay_4 : decode cX8_isWay 4 = .ok (.sipush 1000, 3) := by decide +kernel
theorem dX8_isWay_7 : decode cX8_isWay 7 = .ok (.invokestatic 54, 3) := by decide +kernel
theorem dX8_isWay_10 : decode cX8_isWay 10 = .ok (.ifCond .eq 28, 3) := by decide +kernel
theorem dX8_isWay_13 : decode cX8_isWay 13 = .ok (.iload_n 1, 1) := by decide +kernel
theorem dX8_isWay_14 : decode cX8_isWay 14 = .ok (.sipush (-1000), 3) := by decide +kernel
theorem dX8_isWay_17 : decode cX8_isWay 17 = .ok (.sipush 1000, 3) := by decide +kernel
theorem dX8_isWay_20 : decode cX8_isWay 20 = .ok (.invokestatic 54, 3) := by decide +kernel
theorem dX8_isWay_23 : decode cX8_isWay 23 = .ok (.ifCond .eq 15, 3) := by decide +kernel
theorem dX8_isWay_26 : decode cX8_isWay 26 = .ok (.iload_n 0, 1) := by decide +kernel
theorem dX8_isWay_27 : decode cX8_isWay 27 = .ok (.ifCond .ne 7, 3) := by decide +kernel
theorem dX8_isWay_30 : decode cX8_isWay 30 = .ok (.iload_n 1, 1) := by decide +kernel
theorem dX8_isWay_31 : decode cX8_isWay 31 = .ok (.ifCond .eq 7, 3) := by decide +kernel
theorem dX8_isWay_34 : decode cX8_isWay 34 = .ok (.iconst 1, 1) := by decide +kernel
theorem dX8_isWay_35 : decode cX8_isWay 35 = .ok (.goto 4, 3) := by decide +kernel
theorem dX8_isWay_38 : decode cX8_isWay 38 = .ok (.iconst 0, 1) := by decide +kernel
theorem dX8_isWay_39 : decode cX8_isWay 39 = .ok (.ireturn, 1) := by decide +kernel
theorem dX8_squareBetween_0 : decode cX8_squareBetween 0 = .ok (.iload_n 0, 1) := by decide +kernel
theorem dX8_squareBetween_1 : decode cX8_squareBetween 1 = .ok (.iload_n 2, 1) := by decide +kernel
theorem dX8_squareBetween_2 : decode cX8_squareBetween 2 = .ok (.isub, 1) := by decide +kernel
theorem dX8_squareBetween_3 : decode cX8_squareBetween 3 = .ok (.iload_n 0, 1) := by decide +kernel
theorem dX8_squareBetween_4 : decode cX8_squareBetween 4 = .ok (.iload_n 2, 1) := by decide +kernel
theorem dX8_squareBetween_5 : decode cX8_squareBetween 5 = .ok (.isub, 1) := by decide +kernel
theorem dX8_squareBetween_6 : decode cX8_squareBetween 6 = .ok (.imul, 1) := by decide +kernel
theorem dX8_squareBetween_7 : decode cX8_squareBetween 7 = .ok (.iload_n 1, 1) := by decide +kernel
theorem dX8_squareBetween_8 : decode cX8_squareBetween 8 = .ok (.iload_n 3, 1) := by decide +kernel
theorem dX8_squareBetween_9 : decode cX8_squareBetween 9 = .ok (.isub, 1) := by decide +kernel
theorem dX8_squareBetween_10 : decode cX8_squareBetween 10 = .ok (.iload_n 1, 1) := by decide +kernel
theorem dX8_squareBetween_11 : decode cX8_squareBetween 11 = .ok (.iload_n 3, 1) := by decide +kernel
theorem dX8_squareBetween_12 : decode cX8_squareBetween 12 = .ok (.isub, 1) := by decide +kernel
theorem dX8_squareBetween_13 : decode cX8_squareBetween 13 = .ok (.imul, 1) := by decide +kernel
theorem dX8_squareBetween_14 : decode cX8_squareBetween 14 = .ok (.iadd, 1) := by decide +kernel
theorem dX8_squareBetween_15 : decode cX8_squareBetween 15 = .ok (.ireturn, 1) := by decide +kernel
theorem dX8_known_0 : decode cX8_known 0 = .ok (.iload_n 1, 1) := by decide +kernel
theorem dX8_known_1 : decode cX8_known 1 = .ok (.ifCond .lt 29, 3) := by decide +kernel
theorem dX8_known_4 : decode cX8_known 4 = .ok (.iload_n 1, 1) := by decide +kernel
theorem dX8_known_5 : decode cX8_known 5 = .ok (.aload_n 0, 1) := by decide +kernel
theorem dX8_known_6 : decode cX8_known 6 = .ok (.getfield 62, 3) := by decide +kernel
theorem dX8_known_9 : decode cX8_known 9 = .ok (.if_icmp .ge 21, 3) := by decide +kernel
theorem dX8_known_12 : decode cX8_known 12 = .ok (.iload_n 1, 1) := by decide +kernel
theorem dX8_known_13 : decode cX8_known 13 = .ok (.aload_n 0, 1) := by decide +kernel
theorem dX8_known_14 : decode cX8_known 14 = .ok (.getfield 15, 3) := by decide +kernel
theorem dX8_known_17 : decode cX8_known 17 = .ok (.arraylength, 1) := by decide +kernel
theorem dX8_known_18 : decode cX8_known 18 = .ok (.if_icmp .ge 12, 3) := by decide +kernel
theorem dX8_known_21 : decode cX8_known 21 = .ok (.aload_n 0, 1) := by decide +kernel
theorem dX8_known_22 : decode cX8_known 22 = .ok (.getfield 15, 3) := by decide +kernel
theorem dX8_known_25 : decode cX8_known 25 = .ok (.iload_n 1, 1) := by decide +kernel
theorem dX8_known_26 : decode cX8_known 26 = .ok (.aaload, 1) := by decide +kernel
theorem dX8_known_27 : decode cX8_known 27 = .ok (.goto 4, 3) := by decide +kernel
theorem dX8_known_30 : decode cX8_known 30 = .ok (.aconst_null, 1) := by decide +kernel
theorem dX8_known_31 : decode cX8_known 31 = .ok (.areturn, 1) := by decide +kernel
theorem dX8_thisMonth_0 : decode cX8_thisMonth 0 = .ok (.aload_n 0, 1) := by decide +kernel
theorem dX8_thisMonth_1 : decode cX8_thisMonth 1 = .ok (.getfield 113, 3) := by decide +kernel
theorem dX8_thisMonth_4 : decode cX8_thisMonth 4 = .ok (.bipush 30, 2) := by decide +kernel
theorem dX8_thisMonth_6 : decode cX8_thisMonth 6 = .ok (.idiv, 1) := by decide +kernel
theorem dX8_thisMonth_7 : decode cX8_thisMonth 7 = .ok (.ireturn, 1) := by decide +kernel
set_option maxRecDepth 20000 in
theorem ggX8_surveyed_X6_how : GoodIn wsX8_surveyed wsX6_how := goodIn_r _ [5, 6, 7, 20, 21, 22, 23, 24, 25] (by decide +kernel) (by decide +kernel)
set_option maxRecDepth 20000 in
theorem gX8_surveyed_X6_how_n277 : GoodIn wsX8_surveyed (wsX6_how) := ggX8_surveyed_X6_how
theorem dX8_surveyed_0 : decode cX8_surveyed 0 = .ok (.iload_n 1, 1) := by decide +kernel
theorem dX8_surveyed_1 : decode cX8_surveyed 1 = .ok (.tableswitch 95 0 5 #[39, 55, 63, 71, 79, 87], 39) := by decide +kernel
theorem dX8_surveyed_40 : decode cX8_surveyed 40 = .ok (.iload_n 2, 1) := by decide +kernel
theorem dX8_surveyed_41 : decode cX8_surveyed 41 = .ok (.ifCond .eq 13, 3) := by decide +kernel
theorem dX8_surveyed_44 : decode cX8_surveyed 44 = .ok (.aload_n 0, 1) := by decide +kernel
theorem dX8_surveyed_45 : decode cX8_surveyed 45 = .ok (.getfield 39, 3) := by decide +kernel
theorem dX8_surveyed_48 : decode cX8_surveyed 48 = .ok (.invokevirtual 277, 3) := by decide +kernel
theorem dX8_surveyed_51 : decode cX8_surveyed 51 = .ok (.goto 4, 3) := by decide +kernel
theorem dX8_surveyed_54 : decode cX8_surveyed 54 = .ok (.iconst 0, 1) := by decide +kernel
theorem dX8_surveyed_55 : decode cX8_surveyed 55 = .ok (.ireturn, 1) := by decide +kernel
theorem dX8_surveyed_56 : decode cX8_surveyed 56 = .ok (.aload_n 0, 1) := by decide +kernel
theorem dX8_surveyed_57 : decode cX8_surveyed 57 = .ok (.getfield 39, 3) := by decide +kernel
theorem dX8_surveyed_60 : decode cX8_surveyed 60 = .ok (.getfield 280, 3) := by decide +kernel
theorem dX8_surveyed_63 : decode cX8_surveyed 63 = .ok (.ireturn, 1) := by decide +kernel
theorem dX8_surveyed_64 : decode cX8_surveyed 64 = .ok (.aload_n 0, 1) := by decide +kernel
theorem dX8_surveyed_65 : decode cX8_surveyed 65 = .ok (.getfield 39, 3) := by decide +kernel
theorem dX8_surveyed_68 : decode cX8_surveyed 68 = .ok (.getfield 283, 3) := by decide +kernel
theorem dX8_surveyed_71 : decode cX8_surveyed 71 = .ok (.ireturn, 1) := by decide +kernel
theorem dX8_surveyed_72 : decode cX8_surveyed 72 = .ok (.aload_n 0, 1) := by decide +kernel
theorem dX8_surveyed_73 : decode cX8_surveyed 73 = .ok (.getfield 39, 3) := by decide +kernel
theorem dX8_surveyed_76 : decode cX8_surveyed 76 = .ok (.getfield 286, 3) := by decide +kernel
theorem dX8_surveyed_79 : decode cX8_surveyed 79 = .ok (.ireturn, 1) := by decide +kernel
theorem dX8_surveyed_80 : decode cX8_surveyed 80 = .ok (.aload_n 0, 1) := by decide +kernel
theorem dX8_surveyed_81 : decode cX8_surveyed 81 = .ok (.getfield 39, 3) := by decide +kernel
theorem dX8_surveyed_84 : decode cX8_surveyed 84 = .ok (.getfield 289, 3) := by decide +kernel
theorem dX8_surveyed_87 : decode cX8_surveyed 87 = .ok (.ireturn, 1) := by decide +kernel
theorem dX8_surveyed_88 : decode cX8_surveyed 88 = .ok (.aload_n 0, 1) := by decide +kernel
theorem dX8_surveyed_89 : decode cX8_surveyed 89 = .ok (.getfield 39, 3) := by decide +kernel
theorem dX8_surveyed_92 : decode cX8_surveyed 92 = .ok (.getfield 292, 3) := by decide +kernel
theorem dX8_surveyed_95 : decode cX8_surveyed 95 = .ok (.ireturn, 1) := by decide +kernel
theorem dX8_surveyed_96 : decode cX8_surveyed 96 = .ok (.iconst (-1), 1) := by decide +kernel
theorem dX8_surveyed_97 : decode cX8_surveyed 97 = .ok (.ireturn, 1) := by decide +kernel
set_option maxRecDepth 20000 in
theorem ggX8_clashesNearby_X8_known : GoodIn wsX8_clashesNearby wsX8_known := goodIn_r _ [8, 1, 9, 28, 29, 30, 31, 32, 33, 34, 35, 36, 37, 38, 39] (by decide +kernel) (by decide +kernel)
set_option maxRecDepth 20000 in
theorem gX8_clashesNearby_X8_known : GoodIn wsX8_clashesNearby (wsV RX8 69 RX8 yX8_known wsX8_known) := goodIn_app (goodIn_of _ (by decide +kernel)) ggX8_clashesNearby_X8_known
set_option maxRecDepth 20000 in
theorem ggX8_clashesNearby_X1_isNear : GoodIn wsX8_clashesNearby wsX1_isNear := goodIn_r _ [13, 14, 15, 16, 7, 17, 40, 41, 42, 43, 44, 45, 46, 47, 48] (by decide +kernel) (by decide +kernel)
set_option maxRecDepth 20000 in
theorem gX8_clashesNearby_X1_isNear_n295 : GoodIn wsX8_clashesNearby (wsX1_isNear) := ggX8_clashesNearby_X1_isNear
set_option maxRecDepth 20000 in
theorem ggX8_clashesNearby_X3_matches : GoodIn wsX8_clashesNearby wsX3_matches := goodIn_r _ [21, 22, 23, 24, 25, 19, 26, 27, 49, 50] (by decide +kernel) (by decide +kernel)
set_option maxRecDepth 20000 in
theorem gX8_clashesNearby_X3_matches_n178 : GoodIn wsX8_clashesNearby (wsX3_matches) := ggX8_clashesNearby_X3_matches
theorem dX8_clashesNearby_0 : decode cX8_clashesNearby 0 = .ok (.iconst 0, 1) := by decide +kernel
theorem dX8_clashesNearby_1 : decode cX8_clashesNearby 1 = .ok (.istore_n 3, 1) := by decide +kernel
theorem dX8_clashesNearby_2 : decode cX8_clashesNearby 2 = .ok (.iload_n 3, 1) := by decide +kernel
theorem dX8_clashesNearby_3 : decode cX8_clashesNearby 3 = .ok (.aload_n 0, 1) := by decide +kernel
theorem dX8_clashesNearby_4 : decode cX8_clashesNearby 4 = .ok (.getfield 62, 3) := by decide +kernel
theorem dX8_clashesNearby_7 : decode cX8_clashesNearby 7 = .ok (.if_icmp .ge 56, 3) := by decide +kernel
theorem dX8_clashesNearby_10 : decode cX8_clashesNearby 10 = .ok (.aload_n 0, 1) := by decide +kernel
theorem dX8_clashesNearby_11 : decode cX8_clashesNearby 11 = .ok (.iload_n 3, 1) := by decide +kernel
theorem dX8_clashesNearby_12 : decode cX8_clashesNearby 12 = .ok (.invokevirtual 69, 3) := by decide +kernel
theorem dX8_clashesNearby_15 : decode cX8_clashesNearby 15 = .ok (.astore 4, 2) := by decide +kernel
theorem dX8_clashesNearby_17 : decode cX8_clashesNearby 17 = .ok (.iload_n 3, 1) := by decide +kernel
theorem dX8_clashesNearby_18 : decode cX8_clashesNearby 18 = .ok (.iload_n 1, 1) := by decide +kernel
theorem dX8_clashesNearby_19 : decode cX8_clashesNearby 19 = .ok (.if_icmp .eq 38, 3) := by decide +kernel
theorem dX8_clashesNearby_22 : decode cX8_clashesNearby 22 = .ok (.aload 4, 2) := by decide +kernel
theorem dX8_clashesNearby_24 : decode cX8_clashesNearby 24 = .ok (.ifnull 33, 3) := by decide +kernel
theorem dX8_clashesNearby_27 : decode cX8_clashesNearby 27 = .ok (.aload_n 2, 1) := by decide +kernel
theorem dX8_clashesNearby_28 : decode cX8_clashesNearby 28 = .ok (.aload 4, 2) := by decide +kernel
theorem dX8_clashesNearby_30 : decode cX8_clashesNearby 30 = .ok (.aload_n 0, 1) := by decide +kernel
theorem dX8_clashesNearby_31 : decode cX8_clashesNearby 31 = .ok (.getfield 171, 3) := by decide +kernel
theorem dX8_clashesNearby_34 : decode cX8_clashesNearby 34 = .ok (.invokevirtual 295, 3) := by decide +kernel
theorem dX8_clashesNearby_37 : decode cX8_clashesNearby 37 = .ok (.ifCond .eq 20, 3) := by decide +kernel
theorem dX8_clashesNearby_40 : decode cX8_clashesNearby 40 = .ok (.aload_n 0, 1) := by decide +kernel
theorem dX8_clashesNearby_41 : decode cX8_clashesNearby 41 = .ok (.getfield 46, 3) := by decide +kernel
theorem dX8_clashesNearby_44 : decode cX8_clashesNearby 44 = .ok (.aload 4, 2) := by decide +kernel
theorem dX8_clashesNearby_46 : decode cX8_clashesNearby 46 = .ok (.getfield 150, 3) := by decide +kernel
theorem dX8_clashesNearby_49 : decode cX8_clashesNearby 49 = .ok (.invokevirtual 178, 3) := by decide +kernel
theorem dX8_clashesNearby_52 : decode cX8_clashesNearby 52 = .ok (.ifCond .eq 5, 3) := by decide +kernel
theorem dX8_clashesNearby_55 : decode cX8_clashesNearby 55 = .ok (.iconst 1, 1) := by decide +kernel
theorem dX8_clashesNearby_56 : decode cX8_clashesNearby 56 = .ok (.ireturn, 1) := by decide +kernel
theorem dX8_clashesNearby_57 : decode cX8_clashesNearby 57 = .ok (.iinc 3 1, 3) := by decide +kernel
theorem dX8_clashesNearby_60 : decode cX8_clashesNearby 60 = .ok (.goto (-58), 3) := by decide +kernel
theorem dX8_clashesNearby_63 : decode cX8_clashesNearby 63 = .ok (.iconst 0, 1) := by decide +kernel
theorem dX8_clashesNearby_64 : decode cX8_clashesNearby 64 = .ok (.ireturn, 1) := by decide +kernel
set_option maxRecDepth 20000 in
theorem ggX8_clashesWithin_X8_known : GoodIn wsX8_clashesWithin wsX8_known := goodIn_r _ [6, 1, 7, 26, 27, 28, 29, 30, 31, 32, 33, 34, 35, 36, 37] (by decide +kernel) (by decide +kernel)
set_option maxRecDepth 20000 in
theorem gX8_clashesWithin_X8_known : GoodIn wsX8_clashesWithin (wsV RX8 69 RX8 yX8_known wsX8_known) := goodIn_app (goodIn_of _ (by decide +kernel)) ggX8_clashesWithin_X8_known
set_option maxRecDepth 20000 in
theorem ggX8_clashesWithin_X1_isNear : GoodIn wsX8_clashesWithin wsX1_isNear := goodIn_r _ [11, 12, 13, 14, 5, 15, 38, 39, 40, 41, 42, 43, 44, 45, 46] (by decide +kernel) (by decide +kernel)
set_option maxRecDepth 20000 in
theorem gX8_clashesWithin_X1_isNear_n295 : GoodIn wsX8_clashesWithin (wsX1_isNear) := ggX8_clashesWithin_X1_isNear
set_option maxRecDepth 20000 in
theorem ggX8_clashesWithin_X3_matches : GoodIn wsX8_clashesWithin wsX3_matches := goodIn_r _ [19, 20, 21, 22, 23, 17, 24, 25, 47, 48] (by decide +kernel) (by decide +kernel)
set_option maxRecDepth 20000 in
theorem gX8_clashesWithin_X3_matches_n178 : GoodIn wsX8_clashesWithin (wsX3_matches) := ggX8_clashesWithin_X3_matches
theorem dX8_clashesWithin_0 : decode cX8_clashesWithin 0 = .ok (.iconst 0, 1) := by decide +kernel
theorem dX8_clashesWithin_1 : decode cX8_clashesWithin 1 = .ok (.istore_n 2, 1) := by decide +kernel
theorem dX8_clashesWithin_2 : decode cX8_clashesWithin 2 = .ok (.iload_n 2, 1) := by decide +kernel
theorem dX8_clashesWithin_3 : decode cX8_clashesWithin 3 = .ok (.aload_n 0, 1) := by decide +kernel
theorem dX8_clashesWithin_4 : decode cX8_clashesWithin 4 = .ok (.getfield 62, 3) := by decide +kernel
theorem dX8_clashesWithin_7 : decode cX8_clashesWithin 7 = .ok (.if_icmp .ge 80, 3) := by decide +kernel
theorem dX8_clashesWithin_10 : decode cX8_clashesWithin 10 = .ok (.iload_n 2, 1) := by decide +kernel
theorem dX8_clashesWithin_11 : decode cX8_clashesWithin 11 = .ok (.iconst 1, 1) := by decide +kernel
theorem dX8_clashesWithin_12 : decode cX8_clashesWithin 12 = .ok (.iadd, 1) := by decide +kernel
theorem dX8_clashesWithin_13 : decode cX8_clashesWithin 13 = .ok (.istore_n 3, 1) := by decide +kernel
theorem dX8_clashesWithin_14 : decode cX8_clashesWithin 14 = .ok (.iload_n 3, 1) := by decide +kernel
theorem dX8_clashesWithin_15 : decode cX8_clashesWithin 15 = .ok (.aload_n 0, 1) := by decide +kernel
theorem dX8_clashesWithin_16 : decode cX8_clashesWithin 16 = .ok (.getfield 62, 3) := by decide +kernel
theorem dX8_clashesWithin_19 : decode cX8_clashesWithin 19 = .ok (.if_icmp .ge 62, 3) := by decide +kernel
theorem dX8_clashesWithin_22 : decode cX8_clashesWithin 22 = .ok (.aload_n 0, 1) := by decide +kernel
theorem dX8_clashesWithin_23 : decode cX8_clashesWithin 23 = .ok (.iload_n 2, 1) := by decide +kernel
theorem dX8_clashesWithin_24 : decode cX8_clashesWithin 24 = .ok (.invokevirtual 69, 3) := by decide +kernel
theorem dX8_clashesWithin_27 : decode cX8_clashesWithin 27 = .ok (.astore 4, 2) := by decide +kernel
theorem dX8_clashesWithin_29 : decode cX8_clashesWithin 29 = .ok (.aload_n 0, 1) := by decide +kernel
theorem dX8_clashesWithin_30 : decode cX8_clashesWithin 30 = .ok (.iload_n 3, 1) := by decide +kernel
theorem dX8_clashesWithin_31 : decode cX8_clashesWithin 31 = .ok (.invokevirtual 69, 3) := by decide +kernel
theorem dX8_clashesWithin_34 : decode cX8_clashesWithin 34 = .ok (.astore 5, 2) := by decide +kernel
theorem dX8_clashesWithin_36 : decode cX8_clashesWithin 36 = .ok (.aload 4, 2) := by decide +kernel
theorem dX8_clashesWithin_38 : decode cX8_clashesWithin 38 = .ok (.ifnull 37, 3) := by decide +kernel
theorem dX8_clashesWithin_41 : decode cX8_clashesWithin 41 = .ok (.aload 5, 2) := by decide +kernel
theorem dX8_clashesWithin_43 : decode cX8_clashesWithin 43 = .ok (.ifnull 32, 3) := by decide +kernel
theorem dX8_clashesWithin_46 : decode cX8_clashesWithin 46 = .ok (.aload 4, 2) := by decide +kernel
theorem dX8_clashesWithin_48 : decode cX8_clashesWithin 48 = .ok (.aload 5, 2) := by decide +kernel
theorem dX8_clashesWithin_50 : decode cX8_clashesWithin 50 = .ok (.iload_n 1, 1) := by decide +kernel
theorem dX8_clashesWithin_51 : decode cX8_clashesWithin 51 = .ok (.invokevirtual 295, 3) := by decide +kernel
theorem dX8_clashesWithin_54 : decode cX8_clashesWithin 54 = .ok (.ifCond .eq 21, 3) := by decide +kernel
theorem dX8_clashesWithin_57 : decode cX8_clashesWithin 57 = .ok (.aload 4, 2) := by decide +kernel
theorem dX8_clashesWithin_59 : decode cX8_clashesWithin 59 = .ok (.getfield 150, 3) := by decide +kernel
theorem dX8_clashesWithin_62 : decode cX8_clashesWithin 62 = .ok (.aload 5, 2) := by decide +kernel
theorem dX8_clashesWithin_64 : decode cX8_clashesWithin 64 = .ok (.getfield 150, 3) := by decide +kernel
theorem dX8_clashesWithin_67 : decode cX8_clashesWithin 67 = .ok (.invokevirtual 178, 3) := by decide +kernel
theorem dX8_clashesWithin_70 : decode cX8_clashesWithin 70 = .ok (.ifCond .eq 5, 3) := by decide +kernel
theorem dX8_clashesWithin_73 : decode cX8_clashesWithin 73 = .ok (.iconst 1, 1) := by decide +kernel
theorem dX8_clashesWithin_74 : decode cX8_clashesWithin 74 = .ok (.ireturn, 1) := by decide +kernel
theorem dX8_clashesWithin_75 : decode cX8_clashesWithin 75 = .ok (.iinc 3 1, 3) := by decide +kernel
theorem dX8_clashesWithin_78 : decode cX8_clashesWithin 78 = .ok (.goto (-64), 3) := by decide +kernel
theorem dX8_clashesWithin_81 : decode cX8_clashesWithin 81 = .ok (.iinc 2 1, 3) := by decide +kernel
theorem dX8_clashesWithin_84 : decode cX8_clashesWithin 84 = .ok (.goto (-82), 3) := by decide +kernel
theorem dX8_clashesWithin_87 : decode cX8_clashesWithin 87 = .ok (.iconst 0, 1) := by decide +kernel
theorem dX8_clashesWithin_88 : decode cX8_clashesWithin 88 = .ok (.ireturn, 1) := by decide +kernel
set_option maxRecDepth 20000 in
theorem ggX8_jobCount_X8_known : GoodIn wsX8_jobCount wsX8_known := goodIn_r _ [6, 1, 7, 8, 9, 10, 11, 12, 13, 14, 15, 16, 17, 18, 19] (by decide +kernel) (by decide +kernel)
set_option maxRecDepth 20000 in
theorem gX8_jobCount_X8_known : GoodIn wsX8_jobCount (wsV RX8 69 RX8 yX8_known wsX8_known) := goodIn_app (goodIn_of _ (by decide +kernel)) ggX8_jobCount_X8_known
theorem dX8_jobCount_0 : decode cX8_jobCount 0 = .ok (.iconst 0, 1) := by decide +kernel
theorem dX8_jobCount_1 : decode cX8_jobCount 1 = .ok (.istore_n 1, 1) := by decide +kernel
theorem dX8_jobCount_2 : decode cX8_jobCount 2 = .ok (.iconst 0, 1) := by decide +kernel
theorem dX8_jobCount_3 : decode cX8_jobCount 3 = .ok (.istore_n 2, 1) := by decide +kernel
theorem dX8_jobCount_4 : decode cX8_jobCount 4 = .ok (.iload_n 2, 1) := by decide +kernel
theorem dX8_jobCount_5 : decode cX8_jobCount 5 = .ok (.aload_n 0, 1) := by decide +kernel
theorem dX8_jobCount_6 : decode cX8_jobCount 6 = .ok (.getfield 62, 3) := by decide +kernel
theorem dX8_jobCount_9 : decode cX8_jobCount 9 = .ok (.if_icmp .ge 29, 3) := by decide +kernel
theorem dX8_jobCount_12 : decode cX8_jobCount 12 = .ok (.aload_n 0, 1) := by decide +kernel
theorem dX8_jobCount_13 : decode cX8_jobCount 13 = .ok (.iload_n 2, 1) := by decide +kernel
theorem dX8_jobCount_14 : decode cX8_jobCount 14 = .ok (.invokevirtual 69, 3) := by decide +kernel
theorem dX8_jobCount_17 : decode cX8_jobCount 17 = .ok (.astore_n 3, 1) := by decide +kernel
theorem dX8_jobCount_18 : decode cX8_jobCount 18 = .ok (.aload_n 3, 1) := by decide +kernel
theorem dX8_jobCount_19 : decode cX8_jobCount 19 = .ok (.ifnull 13, 3) := by decide +kernel
theorem dX8_jobCount_22 : decode cX8_jobCount 22 = .ok (.aload_n 3, 1) := by decide +kernel
theorem dX8_jobCount_23 : decode cX8_jobCount 23 = .ok (.getfield 217, 3) := by decide +kernel
theorem dX8_jobCount_26 : decode cX8_jobCount 26 = .ok (.ifCond .le 6, 3) := by decide +kernel
theorem dX8_jobCount_29 : decode cX8_jobCount 29 = .ok (.iinc 1 1, 3) := by decide +kernel
theorem dX8_jobCount_32 : decode cX8_jobCount 32 = .ok (.iinc 2 1, 3) := by decide +kernel
theorem dX8_jobCount_35 : decode cX8_jobCount 35 = .ok (.goto (-31), 3) := by decide +kernel
theorem dX8_jobCount_38 : decode cX8_jobCount 38 = .ok (.iload_n 1, 1) := by decide +kernel
theorem dX8_jobCount_39 : decode cX8_jobCount 39 = .ok (.ireturn, 1) := by decide +kernel
theorem dX9_init_0 : decode cX9_init 0 = .ok (.aload_n 0, 1) := by decide +kernel
theorem dX9_init_1 : decode cX9_init 1 = .ok (.invokespecial 1, 3) := by decide +kernel
theorem dX9_init_4 : decode cX9_init 4 = .ok (.aload_n 0, 1) := by decide +kernel
theorem dX9_init_5 : decode cX9_init 5 = .ok (.sipush 1600, 3) := by decide +kernel
theorem dX9_init_8 : decode cX9_init 8 = .ok (.newarray .int, 2) := by decide +kernel
theorem dX9_init_10 : decode cX9_init 10 = .ok (.putfield 7, 3) := by decide +kernel
theorem dX9_init_13 : decode cX9_init 13 = .ok (.aload_n 0, 1) := by decide +kernel
theorem dX9_init_14 : decode cX9_init 14 = .ok (.bipush 10, 2) := by decide +kernel
theorem dX9_init_16 : decode cX9_init 16 = .ok (.newarray .int, 2) := by decide +kernel
theorem dX9_init_18 : decode cX9_init 18 = .ok (.putfield 13, 3) := by decide +kernel
theorem dX9_init_21 : decode cX9_init 21 = .ok (.aload_n 0, 1) := by decide +kernel
theorem dX9_init_22 : decode cX9_init 22 = .ok (.bipush 10, 2) := by decide +kernel
theorem dX9_init_24 : decode cX9_init 24 = .ok (.newarray .int, 2) := by decide +kernel
theorem dX9_init_26 : decode cX9_init 26 = .ok (.putfield 16, 3) := by decide +kernel
theorem dX9_init_29 : decode cX9_init 29 = .ok (.aload_n 0, 1) := by decide +kernel
theorem dX9_init_30 : decode cX9_init 30 = .ok (.bipush 10, 2) := by decide +kernel
theorem dX9_init_32 : decode cX9_init 32 = .ok (.newarray .int, 2) := by decide +kernel
theorem dX9_init_34 : decode cX9_init 34 = .ok (.putfield 19, 3) := by decide +kernel
theorem dX9_init_37 : decode cX9_init 37 = .ok (.aload_n 0, 1) := by decide +kernel
theorem dX9_init_38 : decode cX9_init 38 = .ok (.sipush 16000, 3) := by decide +kernel
theorem dX9_init_41 : decode cX9_init 41 = .ok (.newarray .boolean, 2) := by decide +kernel
theorem dX9_init_43 : decode cX9_init 43 = .ok (.putfield 22, 3) := by decide +kernel
theorem dX9_init_46 : decode cX9_init 46 = .ok (.aload_n 0, 1) := by decide +kernel
theorem dX9_init_47 : decode cX9_init 47 = .ok (.bipush 10, 2) := by decide +kernel
theorem dX9_init_49 : decode cX9_init 49 = .ok (.newarray .boolean, 2) := by decide +kernel
theorem dX9_init_51 : decode cX9_init 51 = .ok (.putfield 26, 3) := by decide +kernel
theorem dX9_init_54 : decode cX9_init 54 = .ok (.aload_n 0, 1) := by decide +kernel
theorem dX9_init_55 : decode cX9_init 55 = .ok (.bipush 10, 2) := by decide +kernel
theorem dX9_init_57 : decode cX9_init 57 = .ok (.newarray .int, 2) := by decide +kernel
theorem dX9_init_59 : decode cX9_init 59 = .ok (.dup, 1) := by decide +kernel
theorem dX9_init_60 : decode cX9_init 60 = .ok (.iconst 0, 1) := by decide +kernel
theorem dX9_init_61 : decode cX9_init 61 = .ok (.iconst (-1), 1) := by decide +kernel
theorem dX9_init_62 : decode cX9_init 62 = .ok (.iastore, 1) := by decide +kernel
theorem dX9_init_63 : decode cX9_init 63 = .ok (.dup, 1) := by decide +kernel
theorem dX9_init_64 : decode cX9_init 64 = .ok (.iconst 1, 1) := by decide +kernel
theorem dX9_init_65 : decode cX9_init 65 = .ok (.iconst (-1), 1) := by decide +kernel
theorem dX9_init_66 : decode cX9_init 66 = .ok (.iastore, 1) := by decide +kernel
theorem dX9_init_67 : decode cX9_init 67 = .ok (.dup, 1) := by decide +kernel
theorem dX9_init_68 : decode cX9_init 68 = .ok (.iconst 2, 1) := by decide +kernel
theorem dX9_init_69 : decode cX9_init 69 = .ok (.iconst (-1), 1) := by decide +kernel
theorem dX9_init_70 : decode cX9_init 70 = .ok (.iastore, 1) := by decide +kernel
theorem dX9_init_71 : decode cX9_init 71 = .ok (.dup, 1) := by decide +kernel
theorem dX9_init_72 : decode cX9_init 72 = .ok (.iconst 3, 1) := by decide +kernel
theorem dX9_init_73 : decode cX9_init 73 = .ok (.iconst (-1), 1) := by decide +kernel
theorem dX9_init_74 : decode cX9_init 74 = .ok (.iastore, 1) := by decide +kernel
theorem dX9_init_75 : decode cX9_init 75 = .ok (.dup, 1) := by decide +kernel
theorem dX9_init_76 : decode cX9_init 76 = .ok (.iconst 4, 1) := by decide +kernel
theorem dX9_init_77 : decode cX9_init 77 = .ok (.iconst (-1), 1) := by decide +kernel
theorem dX9_init_78 : decode cX9_init 78 = .ok (.iastore, 1) := by decide +kernel
theorem dX9_init_79 : decode cX9_init 79 = .ok (.dup, 1) := by decide +kernel
theorem dX9_init_80 : decode cX9_init 80 = .ok (.iconst 5, 1) := by decide +kernel
theorem dX9_init_81 : decode cX9_init 81 = .ok (.iconst (-1), 1) := by decide +kernel
theorem dX9_init_82 : decode cX9_init 82 = .ok (.iastore, 1) := by decide +kernel
theorem dX9_init_83 : decode cX9_init 83 = .ok (.dup, 1) := by decide +kernel
theorem dX9_init_84 : decode cX9_init 84 = .ok (.bipush 6, 2) := by decide +kernel
theorem dX9_init_86 : decode cX9_init 86 = .ok (.iconst (-1), 1) := by decide +kernel
theorem dX9_init_87 : decode cX9_init 87 = .ok (.iastore, 1) := by decide +kernel
theorem dX9_init_88 : decode cX9_init 88 = .ok (.dup, 1) := by decide +kernel
theorem dX9_init_89 : decode cX9_init 89 = .ok (.bipush 7, 2) := by decide +kernel
theorem dX9_init_91 : decode cX9_init 91 = .ok (.iconst (-1), 1) := by decide +kernel
theorem dX9_init_92 : decode cX9_init 92 = .ok (.iastore, 1) := by decide +kernel
theorem dX9_init_93 : decode cX9_init 93 = .ok (.dup, 1) := by decide +kernel
theorem dX9_init_94 : decode cX9_init 94 = .ok (.bipush 8, 2) := by decide +kernel
theorem dX9_init_96 : decode cX9_init 96 = .ok (.iconst (-1), 1) := by decide +kernel
theorem dX9_init_97 : decode cX9_init 97 = .ok (.iastore, 1) := by decide +kernel
theorem dX9_init_98 : decode cX9_init 98 = .ok (.dup, 1) := by decide +kernel
theorem dX9_init_99 : decode cX9_init 99 = .ok (.bipush 9, 2) := by decide +kernel
end
section
theorem dX9_init_101 : decode cX9_init 101 = .ok (.iconst (-1), 1) := by decide +kernel
theorem dX9_init_102 : decode cX9_init 102 = .ok (.iastore, 1) := by decide +kernel
theorem dX9_init_103 : decode cX9_init 103 = .ok (.putfield 29, 3) := by decide +kernel
theorem dX9_init_106 : decode cX9_init 106 = .ok (.aload_n 0, 1) := by decide +kernel
theorem dX9_init_107 : decode cX9_init 107 = .ok (.bipush 10, 2) := by decide +kernel
theorem dX9_init_109 : decode cX9_init 109 = .ok (.newarray .int, 2) := by decide +kernel
theorem dX9_init_111 : decode cX9_init 111 = .ok (.putfield 32, 3) := by decide +kernel
theorem dX9_init_114 : decode cX9_init 114 = .ok (.aload_n 0, 1) := by decide +kernel
theorem dX9_init_115 : decode cX9_init 115 = .ok (.bipush 10, 2) := by decide +kernel
theorem dX9_init_117 : decode cX9_init 117 = .ok (.newarray .int, 2) := by decide +kernel
theorem dX9_init_119 : decode cX9_init 119 = .ok (.putfield 35, 3) := by decide +kernel
theorem dX9_init_122 : decode cX9_init 122 = .ok (.aload_n 0, 1) := by decide +kernel
theorem dX9_init_123 : decode cX9_init 123 = .ok (.bipush 10, 2) := by decide +kernel
theorem dX9_init_125 : decode cX9_init 125 = .ok (.newarray .int, 2) := by decide +kernel
theorem dX9_init_127 : decode cX9_init 127 = .ok (.putfield 38, 3) := by decide +kernel
theorem dX9_init_130 : decode cX9_init 130 = .ok (.aload_n 0, 1) := by decide +kernel
theorem dX9_init_131 : decode cX9_init 131 = .ok (.bipush 48, 2) := by decide +kernel
theorem dX9_init_133 : decode cX9_init 133 = .ok (.newarray .int, 2) := by decide +kernel
theorem dX9_init_135 : decode cX9_init 135 = .ok (.putfield 41, 3) := by decide +kernel
theorem dX9_init_138 : decode cX9_init 138 = .ok (.aload_n 0, 1) := by decide +kernel
theorem dX9_init_139 : decode cX9_init 139 = .ok (.bipush 10, 2) := by decide +kernel
theorem dX9_init_141 : decode cX9_init 141 = .ok (.newarray .int, 2) := by decide +kernel
theorem dX9_init_143 : decode cX9_init 143 = .ok (.putfield 44, 3) := by decide +kernel
theorem dX9_init_146 : decode cX9_init 146 = .ok (.aload_n 0, 1) := by decide +kernel
theorem dX9_init_147 : decode cX9_init 147 = .ok (.bipush 80, 2) := by decide +kernel
theorem dX9_init_149 : decode cX9_init 149 = .ok (.newarray .int, 2) := by decide +kernel
theorem dX9_init_151 : decode cX9_init 151 = .ok (.putfield 47, 3) := by decide +kernel
theorem dX9_init_154 : decode cX9_init 154 = .ok (.aload_n 0, 1) := by decide +kernel
theorem dX9_init_155 : decode cX9_init 155 = .ok (.bipush 100, 2) := by decide +kernel
theorem dX9_init_157 : decode cX9_init 157 = .ok (.newarray .int, 2) := by decide +kernel
theorem dX9_init_159 : decode cX9_init 159 = .ok (.putfield 50, 3) := by decide +kernel
theorem dX9_init_162 : decode cX9_init 162 = .ok (.aload_n 0, 1) := by decide +kernel
theorem dX9_init_163 : decode cX9_init 163 = .ok (.bipush 100, 2) := by decide +kernel
theorem dX9_init_165 : decode cX9_init 165 = .ok (.newarray .int, 2) := by decide +kernel
theorem dX9_init_167 : decode cX9_init 167 = .ok (.putfield 53, 3) := by decide +kernel
theorem dX9_init_170 : decode cX9_init 170 = .ok (.aload_n 0, 1) := by decide +kernel
theorem dX9_init_171 : decode cX9_init 171 = .ok (.bipush 100, 2) := by decide +kernel
theorem dX9_init_173 : decode cX9_init 173 = .ok (.newarray .int, 2) := by decide +kernel
theorem dX9_init_175 : decode cX9_init 175 = .ok (.putfield 56, 3) := by decide +kernel
theorem dX9_init_178 : decode cX9_init 178 = .ok (.aload_n 0, 1) := by decide +kernel
theorem dX9_init_179 : decode cX9_init 179 = .ok (.bipush 100, 2) := by decide +kernel
theorem dX9_init_181 : decode cX9_init 181 = .ok (.newarray .int, 2) := by decide +kernel
theorem dX9_init_183 : decode cX9_init 183 = .ok (.putfield 59, 3) := by decide +kernel
theorem dX9_init_186 : decode cX9_init 186 = .ok (.aload_n 0, 1) := by decide +kernel
theorem dX9_init_187 : decode cX9_init 187 = .ok (.bipush 10, 2) := by decide +kernel
theorem dX9_init_189 : decode cX9_init 189 = .ok (.newarray .int, 2) := by decide +kernel
theorem dX9_init_191 : decode cX9_init 191 = .ok (.putfield 62, 3) := by decide +kernel
theorem dX9_init_194 : decode cX9_init 194 = .ok (.aload_n 0, 1) := by decide +kernel
theorem dX9_init_195 : decode cX9_init 195 = .ok (.bipush 10, 2) := by decide +kernel
theorem dX9_init_197 : decode cX9_init 197 = .ok (.newarray .int, 2) := by decide +kernel
theorem dX9_init_199 : decode cX9_init 199 = .ok (.putfield 65, 3) := by decide +kernel
theorem dX9_init_202 : decode cX9_init 202 = .ok (.aload_n 0, 1) := by decide +kernel
theorem dX9_init_203 : decode cX9_init 203 = .ok (.bipush 10, 2) := by decide +kernel
theorem dX9_init_205 : decode cX9_init 205 = .ok (.newarray .int, 2) := by decide +kernel
theorem dX9_init_207 : decode cX9_init 207 = .ok (.putfield 68, 3) := by decide +kernel
theorem dX9_init_210 : decode cX9_init 210 = .ok (.aload_n 0, 1) := by decide +kernel
theorem dX9_init_211 : decode cX9_init 211 = .ok (.bipush 24, 2) := by decide +kernel
theorem dX9_init_213 : decode cX9_init 213 = .ok (.newarray .int, 2) := by decide +kernel
theorem dX9_init_215 : decode cX9_init 215 = .ok (.putfield 71, 3) := by decide +kernel
theorem dX9_init_218 : decode cX9_init 218 = .ok (.aload_n 0, 1) := by decide +kernel
theorem dX9_init_219 : decode cX9_init 219 = .ok (.bipush 24, 2) := by decide +kernel
theorem dX9_init_221 : decode cX9_init 221 = .ok (.newarray .int, 2) := by decide +kernel
theorem dX9_init_223 : decode cX9_init 223 = .ok (.putfield 74, 3) := by decide +kernel
theorem dX9_init_226 : decode cX9_init 226 = .ok (.aload_n 0, 1) := by decide +kernel
theorem dX9_init_227 : decode cX9_init 227 = .ok (.iconst 1, 1) := by decide +kernel
theorem dX9_init_228 : decode cX9_init 228 = .ok (.putfield 77, 3) := by decide +kernel
theorem dX9_init_231 : decode cX9_init 231 = .ok (.aload_n 0, 1) := by decide +kernel
theorem dX9_init_232 : decode cX9_init 232 = .ok (.bipush 12, 2) := by decide +kernel
theorem dX9_init_234 : decode cX9_init 234 = .ok (.putfield 81, 3) := by decide +kernel
theorem dX9_init_237 : decode cX9_init 237 = .ok (.aload_n 0, 1) := by decide +kernel
theorem dX9_init_238 : decode cX9_init 238 = .ok (.sipush 1440, 3) := by decide +kernel
theorem dX9_init_241 : decode cX9_init 241 = .ok (.putfield 84, 3) := by decide +kernel
theorem dX9_init_244 : decode cX9_init 244 = .ok (.aload_n 0, 1) := by decide +kernel
theorem dX9_init_245 : decode cX9_init 245 = .ok (.bipush 8, 2) := by decide +kernel
theorem dX9_init_247 : decode cX9_init 247 = .ok (.newarray .int, 2) := by decide +kernel
theorem dX9_init_249 : decode cX9_init 249 = .ok (.putfield 87, 3) := by decide +kernel
theorem dX9_init_252 : decode cX9_init 252 = .ok (.aload_n 0, 1) := by decide +kernel
theorem dX9_init_253 : decode cX9_init 253 = .ok (.sipush 10240, 3) := by decide +kernel
theorem dX9_init_256 : decode cX9_init 256 = .ok (.newarray .int, 2) := by decide +kernel
theorem dX9_init_258 : decode cX9_init 258 = .ok (.putfield 90, 3) := by decide +kernel
theorem dX9_init_261 : decode cX9_init 261 = .ok (.aload_n 0, 1) := by decide +kernel
theorem dX9_init_262 : decode cX9_init 262 = .ok (.bipush 10, 2) := by decide +kernel
theorem dX9_init_264 : decode cX9_init 264 = .ok (.newarray .int, 2) := by decide +kernel
theorem dX9_init_266 : decode cX9_init 266 = .ok (.putfield 93, 3) := by decide +kernel
theorem dX9_init_269 : decode cX9_init 269 = .ok (.aload_n 0, 1) := by decide +kernel
theorem dX9_init_270 : decode cX9_init 270 = .ok (.bipush 10, 2) := by decide +kernel
theorem dX9_init_272 : decode cX9_init 272 = .ok (.newarray .int, 2) := by decide +kernel
theorem dX9_init_274 : decode cX9_init 274 = .ok (.putfield 96, 3) := by decide +kernel
theorem dX9_init_277 : decode cX9_init 277 = .ok (.aload_n 0, 1) := by decide +kernel
theorem dX9_init_278 : decode cX9_init 278 = .ok (.sipush 1024, 3) := by decide +kernel
theorem dX9_init_281 : decode cX9_init 281 = .ok (.newarray .int, 2) := by decide +kernel
theorem dX9_init_283 : decode cX9_init 283 = .ok (.putfield 99, 3) := by decide +kernel
theorem dX9_init_286 : decode cX9_init 286 = .ok (.aload_n 0, 1) := by decide +kernel
theorem dX9_init_287 : decode cX9_init 287 = .ok (.sipush 1024, 3) := by decide +kernel
theorem dX9_init_290 : decode cX9_init 290 = .ok (.newarray .int, 2) := by decide +kernel
theorem dX9_init_292 : decode cX9_init 292 = .ok (.putfield 102, 3) := by decide +kernel
theorem dX9_init_295 : decode cX9_init 295 = .ok (.return_, 1) := by decide +kernel
theorem dX9_in_0 : decode cX9_in 0 = .ok (.iload_n 0, 1) := by decide +kernel
theorem dX9_in_1 : decode cX9_in 1 = .ok (.iload_n 1, 1) := by decide +kernel
theorem dX9_in_2 : decode cX9_in 2 = .ok (.if_icmp .lt 12, 3) := by decide +kernel
theorem dX9_in_5 : decode cX9_in 5 = .ok (.iload_n 0, 1) := by decide +kernel
theorem dX9_in_6 : decode cX9_in 6 = .ok (.iload_n 2, 1) := by decide +kernel
theorem dX9_in_7 : decode cX9_in 7 = .ok (.if_icmp .gt 7, 3) := by decide +kernel
theorem dX9_in_10 : decode cX9_in 10 = .ok (.iconst 1, 1) := by decide +kernel
theorem dX9_in_11 : decode cX9_in 11 = .ok (.goto 4, 3) := by decide +kernel
theorem dX9_in_14 : decode cX9_in 14 = .ok (.iconst 0, 1) := by decide +kernel
theorem dX9_in_15 : decode cX9_in 15 = .ok (.ireturn, 1) := by decide +kernel
set_option maxRecDepth 20000 in
theorem ggX9_isPlace_X9_in : GoodIn wsX9_isPlace wsX9_in := goodIn_r _ [4] (by decide +kernel) (by decide +kernel)
set_option maxRecDepth 20000 in
theorem gX9_isPlace_X9_in : GoodIn wsX9_isPlace (va_wsS RX9 105 yX9_in wsX9_in) := goodIn_app (goodIn_of _ (by decide +kernel)) ggX9_isPlace_X9_in
theorem dX9_isPlace_0 : decode cX9_isPlace 0 = .ok (.iload_n 0, 1) := by decide +kernel
theorem dX9_isPlace_1 : decode cX9_isPlace 1 = .ok (.iconst 0, 1) := by decide +kernel
theorem dX9_isPlace_2 : decode cX9_isPlace 2 = .ok (.bipush 39, 2) := by decide +kernel
theorem dX9_isPlace_4 : decode cX9_isPlace 4 = .ok (.invokestatic 105, 3) := by decide +kernel
theorem dX9_isPlace_7 : decode cX9_isPlace 7 = .ok (.ifCond .eq 17, 3) := by decide +kernel
theorem dX9_isPlace_10 : decode cX9_isPlace 10 = .ok (.iload_n 1, 1) := by decide +kernel
theorem dX9_isPlace_11 : decode cX9_isPlace 11 = .ok (.iconst 0, 1) := by decide +kernel
theorem dX9_isPlace_12 : decode cX9_isPlace 12 = .ok (.bipush 39, 2) := by decide +kernel
theorem dX9_isPlace_14 : decode cX9_isPlace 14 = .ok (.invokestatic 105, 3) := by decide +kernel
theorem dX9_isPlace_17 : decode cX9_isPlace 17 = .ok (.ifCond .eq 7, 3) := by decide +kernel
theorem dX9_isPlace_20 : decode cX9_isPlace 20 = .ok (.iconst 1, 1) := by decide +kernel
theorem dX9_isPlace_21 : decode cX9_isPlace 21 = .ok (.goto 4, 3) := by decide +kernel
theorem dX9_isPlace_24 : decode cX9_isPlace 24 = .ok (.iconst 0, 1) := by decide +kernel
theorem dX9_isPlace_25 : decode cX9_isPlace 25 = .ok (.ireturn, 1) := by decide +kernel
set_option maxRecDepth 20000 in
theorem ggX9_isMark_X9_in : GoodIn wsX9_isMark wsX9_in := goodIn_r _ [5] (by decide +kernel) (by decide +kernel)
set_option maxRecDepth 20000 in
theorem gX9_isMark_X9_in : GoodIn wsX9_isMark (va_wsS RX9 105 yX9_in wsX9_in) := goodIn_app (goodIn_of _ (by decide +kernel)) ggX9_isMark_X9_in
theorem dX9_isMark_0 : decode cX9_isMark 0 = .ok (.iload_n 1, 1) := by decide +kernel
theorem dX9_isMark_1 : decode cX9_isMark 1 = .ok (.iconst 0, 1) := by decide +kernel
theorem dX9_isMark_2 : decode cX9_isMark 2 = .ok (.aload_n 0, 1) := by decide +kernel
theorem dX9_isMark_3 : decode cX9_isMark 3 = .ok (.getfield 109, 3) := by decide +kernel
theorem dX9_isMark_6 : decode cX9_isMark 6 = .ok (.iconst 1, 1) := by decide +kernel
theorem dX9_isMark_7 : decode cX9_isMark 7 = .ok (.isub, 1) := by decide +kernel
theorem dX9_isMark_8 : decode cX9_isMark 8 = .ok (.invokestatic 105, 3) := by decide +kernel
theorem dX9_isMark_11 : decode cX9_isMark 11 = .ok (.ireturn, 1) := by decide +kernel
set_option maxRecDepth 20000 in
theorem ggX9_depth_X9_isPlace : GoodIn wsX9_depth wsX9_isPlace := goodIn_r _ [6, 7, 8, 5, 9] (by decide +kernel) (by decide +kernel)
set_option maxRecDepth 20000 in
theorem gX9_depth_X9_isPlace : GoodIn wsX9_depth (va_wsS RX9 112 yX9_isPlace wsX9_isPlace) := goodIn_app (goodIn_of _ (by decide +kernel)) ggX9_depth_X9_isPlace
set_option maxRecDepth 20000 in
theorem ggX9_depth_X9_in : GoodIn wsX9_depth wsX9_in := goodIn_r _ [9] (by decide +kernel) (by decide +kernel)
set_option maxRecDepth 20000 in
theorem gX9_depth_X9_in : GoodIn wsX9_depth (va_wsS RX9 105 yX9_in wsX9_in) := goodIn_app (goodIn_of _ (by decide +kernel)) ggX9_depth_X9_in
theorem dX9_depth_0 : decode cX9_depth 0 = .ok (.iload_n 1, 1) := by decide +kernel
theorem dX9_depth_1 : decode cX9_depth 1 = .ok (.iload_n 2, 1) := by decide +kernel
theorem dX9_depth_2 : decode cX9_depth 2 = .ok (.invokestatic 112, 3) := by decide +kernel
theorem dX9_depth_5 : decode cX9_depth 5 = .ok (.ifCond .eq 35, 3) := by decide +kernel
theorem dX9_depth_8 : decode cX9_depth 8 = .ok (.iload_n 3, 1) := by decide +kernel
theorem dX9_depth_9 : decode cX9_depth 9 = .ok (.iload 4, 2) := by decide +kernel
theorem dX9_depth_11 : decode cX9_depth 11 = .ok (.invokestatic 112, 3) := by decide +kernel
theorem dX9_depth_14 : decode cX9_depth 14 = .ok (.ifCond .eq 26, 3) := by decide +kernel
theorem dX9_depth_17 : decode cX9_depth 17 = .ok (.iload_n 1, 1) := by decide +kernel
theorem dX9_depth_18 : decode cX9_depth 18 = .ok (.iload_n 3, 1) := by decide +kernel
theorem dX9_depth_19 : decode cX9_depth 19 = .ok (.if_icmp .gt 21, 3) := by decide +kernel
theorem dX9_depth_22 : decode cX9_depth 22 = .ok (.iload_n 2, 1) := by decide +kernel
theorem dX9_depth_23 : decode cX9_depth 23 = .ok (.iload 4, 2) := by decide +kernel
theorem dX9_depth_25 : decode cX9_depth 25 = .ok (.if_icmp .gt 15, 3) := by decide +kernel
theorem dX9_depth_28 : decode cX9_depth 28 = .ok (.iload 5, 2) := by decide +kernel
theorem dX9_depth_30 : decode cX9_depth 30 = .ok (.iconst 0, 1) := by decide +kernel
theorem dX9_depth_31 : decode cX9_depth 31 = .ok (.sipush 200, 3) := by decide +kernel
theorem dX9_depth_34 : decode cX9_depth 34 = .ok (.invokestatic 105, 3) := by decide +kernel
theorem dX9_depth_37 : decode cX9_depth 37 = .ok (.ifCond .ne 5, 3) := by decide +kernel
theorem dX9_depth_40 : decode cX9_depth 40 = .ok (.iconst 0, 1) := by decide +kernel
theorem dX9_depth_41 : decode cX9_depth 41 = .ok (.ireturn, 1) := by decide +kernel
theorem dX9_depth_42 : decode cX9_depth 42 = .ok (.iload_n 1, 1) := by decide +kernel
theorem dX9_depth_43 : decode cX9_depth 43 = .ok (.istore 6, 2) := by decide +kernel
theorem dX9_depth_45 : decode cX9_depth 45 = .ok (.iload 6, 2) := by decide +kernel
theorem dX9_depth_47 : decode cX9_depth 47 = .ok (.iload_n 3, 1) := by decide +kernel
theorem dX9_depth_48 : decode cX9_depth 48 = .ok (.if_icmp .gt 40, 3) := by decide +kernel
theorem dX9_depth_51 : decode cX9_depth 51 = .ok (.iload_n 2, 1) := by decide +kernel
theorem dX9_depth_52 : decode cX9_depth 52 = .ok (.istore 7, 2) := by decide +kernel
theorem dX9_depth_54 : decode cX9_depth 54 = .ok (.iload 7, 2) := by decide +kernel
theorem dX9_depth_56 : decode cX9_depth 56 = .ok (.iload 4, 2) := by decide +kernel
theorem dX9_depth_58 : decode cX9_depth 58 = .ok (.if_icmp .gt 24, 3) := by decide +kernel
theorem dX9_depth_61 : decode cX9_depth 61 = .ok (.aload_n 0, 1) := by decide +kernel
theorem dX9_depth_62 : decode cX9_depth 62 = .ok (.getfield 7, 3) := by decide +kernel
theorem dX9_depth_65 : decode cX9_depth 65 = .ok (.bipush 40, 2) := by decide +kernel
theorem dX9_depth_67 : decode cX9_depth 67 = .ok (.iload 6, 2) := by decide +kernel
theorem dX9_depth_69 : decode cX9_depth 69 = .ok (.imul, 1) := by decide +kernel
theorem dX9_depth_70 : decode cX9_depth 70 = .ok (.iload 7, 2) := by decide +kernel
theorem dX9_depth_72 : decode cX9_depth 72 = .ok (.iadd, 1) := by decide +kernel
theorem dX9_depth_73 : decode cX9_depth 73 = .ok (.iload 5, 2) := by decide +kernel
theorem dX9_depth_75 : decode cX9_depth 75 = .ok (.iastore, 1) := by decide +kernel
theorem dX9_depth_76 : decode cX9_depth 76 = .ok (.iinc 7 1, 3) := by decide +kernel
theorem dX9_depth_79 : decode cX9_depth 79 = .ok (.goto (-25), 3) := by decide +kernel
theorem dX9_depth_82 : decode cX9_depth 82 = .ok (.iinc 6 1, 3) := by decide +kernel
theorem dX9_depth_85 : decode cX9_depth 85 = .ok (.goto (-40), 3) := by decide +kernel
theorem dX9_depth_88 : decode cX9_depth 88 = .ok (.aload_n 0, 1) := by decide +kernel
theorem dX9_depth_89 : decode cX9_depth 89 = .ok (.iconst 0, 1) := by decide +kernel
theorem dX9_depth_90 : decode cX9_depth 90 = .ok (.putfield 116, 3) := by decide +kernel
theorem dX9_depth_93 : decode cX9_depth 93 = .ok (.iconst 1, 1) := by decide +kernel
theorem dX9_depth_94 : decode cX9_depth 94 = .ok (.ireturn, 1) := by decide +kernel
set_option maxRecDepth 20000 in
theorem ggX9_mark_X9_isPlace : GoodIn wsX9_mark wsX9_isPlace := goodIn_r _ [9, 10, 11, 8, 12] (by decide +kernel) (by decide +kernel)
set_option maxRecDepth 20000 in
theorem gX9_mark_X9_isPlace : GoodIn wsX9_mark (va_wsS RX9 112 yX9_isPlace wsX9_isPlace) := goodIn_app (goodIn_of _ (by decide +kernel)) ggX9_mark_X9_isPlace
set_option maxRecDepth 20000 in
theorem ggX9_mark_X9_in : GoodIn wsX9_mark wsX9_in := goodIn_r _ [12] (by decide +kernel) (by decide +kernel)
set_option maxRecDepth 20000 in
theorem gX9_mark_X9_in : GoodIn wsX9_mark (va_wsS RX9 105 yX9_in wsX9_in) := goodIn_app (goodIn_of _ (by decide +kernel)) ggX9_mark_X9_in
theorem dX9_mark_0 : decode cX9_mark 0 = .ok (.iload_n 1, 1) := by decide +kernel
theorem dX9_mark_1 : decode cX9_mark 1 = .ok (.iload_n 2, 1) := by decide +kernel
theorem dX9_mark_2 : decode cX9_mark 2 = .ok (.invokestatic 112, 3) := by decide +kernel
theorem dX9_mark_5 : decode cX9_mark 5 = .ok (.ifCond .eq 22, 3) := by decide +kernel
theorem dX9_mark_8 : decode cX9_mark 8 = .ok (.iload_n 3, 1) := by decide +kernel
theorem dX9_mark_9 : decode cX9_mark 9 = .ok (.iconst 0, 1) := by decide +kernel
theorem dX9_mark_10 : decode cX9_mark 10 = .ok (.bipush 20, 2) := by decide +kernel
theorem dX9_mark_12 : decode cX9_mark 12 = .ok (.invokestatic 105, 3) := by decide +kernel
theorem dX9_mark_15 : decode cX9_mark 15 = .ok (.ifCond .eq 12, 3) := by decide +kernel
theorem dX9_mark_18 : decode cX9_mark 18 = .ok (.aload_n 0, 1) := by decide +kernel
theorem dX9_mark_19 : decode cX9_mark 19 = .ok (.getfield 109, 3) := by decide +kernel
theorem dX9_mark_22 : decode cX9_mark 22 = .ok (.bipush 10, 2) := by decide +kernel
theorem dX9_mark_24 : decode cX9_mark 24 = .ok (.if_icmp .ne 5, 3) := by decide +kernel
theorem dX9_mark_27 : decode cX9_mark 27 = .ok (.iconst (-1), 1) := by decide +kernel
theorem dX9_mark_28 : decode cX9_mark 28 = .ok (.ireturn, 1) := by decide +kernel
theorem dX9_mark_29 : decode cX9_mark 29 = .ok (.aload_n 0, 1) := by decide +kernel
theorem dX9_mark_30 : decode cX9_mark 30 = .ok (.getfield 13, 3) := by decide +kernel
theorem dX9_mark_33 : decode cX9_mark 33 = .ok (.aload_n 0, 1) := by decide +kernel
theorem dX9_mark_34 : decode cX9_mark 34 = .ok (.getfield 109, 3) := by decide +kernel
theorem dX9_mark_37 : decode cX9_mark 37 = .ok (.iload_n 1, 1) := by decide +kernel
theorem dX9_mark_38 : decode cX9_mark 38 = .ok (.iastore, 1) := by decide +kernel
theorem dX9_mark_39 : decode cX9_mark 39 = .ok (.aload_n 0, 1) := by decide +kernel
theorem dX9_mark_40 : decode cX9_mark 40 = .ok (.getfield 16, 3) := by decide +kernel
theorem dX9_mark_43 : decode cX9_mark 43 = .ok (.aload_n 0, 1) := by decide +kernel
theorem dX9_mark_44 : decode cX9_mark 44 = .ok (.getfield 109, 3) := by decide +kernel
theorem dX9_mark_47 : decode cX9_mark 47 = .ok (.iload_n 2, 1) := by decide +kernel
theorem dX9_mark_48 : decode cX9_mark 48 = .ok (.iastore, 1) := by decide +kernel
theorem dX9_mark_49 : decode cX9_mark 49 = .ok (.aload_n 0, 1) := by decide +kernel
theorem dX9_mark_50 : decode cX9_mark 50 = .ok (.getfield 19, 3) := by decide +kernel
theorem dX9_mark_53 : decode cX9_mark 53 = .ok (.aload_n 0, 1) := by decide +kernel
theorem dX9_mark_54 : decode cX9_mark 54 = .ok (.getfield 109, 3) := by decide +kernel
theorem dX9_mark_57 : decode cX9_mark 57 = .ok (.iload_n 3, 1) := by decide +kernel
theorem dX9_mark_58 : decode cX9_mark 58 = .ok (.iastore, 1) := by decide +kernel
theorem dX9_mark_59 : decode cX9_mark 59 = .ok (.aload_n 0, 1) := by decide +kernel
theorem dX9_mark_60 : decode cX9_mark 60 = .ok (.dup, 1) := by decide +kernel
theorem dX9_mark_61 : decode cX9_mark 61 = .ok (.getfield 109, 3) := by decide +kernel
theorem dX9_mark_64 : decode cX9_mark 64 = .ok (.iconst 1, 1) := by decide +kernel
theorem dX9_mark_65 : decode cX9_mark 65 = .ok (.iadd, 1) := by decide +kernel
theorem dX9_mark_66 : decode cX9_mark 66 = .ok (.putfield 109, 3) := by decide +kernel
theorem dX9_mark_69 : decode cX9_mark 69 = .ok (.aload_n 0, 1) := by decide +kernel
theorem dX9_mark_70 : decode cX9_mark 70 = .ok (.iconst 0, 1) := by decide +kernel
theorem dX9_mark_71 : decode cX9_mark 71 = .ok (.putfield 116, 3) := by decide +kernel
theorem dX9_mark_74 : decode cX9_mark 74 = .ok (.aload_n 0, 1) := by decide +kernel
theorem dX9_mark_75 : decode cX9_mark 75 = .ok (.getfield 109, 3) := by decide +kernel
theorem dX9_mark_78 : decode cX9_mark 78 = .ok (.iconst 1, 1) := by decide +kernel
theorem dX9_mark_79 : decode cX9_mark 79 = .ok (.isub, 1) := by decide +kernel
theorem dX9_mark_80 : decode cX9_mark 80 = .ok (.ireturn, 1) := by decide +kernel
set_option maxRecDepth 20000 in
theorem ggX9_sight_X9_isMark : GoodIn wsX9_sight wsX9_isMark := goodIn_r _ [7, 8, 9, 10, 6, 11, 12, 13, 14, 15, 16, 17, 18, 19, 20, 21, 22, 23, 24, 25, 26, 27, 28, 29, 30, 31, 32, 33, 34, 35, 36, 37, 38, 39, 40, 41, 42, 43, 44, 45, 46, 47, 48, 49, 50, 51, 52, 53, 54, 55, 56, 57] (by decide +kernel) (by decide +kernel)
set_option maxRecDepth 20000 in
theorem gX9_sight_X9_isMark : GoodIn wsX9_sight (wsV RX9 120 RX9 yX9_isMark wsX9_isMark) := goodIn_app (goodIn_of _ (by decide +kernel)) ggX9_sight_X9_isMark
theorem dX9_sight_0 : decode cX9_sight 0 = .ok (.aload_n 0, 1) := by decide +kernel
theorem dX9_sight_1 : decode cX9_sight 1 = .ok (.iload_n 1, 1) := by decide +kernel
theorem dX9_sight_2 : decode cX9_sight 2 = .ok (.invokevirtual 120, 3) := by decide +kernel
theorem dX9_sight_5 : decode cX9_sight 5 = .ok (.ifCond .ne 5, 3) := by decide +kernel
theorem dX9_sight_8 : decode cX9_sight 8 = .ok (.iconst 0, 1) := by decide +kernel
theorem dX9_sight_9 : decode cX9_sight 9 = .ok (.ireturn, 1) := by decide +kernel
theorem dX9_sight_10 : decode cX9_sight 10 = .ok (.sipush 1600, 3) := by decide +kernel
theorem dX9_sight_13 : decode cX9_sight 13 = .ok (.iload_n 1, 1) := by decide +kernel
theorem dX9_sight_14 : decode cX9_sight 14 = .ok (.imul, 1) := by decide +kernel
theorem dX9_sight_15 : decode cX9_sight 15 = .ok (.istore_n 2, 1) := by decide +kernel
theorem dX9_sight_16 : decode cX9_sight 16 = .ok (.iload_n 2, 1) := by decide +kernel
theorem dX9_sight_17 : decode cX9_sight 17 = .ok (.sipush 1600, 3) := by decide +kernel
theorem dX9_sight_20 : decode cX9_sight 20 = .ok (.iload_n 1, 1) := by decide +kernel
theorem dX9_sight_21 : decode cX9_sight 21 = .ok (.imul, 1) := by decide +kernel
theorem dX9_sight_22 : decode cX9_sight 22 = .ok (.sipush 1600, 3) := by decide +kernel
theorem dX9_sight_25 : decode cX9_sight 25 = .ok (.iadd, 1) := by decide +kernel
theorem dX9_sight_26 : decode cX9_sight 26 = .ok (.if_icmp .ge 16, 3) := by decide +kernel
theorem dX9_sight_29 : decode cX9_sight 29 = .ok (.aload_n 0, 1) := by decide +kernel
theorem dX9_sight_30 : decode cX9_sight 30 = .ok (.getfield 22, 3) := by decide +kernel
theorem dX9_sight_33 : decode cX9_sight 33 = .ok (.iload_n 2, 1) := by decide +kernel
theorem dX9_sight_34 : decode cX9_sight 34 = .ok (.iconst 0, 1) := by decide +kernel
theorem dX9_sight_35 : decode cX9_sight 35 = .ok (.bastore, 1) := by decide +kernel
theorem dX9_sight_36 : decode cX9_sight 36 = .ok (.iinc 2 1, 3) := by decide +kernel
theorem dX9_sight_39 : decode cX9_sight 39 = .ok (.goto (-23), 3) := by decide +kernel
theorem dX9_sight_42 : decode cX9_sight 42 = .ok (.aload_n 0, 1) := by decide +kernel
theorem dX9_sight_43 : decode cX9_sight 43 = .ok (.getfield 26, 3) := by decide +kernel
theorem dX9_sight_46 : decode cX9_sight 46 = .ok (.iload_n 1, 1) := by decide +kernel
theorem dX9_sight_47 : decode cX9_sight 47 = .ok (.iconst 0, 1) := by decide +kernel
theorem dX9_sight_48 : decode cX9_sight 48 = .ok (.bastore, 1) := by decide +kernel
theorem dX9_sight_49 : decode cX9_sight 49 = .ok (.iconst 1, 1) := by decide +kernel
theorem dX9_sight_50 : decode cX9_sight 50 = .ok (.ireturn, 1) := by decide +kernel
set_option maxRecDepth 20000 in
theorem ggX9_isWay_X9_in : GoodIn wsX9_isWay wsX9_in := goodIn_r _ [4] (by decide +kernel) (by decide +kernel)
set_option maxRecDepth 20000 in
theorem gX9_isWay_X9_in : GoodIn wsX9_isWay (va_wsS RX9 105 yX9_in wsX9_in) := goodIn_app (goodIn_of _ (by decide +kernel)) ggX9_isWay_X9_in
theorem dX9_isWay_0 : decode cX9_isWay 0 = .ok (.iload_n 0, 1) := by decide +kernel
theorem dX9_isWay_1 : decode cX9_isWay 1 = .ok (.sipush (-1000), 3) := by decide +kernel
theorem dX9_isWay_4 : decode cX9_isWay 4 = .ok (.sipush 1000, 3) := by decide +kernel
theorem dX9_isWay_7 : decode cX9_isWay 7 = .ok (.invokestatic 105, 3) := by decide +kernel
theorem dX9_isWay_10 : decode cX9_isWay 10 = .ok (.ifCond .eq 28, 3) := by decide +kernel
theorem dX9_isWay_13 : decode cX9_isWay 13 = .ok (.iload_n 1, 1) := by decide +kernel
theorem dX9_isWay_14 : decode cX9_isWay 14 = .ok (.sipush (-1000), 3) := by decide +kernel
theorem dX9_isWay_17 : decode cX9_isWay 17 = .ok (.sipush 1000, 3) := by decide +kernel
theorem dX9_isWay_20 : decode cX9_isWay 20 = .ok (.invokestatic 105, 3) := by decide +kernel
theorem dX9_isWay_23 : decode cX9_isWay 23 = .ok (.ifCond .eq 15, 3) := by decide +kernel
theorem dX9_isWay_26 : decode cX9_isWay 26 = .ok (.iload_n 0, 1) := by decide +kernel
theorem dX9_isWay_27 : decode cX9_isWay 27 = .ok (.ifCond .ne 7, 3) := by decide +kernel
theorem dX9_isWay_30 : decode cX9_isWay 30 = .ok (.iload_n 1, 1) := by decide +kernel
theorem dX9_isWay_31 : decode cX9_isWay 31 = .ok (.ifCond .eq 7, 3) := by decide +kernel
theorem dX9_isWay_34 : decode cX9_isWay 34 = .ok (.iconst 1, 1) := by decide +kernel
theorem dX9_isWay_35 : decode cX9_isWay 35 = .ok (.goto 4, 3) := by decide +kernel
theorem dX9_isWay_38 : decode cX9_isWay 38 = .ok (.iconst 0, 1) := by decide +kernel
theorem dX9_isWay_39 : decode cX9_isWay 39 = .ok (.ireturn, 1) := by decide +kernel
set_option maxRecDepth 20000 in
theorem ggX9_bearing_X9_isMark : GoodIn wsX9_bearing wsX9_isMark := goodIn_r _ [9, 10, 11, 12, 8, 13, 17, 18, 19, 20, 21, 22, 23, 24, 25, 26, 27, 28, 29, 30, 31, 32, 33, 34, 35, 36, 37, 38, 39, 40, 41, 42, 43, 44, 45, 46, 47, 48, 49, 50, 51, 52, 53, 54, 55, 56, 57, 58, 59, 60, 61, 62] (by decide +kernel) (by decide +kernel)
set_option maxRecDepth 20000 in
theorem gX9_bearing_X9_isMark : GoodIn wsX9_bearing (wsV RX9 120 RX9 yX9_isMark wsX9_isMark) := goodIn_app (goodIn_of _ (by decide +kernel)) ggX9_bearing_X9_isMark
set_option maxRecDepth 20000 in
theorem ggX9_bearing_X9_isWay : GoodIn wsX9_bearing wsX9_isWay := goodIn_r _ [16, 11, 12, 8, 13] (by decide +kernel) (by decide +kernel)
set_option maxRecDepth 20000 in
theorem gX9_bearing_X9_isWay : GoodIn wsX9_bearing (va_wsS RX9 124 yX9_isWay wsX9_isWay) := goodIn_app (goodIn_of _ (by decide +kernel)) ggX9_bearing_X9_isWay
theorem dX9_bearing_0 : decode cX9_bearing 0 = .ok (.aload_n 0, 1) := by decide +kernel
theorem dX9_bearing_1 : decode cX9_bearing 1 = .ok (.iload_n 1, 1) := by decide +kernel
theorem dX9_bearing_2 : decode cX9_bearing 2 = .ok (.invokevirtual 120, 3) := by decide +kernel
theorem dX9_bearing_5 : decode cX9_bearing 5 = .ok (.ifCond .eq 35, 3) := by decide +kernel
theorem dX9_bearing_8 : decode cX9_bearing 8 = .ok (.aload_n 0, 1) := by decide +kernel
theorem dX9_bearing_9 : decode cX9_bearing 9 = .ok (.iload_n 2, 1) := by decide +kernel
theorem dX9_bearing_10 : decode cX9_bearing 10 = .ok (.invokevirtual 120, 3) := by decide +kernel
theorem dX9_bearing_13 : decode cX9_bearing 13 = .ok (.ifCond .eq 27, 3) := by decide +kernel
theorem dX9_bearing_16 : decode cX9_bearing 16 = .ok (.iload_n 1, 1) := by decide +kernel
theorem dX9_bearing_17 : decode cX9_bearing 17 = .ok (.iload_n 2, 1) := by decide +kernel
theorem dX9_bearing_18 : decode cX9_bearing 18 = .ok (.if_icmp .eq 22, 3) := by decide +kernel
theorem dX9_bearing_21 : decode cX9_bearing 21 = .ok (.iload_n 3, 1) := by decide +kernel
theorem dX9_bearing_22 : decode cX9_bearing 22 = .ok (.iload 4, 2) := by decide +kernel
theorem dX9_bearing_24 : decode cX9_bearing 24 = .ok (.invokestatic 124, 3) := by decide +kernel
theorem dX9_bearing_27 : decode cX9_bearing 27 = .ok (.ifCond .eq 13, 3) := by decide +kernel
theorem dX9_bearing_30 : decode cX9_bearing 30 = .ok (.iload 5, 2) := by decide +kernel
theorem dX9_bearing_32 : decode cX9_bearing 32 = .ok (.iload 6, 2) := by decide +kernel
theorem dX9_bearing_34 : decode cX9_bearing 34 = .ok (.invokestatic 124, 3) := by decide +kernel
theorem dX9_bearing_37 : decode cX9_bearing 37 = .ok (.ifCond .ne 5, 3) := by decide +kernel
theorem dX9_bearing_40 : decode cX9_bearing 40 = .ok (.iconst 0, 1) := by decide +kernel
theorem dX9_bearing_41 : decode cX9_bearing 41 = .ok (.ireturn, 1) := by decide +kernel
theorem dX9_bearing_42 : decode cX9_bearing 42 = .ok (.iconst 0, 1) := by decide +kernel
theorem dX9_bearing_43 : decode cX9_bearing 43 = .ok (.istore 7, 2) := by decide +kernel
theorem dX9_bearing_45 : decode cX9_bearing 45 = .ok (.iload 7, 2) := by decide +kernel
theorem dX9_bearing_47 : decode cX9_bearing 47 = .ok (.sipush 1600, 3) := by decide +kernel
theorem dX9_bearing_50 : decode cX9_bearing 50 = .ok (.if_icmp .ge 98, 3) := by decide +kernel
theorem dX9_bearing_53 : decode cX9_bearing 53 = .ok (.iload 7, 2) := by decide +kernel
theorem dX9_bearing_55 : decode cX9_bearing 55 = .ok (.bipush 40, 2) := by decide +kernel
theorem dX9_bearing_57 : decode cX9_bearing 57 = .ok (.idiv, 1) := by decide +kernel
theorem dX9_bearing_58 : decode cX9_bearing 58 = .ok (.aload_n 0, 1) := by decide +kernel
theorem dX9_bearing_59 : decode cX9_bearing 59 = .ok (.getfield 13, 3) := by decide +kernel
theorem dX9_bearing_62 : decode cX9_bearing 62 = .ok (.iload_n 2, 1) := by decide +kernel
theorem dX9_bearing_63 : decode cX9_bearing 63 = .ok (.iaload, 1) := by decide +kernel
theorem dX9_bearing_64 : decode cX9_bearing 64 = .ok (.isub, 1) := by decide +kernel
theorem dX9_bearing_65 : decode cX9_bearing 65 = .ok (.istore 8, 2) := by decide +kernel
theorem dX9_bearing_67 : decode cX9_bearing 67 = .ok (.iload 7, 2) := by decide +kernel
theorem dX9_bearing_69 : decode cX9_bearing 69 = .ok (.bipush 40, 2) := by decide +kernel
theorem dX9_bearing_71 : decode cX9_bearing 71 = .ok (.irem, 1) := by decide +kernel
theorem dX9_bearing_72 : decode cX9_bearing 72 = .ok (.aload_n 0, 1) := by decide +kernel
theorem dX9_bearing_73 : decode cX9_bearing 73 = .ok (.getfield 16, 3) := by decide +kernel
theorem dX9_bearing_76 : decode cX9_bearing 76 = .ok (.iload_n 2, 1) := by decide +kernel
theorem dX9_bearing_77 : decode cX9_bearing 77 = .ok (.iaload, 1) := by decide +kernel
theorem dX9_bearing_78 : decode cX9_bearing 78 = .ok (.isub, 1) := by decide +kernel
theorem dX9_bearing_79 : decode cX9_bearing 79 = .ok (.istore 9, 2) := by decide +kernel
theorem dX9_bearing_81 : decode cX9_bearing 81 = .ok (.aload_n 0, 1) := by decide +kernel
theorem dX9_bearing_82 : decode cX9_bearing 82 = .ok (.getfield 22, 3) := by decide +kernel
theorem dX9_bearing_85 : decode cX9_bearing 85 = .ok (.sipush 1600, 3) := by decide +kernel
theorem dX9_bearing_88 : decode cX9_bearing 88 = .ok (.iload_n 1, 1) := by decide +kernel
theorem dX9_bearing_89 : decode cX9_bearing 89 = .ok (.imul, 1) := by decide +kernel
theorem dX9_bearing_90 : decode cX9_bearing 90 = .ok (.iload 7, 2) := by decide +kernel
theorem dX9_bearing_92 : decode cX9_bearing 92 = .ok (.iadd, 1) := by decide +kernel
theorem dX9_bearing_93 : decode cX9_bearing 93 = .ok (.aload_n 0, 1) := by decide +kernel
theorem dX9_bearing_94 : decode cX9_bearing 94 = .ok (.getfield 22, 3) := by decide +kernel
theorem dX9_bearing_97 : decode cX9_bearing 97 = .ok (.sipush 1600, 3) := by decide +kernel
theorem dX9_bearing_100 : decode cX9_bearing 100 = .ok (.iload_n 1, 1) := by decide +kernel
theorem dX9_bearing_101 : decode cX9_bearing 101 = .ok (.imul, 1) := by decide +kernel
theorem dX9_bearing_102 : decode cX9_bearing 102 = .ok (.iload 7, 2) := by decide +kernel
theorem dX9_bearing_104 : decode cX9_bearing 104 = .ok (.iadd, 1) := by decide +kernel
theorem dX9_bearing_105 : decode cX9_bearing 105 = .ok (.baload, 1) := by decide +kernel
theorem dX9_bearing_106 : decode cX9_bearing 106 = .ok (.ifCond .ne 30, 3) := by decide +kernel
theorem dX9_bearing_109 : decode cX9_bearing 109 = .ok (.iload_n 3, 1) := by decide +kernel
theorem dX9_bearing_110 : decode cX9_bearing 110 = .ok (.iload 9, 2) := by decide +kernel
theorem dX9_bearing_112 : decode cX9_bearing 112 = .ok (.imul, 1) := by decide +kernel
theorem dX9_bearing_113 : decode cX9_bearing 113 = .ok (.iload 4, 2) := by decide +kernel
theorem dX9_bearing_115 : decode cX9_bearing 115 = .ok (.iload 8, 2) := by decide +kernel
theorem dX9_bearing_117 : decode cX9_bearing 117 = .ok (.imul, 1) := by decide +kernel
theorem dX9_bearing_118 : decode cX9_bearing 118 = .ok (.isub, 1) := by decide +kernel
theorem dX9_bearing_119 : decode cX9_bearing 119 = .ok (.ifCond .lt 17, 3) := by decide +kernel
theorem dX9_bearing_122 : decode cX9_bearing 122 = .ok (.iload 5, 2) := by decide +kernel
theorem dX9_bearing_124 : decode cX9_bearing 124 = .ok (.iload 9, 2) := by decide +kernel
theorem dX9_bearing_126 : decode cX9_bearing 126 = .ok (.imul, 1) := by decide +kernel
theorem dX9_bearing_127 : decode cX9_bearing 127 = .ok (.iload 6, 2) := by decide +kernel
theorem dX9_bearing_129 : decode cX9_bearing 129 = .ok (.iload 8, 2) := by decide +kernel
theorem dX9_bearing_131 : decode cX9_bearing 131 = .ok (.imul, 1) := by decide +kernel
theorem dX9_bearing_132 : decode cX9_bearing 132 = .ok (.isub, 1) := by decide +kernel
theorem dX9_bearing_133 : decode cX9_bearing 133 = .ok (.ifCond .le 7, 3) := by decide +kernel
theorem dX9_bearing_136 : decode cX9_bearing 136 = .ok (.iconst 1, 1) := by decide +kernel
theorem dX9_bearing_137 : decode cX9_bearing 137 = .ok (.goto 4, 3) := by decide +kernel
theorem dX9_bearing_140 : decode cX9_bearing 140 = .ok (.iconst 0, 1) := by decide +kernel
theorem dX9_bearing_141 : decode cX9_bearing 141 = .ok (.bastore, 1) := by decide +kernel
theorem dX9_bearing_142 : decode cX9_bearing 142 = .ok (.iinc 7 1, 3) := by decide +kernel
theorem dX9_bearing_145 : decode cX9_bearing 145 = .ok (.goto (-100), 3) := by decide +kernel
theorem dX9_bearing_148 : decode cX9_bearing 148 = .ok (.aload_n 0, 1) := by decide +kernel
theorem dX9_bearing_149 : decode cX9_bearing 149 = .ok (.getfield 26, 3) := by decide +kernel
theorem dX9_bearing_152 : decode cX9_bearing 152 = .ok (.iload_n 1, 1) := by decide +kernel
theorem dX9_bearing_153 : decode cX9_bearing 153 = .ok (.iconst 1, 1) := by decide +kernel
theorem dX9_bearing_154 : decode cX9_bearing 154 = .ok (.bastore, 1) := by decide +kernel
theorem dX9_bearing_155 : decode cX9_bearing 155 = .ok (.iconst 1, 1) := by decide +kernel
theorem dX9_bearing_156 : decode cX9_bearing 156 = .ok (.ireturn, 1) := by decide +kernel
set_option maxRecDepth 20000 in
theorem ggX9_sounding_X9_isMark : GoodIn wsX9_sounding wsX9_isMark := goodIn_r _ [8, 9, 10, 11, 7, 12, 13, 14, 15, 16, 17, 18, 19, 20, 21, 22, 23, 24, 25, 26, 27, 28, 29, 30, 31, 32, 33, 34, 35, 36, 37, 38, 39, 40, 41, 42, 43, 44, 45, 46, 47, 48, 49, 50, 51, 52, 53, 54, 55, 56, 57, 58] (by decide +kernel) (by decide +kernel)
set_option maxRecDepth 20000 in
theorem gX9_sounding_X9_isMark : GoodIn wsX9_sounding (wsV RX9 120 RX9 yX9_isMark wsX9_isMark) := goodIn_app (goodIn_of _ (by decide +kernel)) ggX9_sounding_X9_isMark
set_option maxRecDepth 20000 in
theorem ggX9_sounding_X9_in : GoodIn wsX9_sounding wsX9_in := goodIn_r _ [12] (by decide +kernel) (by decide +kernel)
set_option maxRecDepth 20000 in
theorem gX9_sounding_X9_in : GoodIn wsX9_sounding (va_wsS RX9 105 yX9_in wsX9_in) := goodIn_app (goodIn_of _ (by decide +kernel)) ggX9_sounding_X9_in
theorem dX9_sounding_0 : decode cX9_sounding 0 = .ok (.aload_n 0, 1) := by decide +kernel
theorem dX9_sounding_1 : decode cX9_sounding 1 = .ok (.iload_n 1, 1) := by decide +kernel
theorem dX9_sounding_2 : decode cX9_sounding 2 = .ok (.invokevirtual 120, 3) := by decide +kernel
theorem dX9_sounding_5 : decode cX9_sounding 5 = .ok (.ifCond .eq 25, 3) := by decide +kernel
theorem dX9_sounding_8 : decode cX9_sounding 8 = .ok (.iload_n 2, 1) := by decide +kernel
theorem dX9_sounding_9 : decode cX9_sounding 9 = .ok (.iconst 0, 1) := by decide +kernel
theorem dX9_sounding_10 : decode cX9_sounding 10 = .ok (.sipush 200, 3) := by decide +kernel
theorem dX9_sounding_13 : decode cX9_sounding 13 = .ok (.invokestatic 105, 3) := by decide +kernel
theorem dX9_sounding_16 : decode cX9_sounding 16 = .ok (.ifCond .eq 14, 3) := by decide +kernel
theorem dX9_sounding_19 : decode cX9_sounding 19 = .ok (.iload_n 3, 1) := by decide +kernel
theorem dX9_sounding_20 : decode cX9_sounding 20 = .ok (.iload_n 2, 1) := by decide +kernel
theorem dX9_sounding_21 : decode cX9_sounding 21 = .ok (.sipush 200, 3) := by decide +kernel
theorem dX9_sounding_24 : decode cX9_sounding 24 = .ok (.invokestatic 105, 3) := by decide +kernel
theorem dX9_sounding_27 : decode cX9_sounding 27 = .ok (.ifCond .ne 5, 3) := by decide +kernel
theorem dX9_sounding_30 : decode cX9_sounding 30 = .ok (.iconst 0, 1) := by decide +kernel
theorem dX9_sounding_31 : decode cX9_sounding 31 = .ok (.ireturn, 1) := by decide +kernel
theorem dX9_sounding_32 : decode cX9_sounding 32 = .ok (.iconst 0, 1) := by decide +kernel
theorem dX9_sounding_33 : decode cX9_sounding 33 = .ok (.istore 4, 2) := by decide +kernel
theorem dX9_sounding_35 : decode cX9_sounding 35 = .ok (.iload 4, 2) := by decide +kernel
theorem dX9_sounding_37 : decode cX9_sounding 37 = .ok (.sipush 1600, 3) := by decide +kernel
theorem dX9_sounding_40 : decode cX9_sounding 40 = .ok (.if_icmp .ge 58, 3) := by decide +kernel
theorem dX9_sounding_43 : decode cX9_sounding 43 = .ok (.aload_n 0, 1) := by decide +kernel
theorem dX9_sounding_44 : decode cX9_sounding 44 = .ok (.getfield 22, 3) := by decide +kernel
theorem dX9_sounding_47 : decode cX9_sounding 47 = .ok (.sipush 1600, 3) := by decide +kernel
theorem dX9_sounding_50 : decode cX9_sounding 50 = .ok (.iload_n 1, 1) := by decide +kernel
theorem dX9_sounding_51 : decode cX9_sounding 51 = .ok (.imul, 1) := by decide +kernel
theorem dX9_sounding_52 : decode cX9_sounding 52 = .ok (.iload 4, 2) := by decide +kernel
theorem dX9_sounding_54 : decode cX9_sounding 54 = .ok (.iadd, 1) := by decide +kernel
theorem dX9_sounding_55 : decode cX9_sounding 55 = .ok (.aload_n 0, 1) := by decide +kernel
theorem dX9_sounding_56 : decode cX9_sounding 56 = .ok (.getfield 22, 3) := by decide +kernel
theorem dX9_sounding_59 : decode cX9_sounding 59 = .ok (.sipush 1600, 3) := by decide +kernel
theorem dX9_sounding_62 : decode cX9_sounding 62 = .ok (.iload_n 1, 1) := by decide +kernel
theorem dX9_sounding_63 : decode cX9_sounding 63 = .ok (.imul, 1) := by decide +kernel
theorem dX9_sounding_64 : decode cX9_sounding 64 = .ok (.iload 4, 2) := by decide +kernel
theorem dX9_sounding_66 : decode cX9_sounding 66 = .ok (.iadd, 1) := by decide +kernel
theorem dX9_sounding_67 : decode cX9_sounding 67 = .ok (.baload, 1) := by decide +kernel
theorem dX9_sounding_68 : decode cX9_sounding 68 = .ok (.ifCond .ne 18, 3) := by decide +kernel
theorem dX9_sounding_71 : decode cX9_sounding 71 = .ok (.aload_n 0, 1) := by decide +kernel
theorem dX9_sounding_72 : decode cX9_sounding 72 = .ok (.getfield 7, 3) := by decide +kernel
theorem dX9_sounding_75 : decode cX9_sounding 75 = .ok (.iload 4, 2) := by decide +kernel
theorem dX9_sounding_77 : decode cX9_sounding 77 = .ok (.iaload, 1) := by decide +kernel
theorem dX9_sounding_78 : decode cX9_sounding 78 = .ok (.iload_n 2, 1) := by decide +kernel
theorem dX9_sounding_79 : decode cX9_sounding 79 = .ok (.iload_n 3, 1) := by decide +kernel
theorem dX9_sounding_80 : decode cX9_sounding 80 = .ok (.invokestatic 105, 3) := by decide +kernel
theorem dX9_sounding_83 : decode cX9_sounding 83 = .ok (.ifCond .ne 7, 3) := by decide +kernel
theorem dX9_sounding_86 : decode cX9_sounding 86 = .ok (.iconst 1, 1) := by decide +kernel
theorem dX9_sounding_87 : decode cX9_sounding 87 = .ok (.goto 4, 3) := by decide +kernel
theorem dX9_sounding_90 : decode cX9_sounding 90 = .ok (.iconst 0, 1) := by decide +kernel
theorem dX9_sounding_91 : decode cX9_sounding 91 = .ok (.bastore, 1) := by decide +kernel
theorem dX9_sounding_92 : decode cX9_sounding 92 = .ok (.iinc 4 1, 3) := by decide +kernel
theorem dX9_sounding_95 : decode cX9_sounding 95 = .ok (.goto (-60), 3) := by decide +kernel
theorem dX9_sounding_98 : decode cX9_sounding 98 = .ok (.aload_n 0, 1) := by decide +kernel
theorem dX9_sounding_99 : decode cX9_sounding 99 = .ok (.getfield 26, 3) := by decide +kernel
theorem dX9_sounding_102 : decode cX9_sounding 102 = .ok (.iload_n 1, 1) := by decide +kernel
theorem dX9_sounding_103 : decode cX9_sounding 103 = .ok (.iconst 1, 1) := by decide +kernel
theorem dX9_sounding_104 : decode cX9_sounding 104 = .ok (.bastore, 1) := by decide +kernel
theorem dX9_sounding_105 : decode cX9_sounding 105 = .ok (.iconst 1, 1) := by decide +kernel
theorem dX9_sounding_106 : decode cX9_sounding 106 = .ok (.ireturn, 1) := by decide +kernel
theorem dX9_square_0 : decode cX9_square 0 = .ok (.iload_n 0, 1) := by decide +kernel
theorem dX9_square_1 : decode cX9_square 1 = .ok (.iload_n 0, 1) := by decide +kernel
theorem dX9_square_2 : decode cX9_square 2 = .ok (.imul, 1) := by decide +kernel
theorem dX9_square_3 : decode cX9_square 3 = .ok (.iload_n 1, 1) := by decide +kernel
theorem dX9_square_4 : decode cX9_square 4 = .ok (.iload_n 1, 1) := by decide +kernel
theorem dX9_square_5 : decode cX9_square 5 = .ok (.imul, 1) := by decide +kernel
theorem dX9_square_6 : decode cX9_square 6 = .ok (.iadd, 1) := by decide +kernel
theorem dX9_square_7 : decode cX9_square 7 = .ok (.ireturn, 1) := by decide +kernel
set_option maxRecDepth 20000 in
theorem ggX9_lies_X9_isMark : GoodIn wsX9_lies wsX9_isMark := goodIn_r _ [10, 11, 12, 13, 9, 14, 18, 19, 20, 21, 22, 23, 24, 25, 26, 27, 28, 29, 30, 31, 32, 33, 34, 35, 36, 37, 38, 39, 40, 41, 42, 43, 44, 45, 46, 47, 48, 49, 50, 51, 52, 53, 54, 55, 56, 57, 58, 59, 60, 61, 62, 63] (by decide +kernel) (by decide +kernel)
set_option maxRecDepth 20000 in
theorem gX9_lies_X9_isMark : GoodIn wsX9_lies (wsV RX9 120 RX9 yX9_isMark wsX9_isMark) := goodIn_app (goodIn_of _ (by decide +kernel)) ggX9_lies_X9_isMark
set_option maxRecDepth 20000 in
theorem ggX9_lies_X9_square : GoodIn wsX9_lies wsX9_square := goodIn_r _ [17] (by decide +kernel) (by decide +kernel)
set_option maxRecDepth 20000 in
theorem gX9_lies_X9_square : GoodIn wsX9_lies (va_wsS RX9 127 yX9_square wsX9_square) := goodIn_app (goodIn_of _ (by decide +kernel)) ggX9_lies_X9_square
theorem dX9_lies_0 : decode cX9_lies 0 = .ok (.aload_n 0, 1) := by decide +kernel
theorem dX9_lies_1 : decode cX9_lies 1 = .ok (.iload_n 1, 1) := by decide +kernel
theorem dX9_lies_2 : decode cX9_lies 2 = .ok (.invokevirtual 120, 3) := by decide +kernel
theorem dX9_lies_5 : decode cX9_lies 5 = .ok (.ifCond .ne 5, 3) := by decide +kernel
theorem dX9_lies_8 : decode cX9_lies 8 = .ok (.iconst (-1), 1) := by decide +kernel
theorem dX9_lies_9 : decode cX9_lies 9 = .ok (.ireturn, 1) := by decide +kernel
theorem dX9_lies_10 : decode cX9_lies 10 = .ok (.iconst 0, 1) := by decide +kernel
theorem dX9_lies_11 : decode cX9_lies 11 = .ok (.istore_n 3, 1) := by decide +kernel
theorem dX9_lies_12 : decode cX9_lies 12 = .ok (.iconst 0, 1) := by decide +kernel
theorem dX9_lies_13 : decode cX9_lies 13 = .ok (.istore 4, 2) := by decide +kernel
theorem dX9_lies_15 : decode cX9_lies 15 = .ok (.iconst (-1), 1) := by decide +kernel
theorem dX9_lies_16 : decode cX9_lies 16 = .ok (.istore 5, 2) := by decide +kernel
theorem dX9_lies_18 : decode cX9_lies 18 = .ok (.iconst (-1), 1) := by decide +kernel
theorem dX9_lies_19 : decode cX9_lies 19 = .ok (.istore 6, 2) := by decide +kernel
theorem dX9_lies_21 : decode cX9_lies 21 = .ok (.iconst (-1), 1) := by decide +kernel
theorem dX9_lies_22 : decode cX9_lies 22 = .ok (.istore 7, 2) := by decide +kernel
theorem dX9_lies_24 : decode cX9_lies 24 = .ok (.iconst (-1), 1) := by decide +kernel
theorem dX9_lies_25 : decode cX9_lies 25 = .ok (.istore 8, 2) := by decide +kernel
theorem dX9_lies_27 : decode cX9_lies 27 = .ok (.iconst 0, 1) := by decide +kernel
theorem dX9_lies_28 : decode cX9_lies 28 = .ok (.istore 9, 2) := by decide +kernel
theorem dX9_lies_30 : decode cX9_lies 30 = .ok (.iload 9, 2) := by decide +kernel
theorem dX9_lies_32 : decode cX9_lies 32 = .ok (.sipush 1600, 3) := by decide +kernel
theorem dX9_lies_35 : decode cX9_lies 35 = .ok (.if_icmp .ge 147, 3) := by decide +kernel
theorem dX9_lies_38 : decode cX9_lies 38 = .ok (.aload_n 0, 1) := by decide +kernel
theorem dX9_lies_39 : decode cX9_lies 39 = .ok (.getfield 22, 3) := by decide +kernel
theorem dX9_lies_42 : decode cX9_lies 42 = .ok (.sipush 1600, 3) := by decide +kernel
theorem dX9_lies_45 : decode cX9_lies 45 = .ok (.iload_n 1, 1) := by decide +kernel
theorem dX9_lies_46 : decode cX9_lies 46 = .ok (.imul, 1) := by decide +kernel
theorem dX9_lies_47 : decode cX9_lies 47 = .ok (.iload 9, 2) := by decide +kernel
theorem dX9_lies_49 : decode cX9_lies 49 = .ok (.iadd, 1) := by decide +kernel
theorem dX9_lies_50 : decode cX9_lies 50 = .ok (.baload, 1) := by decide +kernel
theorem dX9_lies_51 : decode cX9_lies 51 = .ok (.ifCond .eq 6, 3) := by decide +kernel
theorem dX9_lies_54 : decode cX9_lies 54 = .ok (.goto 122, 3) := by decide +kernel
theorem dX9_lies_57 : decode cX9_lies 57 = .ok (.iload 9, 2) := by decide +kernel
theorem dX9_lies_59 : decode cX9_lies 59 = .ok (.bipush 40, 2) := by decide +kernel
theorem dX9_lies_61 : decode cX9_lies 61 = .ok (.idiv, 1) := by decide +kernel
theorem dX9_lies_62 : decode cX9_lies 62 = .ok (.istore 10, 2) := by decide +kernel
theorem dX9_lies_64 : decode cX9_lies 64 = .ok (.iload 9, 2) := by decide +kernel
theorem dX9_lies_66 : decode cX9_lies 66 = .ok (.bipush 40, 2) := by decide +kernel
theorem dX9_lies_68 : decode cX9_lies 68 = .ok (.irem, 1) := by decide +kernel
theorem dX9_lies_69 : decode cX9_lies 69 = .ok (.istore 11, 2) := by decide +kernel
theorem dX9_lies_71 : decode cX9_lies 71 = .ok (.iinc 3 1, 3) := by decide +kernel
theorem dX9_lies_74 : decode cX9_lies 74 = .ok (.iload 4, 2) := by decide +kernel
theorem dX9_lies_76 : decode cX9_lies 76 = .ok (.iload 10, 2) := by decide +kernel
theorem dX9_lies_78 : decode cX9_lies 78 = .ok (.aload_n 0, 1) := by decide +kernel
theorem dX9_lies_79 : decode cX9_lies 79 = .ok (.getfield 13, 3) := by decide +kernel
theorem dX9_lies_82 : decode cX9_lies 82 = .ok (.iload_n 1, 1) := by decide +kernel
theorem dX9_lies_83 : decode cX9_lies 83 = .ok (.iaload, 1) := by decide +kernel
theorem dX9_lies_84 : decode cX9_lies 84 = .ok (.isub, 1) := by decide +kernel
theorem dX9_lies_85 : decode cX9_lies 85 = .ok (.iload 11, 2) := by decide +kernel
theorem dX9_lies_87 : decode cX9_lies 87 = .ok (.aload_n 0, 1) := by decide +kernel
theorem dX9_lies_88 : decode cX9_lies 88 = .ok (.getfield 16, 3) := by decide +kernel
theorem dX9_lies_91 : decode cX9_lies 91 = .ok (.iload_n 1, 1) := by decide +kernel
theorem dX9_lies_92 : decode cX9_lies 92 = .ok (.iaload, 1) := by decide +kernel
theorem dX9_lies_93 : decode cX9_lies 93 = .ok (.isub, 1) := by decide +kernel
theorem dX9_lies_94 : decode cX9_lies 94 = .ok (.invokestatic 127, 3) := by decide +kernel
theorem dX9_lies_97 : decode cX9_lies 97 = .ok (.aload_n 0, 1) := by decide +kernel
theorem dX9_lies_98 : decode cX9_lies 98 = .ok (.getfield 19, 3) := by decide +kernel
theorem dX9_lies_101 : decode cX9_lies 101 = .ok (.iload_n 1, 1) := by decide +kernel
theorem dX9_lies_102 : decode cX9_lies 102 = .ok (.iaload, 1) := by decide +kernel
theorem dX9_lies_103 : decode cX9_lies 103 = .ok (.aload_n 0, 1) := by decide +kernel
theorem dX9_lies_104 : decode cX9_lies 104 = .ok (.getfield 19, 3) := by decide +kernel
theorem dX9_lies_107 : decode cX9_lies 107 = .ok (.iload_n 1, 1) := by decide +kernel
theorem dX9_lies_108 : decode cX9_lies 108 = .ok (.iaload, 1) := by decide +kernel
theorem dX9_lies_109 : decode cX9_lies 109 = .ok (.imul, 1) := by decide +kernel
theorem dX9_lies_110 : decode cX9_lies 110 = .ok (.if_icmp .gt 7, 3) := by decide +kernel
theorem dX9_lies_113 : decode cX9_lies 113 = .ok (.iconst 1, 1) := by decide +kernel
theorem dX9_lies_114 : decode cX9_lies 114 = .ok (.goto 4, 3) := by decide +kernel
theorem dX9_lies_117 : decode cX9_lies 117 = .ok (.iconst 0, 1) := by decide +kernel
theorem dX9_lies_118 : decode cX9_lies 118 = .ok (.iadd, 1) := by decide +kernel
theorem dX9_lies_119 : decode cX9_lies 119 = .ok (.istore 4, 2) := by decide +kernel
theorem dX9_lies_121 : decode cX9_lies 121 = .ok (.iload 5, 2) := by decide +kernel
theorem dX9_lies_123 : decode cX9_lies 123 = .ok (.ifCond .ge 8, 3) := by decide +kernel
theorem dX9_lies_126 : decode cX9_lies 126 = .ok (.iload 10, 2) := by decide +kernel
theorem dX9_lies_128 : decode cX9_lies 128 = .ok (.goto 5, 3) := by decide +kernel
theorem dX9_lies_131 : decode cX9_lies 131 = .ok (.iload 5, 2) := by decide +kernel
theorem dX9_lies_133 : decode cX9_lies 133 = .ok (.istore 5, 2) := by decide +kernel
theorem dX9_lies_135 : decode cX9_lies 135 = .ok (.iload 10, 2) := by decide +kernel
theorem dX9_lies_137 : decode cX9_lies 137 = .ok (.istore 7, 2) := by decide +kernel
theorem dX9_lies_139 : decode cX9_lies 139 = .ok (.iload 6, 2) := by decide +kernel
theorem dX9_lies_141 : decode cX9_lies 141 = .ok (.ifCond .lt 10, 3) := by decide +kernel
theorem dX9_lies_144 : decode cX9_lies 144 = .ok (.iload 11, 2) := by decide +kernel
theorem dX9_lies_146 : decode cX9_lies 146 = .ok (.iload 6, 2) := by decide +kernel
theorem dX9_lies_148 : decode cX9_lies 148 = .ok (.if_icmp .ge 8, 3) := by decide +kernel
theorem dX9_lies_151 : decode cX9_lies 151 = .ok (.iload 11, 2) := by decide +kernel
theorem dX9_lies_153 : decode cX9_lies 153 = .ok (.goto 5, 3) := by decide +kernel
theorem dX9_lies_156 : decode cX9_lies 156 = .ok (.iload 6, 2) := by decide +kernel
theorem dX9_lies_158 : decode cX9_lies 158 = .ok (.istore 6, 2) := by decide +kernel
theorem dX9_lies_160 : decode cX9_lies 160 = .ok (.iload 11, 2) := by decide +kernel
theorem dX9_lies_162 : decode cX9_lies 162 = .ok (.iload 8, 2) := by decide +kernel
theorem dX9_lies_164 : decode cX9_lies 164 = .ok (.if_icmp .le 8, 3) := by decide +kernel
theorem dX9_lies_167 : decode cX9_lies 167 = .ok (.iload 11, 2) := by decide +kernel
theorem dX9_lies_169 : decode cX9_lies 169 = .ok (.goto 5, 3) := by decide +kernel
theorem dX9_lies_172 : decode cX9_lies 172 = .ok (.iload 8, 2) := by decide +kernel
theorem dX9_lies_174 : decode cX9_lies 174 = .ok (.istore 8, 2) := by decide +kernel
theorem dX9_lies_176 : decode cX9_lies 176 = .ok (.iinc 9 1, 3) := by decide +kernel
theorem dX9_lies_179 : decode cX9_lies 179 = .ok (.goto (-149), 3) := by decide +kernel
theorem dX9_lies_182 : decode cX9_lies 182 = .ok (.iload_n 2, 1) := by decide +kernel
theorem dX9_lies_183 : decode cX9_lies 183 = .ok (.tableswitch 126 0 8 #[49, 91, 93, 96, 99, 102, 105, 112, 119], 49) := by decide +kernel
theorem dX9_lies_232 : decode cX9_lies 232 = .ok (.aload_n 0, 1) := by decide +kernel
theorem dX9_lies_233 : decode cX9_lies 233 = .ok (.getfield 26, 3) := by decide +kernel
theorem dX9_lies_236 : decode cX9_lies 236 = .ok (.iload_n 1, 1) := by decide +kernel
theorem dX9_lies_237 : decode cX9_lies 237 = .ok (.baload, 1) := by decide +kernel
theorem dX9_lies_238 : decode cX9_lies 238 = .ok (.ifCond .ne 7, 3) := by decide +kernel
theorem dX9_lies_241 : decode cX9_lies 241 = .ok (.iconst 0, 1) := by decide +kernel
theorem dX9_lies_242 : decode cX9_lies 242 = .ok (.goto 31, 3) := by decide +kernel
theorem dX9_lies_245 : decode cX9_lies 245 = .ok (.iload_n 3, 1) := by decide +kernel
theorem dX9_lies_246 : decode cX9_lies 246 = .ok (.ifCond .ne 7, 3) := by decide +kernel
theorem dX9_lies_249 : decode cX9_lies 249 = .ok (.iconst 3, 1) := by decide +kernel
theorem dX9_lies_250 : decode cX9_lies 250 = .ok (.goto 23, 3) := by decide +kernel
theorem dX9_lies_253 : decode cX9_lies 253 = .ok (.iload 4, 2) := by decide +kernel
theorem dX9_lies_255 : decode cX9_lies 255 = .ok (.iload_n 3, 1) := by decide +kernel
theorem dX9_lies_256 : decode cX9_lies 256 = .ok (.if_icmp .ne 7, 3) := by decide +kernel
theorem dX9_lies_259 : decode cX9_lies 259 = .ok (.iconst 1, 1) := by decide +kernel
theorem dX9_lies_260 : decode cX9_lies 260 = .ok (.goto 13, 3) := by decide +kernel
theorem dX9_lies_263 : decode cX9_lies 263 = .ok (.iload 4, 2) := by decide +kernel
theorem dX9_lies_265 : decode cX9_lies 265 = .ok (.ifCond .ne 7, 3) := by decide +kernel
theorem dX9_lies_268 : decode cX9_lies 268 = .ok (.iconst 2, 1) := by decide +kernel
theorem dX9_lies_269 : decode cX9_lies 269 = .ok (.goto 4, 3) := by decide +kernel
theorem dX9_lies_272 : decode cX9_lies 272 = .ok (.iconst 0, 1) := by decide +kernel
theorem dX9_lies_273 : decode cX9_lies 273 = .ok (.ireturn, 1) := by decide +kernel
theorem dX9_lies_274 : decode cX9_lies 274 = .ok (.iload_n 3, 1) := by decide +kernel
theorem dX9_lies_275 : decode cX9_lies 275 = .ok (.ireturn, 1) := by decide +kernel
theorem dX9_lies_276 : decode cX9_lies 276 = .ok (.iload 5, 2) := by decide +kernel
theorem dX9_lies_278 : decode cX9_lies 278 = .ok (.ireturn, 1) := by decide +kernel
theorem dX9_lies_279 : decode cX9_lies 279 = .ok (.iload 6, 2) := by decide +kernel
theorem dX9_lies_281 : decode cX9_lies 281 = .ok (.ireturn, 1) := by decide +kernel
theorem dX9_lies_282 : decode cX9_lies 282 = .ok (.iload 7, 2) := by decide +kernel
theorem dX9_lies_284 : decode cX9_lies 284 = .ok (.ireturn, 1) := by decide +kernel
theorem dX9_lies_285 : decode cX9_lies 285 = .ok (.iload 8, 2) := by decide +kernel
theorem dX9_lies_287 : decode cX9_lies 287 = .ok (.ireturn, 1) := by decide +kernel
theorem dX9_lies_288 : decode cX9_lies 288 = .ok (.aload_n 0, 1) := by decide +kernel
theorem dX9_lies_289 : decode cX9_lies 289 = .ok (.getfield 13, 3) := by decide +kernel
theorem dX9_lies_292 : decode cX9_lies 292 = .ok (.iload_n 1, 1) := by decide +kernel
theorem dX9_lies_293 : decode cX9_lies 293 = .ok (.iaload, 1) := by decide +kernel
theorem dX9_lies_294 : decode cX9_lies 294 = .ok (.ireturn, 1) := by decide +kernel
theorem dX9_lies_295 : decode cX9_lies 295 = .ok (.aload_n 0, 1) := by decide +kernel
theorem dX9_lies_296 : decode cX9_lies 296 = .ok (.getfield 16, 3) := by decide +kernel
theorem dX9_lies_299 : decode cX9_lies 299 = .ok (.iload_n 1, 1) := by decide +kernel
theorem dX9_lies_300 : decode cX9_lies 300 = .ok (.iaload, 1) := by decide +kernel
theorem dX9_lies_301 : decode cX9_lies 301 = .ok (.ireturn, 1) := by decide +kernel
theorem dX9_lies_302 : decode cX9_lies 302 = .ok (.aload_n 0, 1) := by decide +kernel
theorem dX9_lies_303 : decode cX9_lies 303 = .ok (.getfield 19, 3) := by decide +kernel
theorem dX9_lies_306 : decode cX9_lies 306 = .ok (.iload_n 1, 1) := by decide +kernel
theorem dX9_lies_307 : decode cX9_lies 307 = .ok (.iaload, 1) := by decide +kernel
theorem dX9_lies_308 : decode cX9_lies 308 = .ok (.ireturn, 1) := by decide +kernel
theorem dX9_lies_309 : decode cX9_lies 309 = .ok (.iconst (-1), 1) := by decide +kernel
theorem dX9_lies_310 : decode cX9_lies 310 = .ok (.ireturn, 1) := by decide +kernel
set_option maxRecDepth 20000 in
theorem ggX9_day_X9_in : GoodIn wsX9_day wsX9_in := goodIn_r _ [5] (by decide +kernel) (by decide +kernel)
set_option maxRecDepth 20000 in
theorem gX9_day_X9_in : GoodIn wsX9_day (va_wsS RX9 105 yX9_in wsX9_in) := goodIn_app (goodIn_of _ (by decide +kernel)) ggX9_day_X9_in
theorem dX9_day_0 : decode cX9_day 0 = .ok (.iload_n 1, 1) := by decide +kernel
theorem dX9_day_1 : decode cX9_day 1 = .ok (.aload_n 0, 1) := by decide +kernel
theorem dX9_day_2 : decode cX9_day 2 = .ok (.getfield 131, 3) := by decide +kernel
theorem dX9_day_5 : decode cX9_day 5 = .ok (.sipush 10000, 3) := by decide +kernel
theorem dX9_day_8 : decode cX9_day 8 = .ok (.invokestatic 105, 3) := by decide +kernel
theorem dX9_day_11 : decode cX9_day 11 = .ok (.ifCond .ne 5, 3) := by decide +kernel
theorem dX9_day_14 : decode cX9_day 14 = .ok (.iconst 0, 1) := by decide +kernel
theorem dX9_day_15 : decode cX9_day 15 = .ok (.ireturn, 1) := by decide +kernel
theorem dX9_day_16 : decode cX9_day 16 = .ok (.aload_n 0, 1) := by decide +kernel
theorem dX9_day_17 : decode cX9_day 17 = .ok (.iload_n 1, 1) := by decide +kernel
theorem dX9_day_18 : decode cX9_day 18 = .ok (.putfield 131, 3) := by decide +kernel
theorem dX9_day_21 : decode cX9_day 21 = .ok (.iconst 1, 1) := by decide +kernel
theorem dX9_day_22 : decode cX9_day 22 = .ok (.ireturn, 1) := by decide +kernel
set_option maxRecDepth 20000 in
theorem ggX9_chain_X9_isMark : GoodIn wsX9_chain wsX9_isMark := goodIn_r _ [10, 11, 12, 13, 9, 14, 15, 16, 17, 18, 19, 20, 21, 22, 23, 24, 25, 26, 27, 28, 29, 30, 31, 32, 33, 34, 35, 36, 37, 38, 39, 40, 41, 42, 43, 44, 45, 46, 47, 48, 49, 50, 51, 52, 53, 54, 55, 56, 57, 58, 59, 60] (by decide +kernel) (by decide +kernel)
set_option maxRecDepth 20000 in
theorem gX9_chain_X9_isMark : GoodIn wsX9_chain (wsV RX9 120 RX9 yX9_isMark wsX9_isMark) := goodIn_app (goodIn_of _ (by decide +kernel)) ggX9_chain_X9_isMark
set_option maxRecDepth 20000 in
theorem ggX9_chain_X9_in : GoodIn wsX9_chain wsX9_in := goodIn_r _ [14] (by decide +kernel) (by decide +kernel)
set_option maxRecDepth 20000 in
theorem gX9_chain_X9_in : GoodIn wsX9_chain (va_wsS RX9 105 yX9_in wsX9_in) := goodIn_app (goodIn_of _ (by decide +kernel)) ggX9_chain_X9_in
theorem dX9_chain_0 : decode cX9_chain 0 = .ok (.aload_n 0, 1) := by decide +kernel
theorem dX9_chain_1 : decode cX9_chain 1 = .ok (.iload_n 1, 1) := by decide +kernel
theorem dX9_chain_2 : decode cX9_chain 2 = .ok (.invokevirtual 120, 3) := by decide +kernel
theorem dX9_chain_5 : decode cX9_chain 5 = .ok (.ifCond .eq 33, 3) := by decide +kernel
theorem dX9_chain_8 : decode cX9_chain 8 = .ok (.iload_n 2, 1) := by decide +kernel
theorem dX9_chain_9 : decode cX9_chain 9 = .ok (.iconst 1, 1) := by decide +kernel
theorem dX9_chain_10 : decode cX9_chain 10 = .ok (.sipush 1000, 3) := by decide +kernel
theorem dX9_chain_13 : decode cX9_chain 13 = .ok (.invokestatic 105, 3) := by decide +kernel
theorem dX9_chain_16 : decode cX9_chain 16 = .ok (.ifCond .eq 22, 3) := by decide +kernel
theorem dX9_chain_19 : decode cX9_chain 19 = .ok (.iload_n 3, 1) := by decide +kernel
theorem dX9_chain_20 : decode cX9_chain 20 = .ok (.iconst 0, 1) := by decide +kernel
theorem dX9_chain_21 : decode cX9_chain 21 = .ok (.iload_n 2, 1) := by decide +kernel
theorem dX9_chain_22 : decode cX9_chain 22 = .ok (.invokestatic 105, 3) := by decide +kernel
theorem dX9_chain_25 : decode cX9_chain 25 = .ok (.ifCond .eq 13, 3) := by decide +kernel
theorem dX9_chain_28 : decode cX9_chain 28 = .ok (.iload 4, 2) := by decide +kernel
theorem dX9_chain_30 : decode cX9_chain 30 = .ok (.iconst 0, 1) := by decide +kernel
theorem dX9_chain_31 : decode cX9_chain 31 = .ok (.iconst 3, 1) := by decide +kernel
theorem dX9_chain_32 : decode cX9_chain 32 = .ok (.invokestatic 105, 3) := by decide +kernel
theorem dX9_chain_35 : decode cX9_chain 35 = .ok (.ifCond .ne 5, 3) := by decide +kernel
theorem dX9_chain_38 : decode cX9_chain 38 = .ok (.iconst 0, 1) := by decide +kernel
theorem dX9_chain_39 : decode cX9_chain 39 = .ok (.ireturn, 1) := by decide +kernel
theorem dX9_chain_40 : decode cX9_chain 40 = .ok (.aload_n 0, 1) := by decide +kernel
theorem dX9_chain_41 : decode cX9_chain 41 = .ok (.getfield 29, 3) := by decide +kernel
theorem dX9_chain_44 : decode cX9_chain 44 = .ok (.iload_n 1, 1) := by decide +kernel
theorem dX9_chain_45 : decode cX9_chain 45 = .ok (.aload_n 0, 1) := by decide +kernel
theorem dX9_chain_46 : decode cX9_chain 46 = .ok (.getfield 131, 3) := by decide +kernel
theorem dX9_chain_49 : decode cX9_chain 49 = .ok (.bipush 30, 2) := by decide +kernel
theorem dX9_chain_51 : decode cX9_chain 51 = .ok (.idiv, 1) := by decide +kernel
theorem dX9_chain_52 : decode cX9_chain 52 = .ok (.iastore, 1) := by decide +kernel
theorem dX9_chain_53 : decode cX9_chain 53 = .ok (.aload_n 0, 1) := by decide +kernel
theorem dX9_chain_54 : decode cX9_chain 54 = .ok (.getfield 32, 3) := by decide +kernel
theorem dX9_chain_57 : decode cX9_chain 57 = .ok (.iload_n 1, 1) := by decide +kernel
theorem dX9_chain_58 : decode cX9_chain 58 = .ok (.iload_n 2, 1) := by decide +kernel
theorem dX9_chain_59 : decode cX9_chain 59 = .ok (.iastore, 1) := by decide +kernel
theorem dX9_chain_60 : decode cX9_chain 60 = .ok (.aload_n 0, 1) := by decide +kernel
theorem dX9_chain_61 : decode cX9_chain 61 = .ok (.getfield 35, 3) := by decide +kernel
theorem dX9_chain_64 : decode cX9_chain 64 = .ok (.iload_n 1, 1) := by decide +kernel
theorem dX9_chain_65 : decode cX9_chain 65 = .ok (.iload_n 3, 1) := by decide +kernel
theorem dX9_chain_66 : decode cX9_chain 66 = .ok (.iastore, 1) := by decide +kernel
theorem dX9_chain_67 : decode cX9_chain 67 = .ok (.aload_n 0, 1) := by decide +kernel
theorem dX9_chain_68 : decode cX9_chain 68 = .ok (.getfield 38, 3) := by decide +kernel
theorem dX9_chain_71 : decode cX9_chain 71 = .ok (.iload_n 1, 1) := by decide +kernel
theorem dX9_chain_72 : decode cX9_chain 72 = .ok (.iload 4, 2) := by decide +kernel
theorem dX9_chain_74 : decode cX9_chain 74 = .ok (.iastore, 1) := by decide +kernel
theorem dX9_chain_75 : decode cX9_chain 75 = .ok (.iconst 1, 1) := by decide +kernel
theorem dX9_chain_76 : decode cX9_chain 76 = .ok (.ireturn, 1) := by decide +kernel
set_option maxRecDepth 20000 in
theorem ggX9_wear_X9_in : GoodIn wsX9_wear wsX9_in := goodIn_r _ [5] (by decide +kernel) (by decide +kernel)
set_option maxRecDepth 20000 in
theorem gX9_wear_X9_in : GoodIn wsX9_wear (va_wsS RX9 105 yX9_in wsX9_in) := goodIn_app (goodIn_of _ (by decide +kernel)) ggX9_wear_X9_in
theorem dX9_wear_0 : decode cX9_wear 0 = .ok (.iload_n 1, 1) := by decide +kernel
theorem dX9_wear_1 : decode cX9_wear 1 = .ok (.iconst 0, 1) := by decide +kernel
theorem dX9_wear_2 : decode cX9_wear 2 = .ok (.iconst 3, 1) := by decide +kernel
theorem dX9_wear_3 : decode cX9_wear 3 = .ok (.invokestatic 105, 3) := by decide +kernel
theorem dX9_wear_6 : decode cX9_wear 6 = .ok (.ifCond .eq 23, 3) := by decide +kernel
theorem dX9_wear_9 : decode cX9_wear 9 = .ok (.iload_n 2, 1) := by decide +kernel
theorem dX9_wear_10 : decode cX9_wear 10 = .ok (.iconst 0, 1) := by decide +kernel
theorem dX9_wear_11 : decode cX9_wear 11 = .ok (.bipush 11, 2) := by decide +kernel
theorem dX9_wear_13 : decode cX9_wear 13 = .ok (.invokestatic 105, 3) := by decide +kernel
theorem dX9_wear_16 : decode cX9_wear 16 = .ok (.ifCond .eq 13, 3) := by decide +kernel
theorem dX9_wear_19 : decode cX9_wear 19 = .ok (.iload_n 3, 1) := by decide +kernel
theorem dX9_wear_20 : decode cX9_wear 20 = .ok (.iconst 0, 1) := by decide +kernel
theorem dX9_wear_21 : decode cX9_wear 21 = .ok (.bipush 100, 2) := by decide +kernel
theorem dX9_wear_23 : decode cX9_wear 23 = .ok (.invokestatic 105, 3) := by decide +kernel
theorem dX9_wear_26 : decode cX9_wear 26 = .ok (.ifCond .ne 5, 3) := by decide +kernel
theorem dX9_wear_29 : decode cX9_wear 29 = .ok (.iconst 0, 1) := by decide +kernel
theorem dX9_wear_30 : decode cX9_wear 30 = .ok (.ireturn, 1) := by decide +kernel
theorem dX9_wear_31 : decode cX9_wear 31 = .ok (.aload_n 0, 1) := by decide +kernel
theorem dX9_wear_32 : decode cX9_wear 32 = .ok (.getfield 41, 3) := by decide +kernel
theorem dX9_wear_35 : decode cX9_wear 35 = .ok (.bipush 12, 2) := by decide +kernel
theorem dX9_wear_37 : decode cX9_wear 37 = .ok (.iload_n 1, 1) := by decide +kernel
theorem dX9_wear_38 : decode cX9_wear 38 = .ok (.imul, 1) := by decide +kernel
theorem dX9_wear_39 : decode cX9_wear 39 = .ok (.iload_n 2, 1) := by decide +kernel
theorem dX9_wear_40 : decode cX9_wear 40 = .ok (.iadd, 1) := by decide +kernel
theorem dX9_wear_41 : decode cX9_wear 41 = .ok (.iload_n 3, 1) := by decide +kernel
theorem dX9_wear_42 : decode cX9_wear 42 = .ok (.iastore, 1) := by decide +kernel
theorem dX9_wear_43 : decode cX9_wear 43 = .ok (.iconst 1, 1) := by decide +kernel
theorem dX9_wear_44 : decode cX9_wear 44 = .ok (.ireturn, 1) := by decide +kernel
set_option maxRecDepth 20000 in
theorem ggX9_chainOf_X9_isMark : GoodIn wsX9_chainOf wsX9_isMark := goodIn_r _ [11, 12, 13, 14, 10, 15, 16, 17, 18, 19, 20, 21, 22, 23, 24, 25, 26, 27, 28, 29, 30, 31, 32, 33, 34, 35, 36, 37, 38, 39, 40, 41, 42, 43, 44, 45, 46, 47, 48, 49, 50, 51, 52, 53, 54, 55, 56, 57, 58, 59, 60, 61] (by decide +kernel) (by decide +kernel)
set_option maxRecDepth 20000 in
theorem gX9_chainOf_X9_isMark : GoodIn wsX9_chainOf (wsV RX9 120 RX9 yX9_isMark wsX9_isMark) := goodIn_app (goodIn_of _ (by decide +kernel)) ggX9_chainOf_X9_isMark
theorem dX9_chainOf_0 : decode cX9_chainOf 0 = .ok (.aload_n 0, 1) := by decide +kernel
theorem dX9_chainOf_1 : decode cX9_chainOf 1 = .ok (.iload_n 1, 1) := by decide +kernel
theorem dX9_chainOf_2 : decode cX9_chainOf 2 = .ok (.invokevirtual 120, 3) := by decide +kernel
theorem dX9_chainOf_5 : decode cX9_chainOf 5 = .ok (.ifCond .eq 12, 3) := by decide +kernel
theorem dX9_chainOf_8 : decode cX9_chainOf 8 = .ok (.aload_n 0, 1) := by decide +kernel
theorem dX9_chainOf_9 : decode cX9_chainOf 9 = .ok (.getfield 29, 3) := by decide +kernel
theorem dX9_chainOf_12 : decode cX9_chainOf 12 = .ok (.iload_n 1, 1) := by decide +kernel
theorem dX9_chainOf_13 : decode cX9_chainOf 13 = .ok (.iaload, 1) := by decide +kernel
theorem dX9_chainOf_14 : decode cX9_chainOf 14 = .ok (.ifCond .ge 5, 3) := by decide +kernel
theorem dX9_chainOf_17 : decode cX9_chainOf 17 = .ok (.iconst (-1), 1) := by decide +kernel
theorem dX9_chainOf_18 : decode cX9_chainOf 18 = .ok (.ireturn, 1) := by decide +kernel
theorem dX9_chainOf_19 : decode cX9_chainOf 19 = .ok (.aload_n 0, 1) := by decide +kernel
theorem dX9_chainOf_20 : decode cX9_chainOf 20 = .ok (.getfield 32, 3) := by decide +kernel
theorem dX9_chainOf_23 : decode cX9_chainOf 23 = .ok (.iload_n 1, 1) := by decide +kernel
theorem dX9_chainOf_24 : decode cX9_chainOf 24 = .ok (.iaload, 1) := by decide +kernel
theorem dX9_chainOf_25 : decode cX9_chainOf 25 = .ok (.istore_n 3, 1) := by decide +kernel
theorem dX9_chainOf_26 : decode cX9_chainOf 26 = .ok (.iconst (-1), 1) := by decide +kernel
theorem dX9_chainOf_27 : decode cX9_chainOf 27 = .ok (.istore 4, 2) := by decide +kernel
theorem dX9_chainOf_29 : decode cX9_chainOf 29 = .ok (.iconst 0, 1) := by decide +kernel
theorem dX9_chainOf_30 : decode cX9_chainOf 30 = .ok (.istore 5, 2) := by decide +kernel
theorem dX9_chainOf_32 : decode cX9_chainOf 32 = .ok (.aload_n 0, 1) := by decide +kernel
theorem dX9_chainOf_33 : decode cX9_chainOf 33 = .ok (.getfield 29, 3) := by decide +kernel
theorem dX9_chainOf_36 : decode cX9_chainOf 36 = .ok (.iload_n 1, 1) := by decide +kernel
theorem dX9_chainOf_37 : decode cX9_chainOf 37 = .ok (.iaload, 1) := by decide +kernel
theorem dX9_chainOf_38 : decode cX9_chainOf 38 = .ok (.istore 6, 2) := by decide +kernel
theorem dX9_chainOf_40 : decode cX9_chainOf 40 = .ok (.iload 6, 2) := by decide +kernel
theorem dX9_chainOf_42 : decode cX9_chainOf 42 = .ok (.aload_n 0, 1) := by decide +kernel
theorem dX9_chainOf_43 : decode cX9_chainOf 43 = .ok (.getfield 29, 3) := by decide +kernel
theorem dX9_chainOf_46 : decode cX9_chainOf 46 = .ok (.iload_n 1, 1) := by decide +kernel
theorem dX9_chainOf_47 : decode cX9_chainOf 47 = .ok (.iaload, 1) := by decide +kernel
theorem dX9_chainOf_48 : decode cX9_chainOf 48 = .ok (.sipush 400, 3) := by decide +kernel
theorem dX9_chainOf_51 : decode cX9_chainOf 51 = .ok (.iadd, 1) := by decide +kernel
theorem dX9_chainOf_52 : decode cX9_chainOf 52 = .ok (.if_icmp .ge 76, 3) := by decide +kernel
theorem dX9_chainOf_55 : decode cX9_chainOf 55 = .ok (.iload_n 3, 1) := by decide +kernel
theorem dX9_chainOf_56 : decode cX9_chainOf 56 = .ok (.aload_n 0, 1) := by decide +kernel
theorem dX9_chainOf_57 : decode cX9_chainOf 57 = .ok (.getfield 41, 3) := by decide +kernel
theorem dX9_chainOf_60 : decode cX9_chainOf 60 = .ok (.bipush 12, 2) := by decide +kernel
theorem dX9_chainOf_62 : decode cX9_chainOf 62 = .ok (.aload_n 0, 1) := by decide +kernel
theorem dX9_chainOf_63 : decode cX9_chainOf 63 = .ok (.getfield 38, 3) := by decide +kernel
theorem dX9_chainOf_66 : decode cX9_chainOf 66 = .ok (.iload_n 1, 1) := by decide +kernel
theorem dX9_chainOf_67 : decode cX9_chainOf 67 = .ok (.iaload, 1) := by decide +kernel
theorem dX9_chainOf_68 : decode cX9_chainOf 68 = .ok (.imul, 1) := by decide +kernel
theorem dX9_chainOf_69 : decode cX9_chainOf 69 = .ok (.iload 6, 2) := by decide +kernel
theorem dX9_chainOf_71 : decode cX9_chainOf 71 = .ok (.bipush 12, 2) := by decide +kernel
theorem dX9_chainOf_73 : decode cX9_chainOf 73 = .ok (.irem, 1) := by decide +kernel
theorem dX9_chainOf_74 : decode cX9_chainOf 74 = .ok (.iadd, 1) := by decide +kernel
theorem dX9_chainOf_75 : decode cX9_chainOf 75 = .ok (.iaload, 1) := by decide +kernel
theorem dX9_chainOf_76 : decode cX9_chainOf 76 = .ok (.isub, 1) := by decide +kernel
theorem dX9_chainOf_77 : decode cX9_chainOf 77 = .ok (.istore_n 3, 1) := by decide +kernel
theorem dX9_chainOf_78 : decode cX9_chainOf 78 = .ok (.iload 4, 2) := by decide +kernel
theorem dX9_chainOf_80 : decode cX9_chainOf 80 = .ok (.ifCond .ge 18, 3) := by decide +kernel
theorem dX9_chainOf_83 : decode cX9_chainOf 83 = .ok (.iload_n 3, 1) := by decide +kernel
theorem dX9_chainOf_84 : decode cX9_chainOf 84 = .ok (.aload_n 0, 1) := by decide +kernel
theorem dX9_chainOf_85 : decode cX9_chainOf 85 = .ok (.getfield 35, 3) := by decide +kernel
theorem dX9_chainOf_88 : decode cX9_chainOf 88 = .ok (.iload_n 1, 1) := by decide +kernel
theorem dX9_chainOf_89 : decode cX9_chainOf 89 = .ok (.iaload, 1) := by decide +kernel
theorem dX9_chainOf_90 : decode cX9_chainOf 90 = .ok (.if_icmp .ge 8, 3) := by decide +kernel
theorem dX9_chainOf_93 : decode cX9_chainOf 93 = .ok (.iload 6, 2) := by decide +kernel
theorem dX9_chainOf_95 : decode cX9_chainOf 95 = .ok (.goto 5, 3) := by decide +kernel
theorem dX9_chainOf_98 : decode cX9_chainOf 98 = .ok (.iload 4, 2) := by decide +kernel
theorem dX9_chainOf_100 : decode cX9_chainOf 100 = .ok (.istore 4, 2) := by decide +kernel
theorem dX9_chainOf_102 : decode cX9_chainOf 102 = .ok (.iload 6, 2) := by decide +kernel
theorem dX9_chainOf_104 : decode cX9_chainOf 104 = .ok (.aload_n 0, 1) := by decide +kernel
theorem dX9_chainOf_105 : decode cX9_chainOf 105 = .ok (.getfield 131, 3) := by decide +kernel
theorem dX9_chainOf_108 : decode cX9_chainOf 108 = .ok (.bipush 30, 2) := by decide +kernel
theorem dX9_chainOf_110 : decode cX9_chainOf 110 = .ok (.idiv, 1) := by decide +kernel
theorem dX9_chainOf_111 : decode cX9_chainOf 111 = .ok (.if_icmp .ne 7, 3) := by decide +kernel
theorem dX9_chainOf_114 : decode cX9_chainOf 114 = .ok (.iload_n 3, 1) := by decide +kernel
theorem dX9_chainOf_115 : decode cX9_chainOf 115 = .ok (.goto 5, 3) := by decide +kernel
theorem dX9_chainOf_118 : decode cX9_chainOf 118 = .ok (.iload 5, 2) := by decide +kernel
theorem dX9_chainOf_120 : decode cX9_chainOf 120 = .ok (.istore 5, 2) := by decide +kernel
theorem dX9_chainOf_122 : decode cX9_chainOf 122 = .ok (.iinc 6 1, 3) := by decide +kernel
theorem dX9_chainOf_125 : decode cX9_chainOf 125 = .ok (.goto (-85), 3) := by decide +kernel
theorem dX9_chainOf_128 : decode cX9_chainOf 128 = .ok (.iload_n 2, 1) := by decide +kernel
theorem dX9_chainOf_129 : decode cX9_chainOf 129 = .ok (.ifCond .ne 17, 3) := by decide +kernel
theorem dX9_chainOf_132 : decode cX9_chainOf 132 = .ok (.iload 5, 2) := by decide +kernel
theorem dX9_chainOf_134 : decode cX9_chainOf 134 = .ok (.ifCond .ge 7, 3) := by decide +kernel
theorem dX9_chainOf_137 : decode cX9_chainOf 137 = .ok (.iconst 0, 1) := by decide +kernel
theorem dX9_chainOf_138 : decode cX9_chainOf 138 = .ok (.goto 33, 3) := by decide +kernel
theorem dX9_chainOf_141 : decode cX9_chainOf 141 = .ok (.iload 5, 2) := by decide +kernel
theorem dX9_chainOf_143 : decode cX9_chainOf 143 = .ok (.goto 28, 3) := by decide +kernel
theorem dX9_chainOf_146 : decode cX9_chainOf 146 = .ok (.iload_n 2, 1) := by decide +kernel
theorem dX9_chainOf_147 : decode cX9_chainOf 147 = .ok (.iconst 1, 1) := by decide +kernel
theorem dX9_chainOf_148 : decode cX9_chainOf 148 = .ok (.if_icmp .ne 8, 3) := by decide +kernel
theorem dX9_chainOf_151 : decode cX9_chainOf 151 = .ok (.iload 4, 2) := by decide +kernel
theorem dX9_chainOf_153 : decode cX9_chainOf 153 = .ok (.goto 18, 3) := by decide +kernel
theorem dX9_chainOf_156 : decode cX9_chainOf 156 = .ok (.iload_n 2, 1) := by decide +kernel
theorem dX9_chainOf_157 : decode cX9_chainOf 157 = .ok (.iconst 2, 1) := by decide +kernel
theorem dX9_chainOf_158 : decode cX9_chainOf 158 = .ok (.if_icmp .ne 12, 3) := by decide +kernel
theorem dX9_chainOf_161 : decode cX9_chainOf 161 = .ok (.aload_n 0, 1) := by decide +kernel
theorem dX9_chainOf_162 : decode cX9_chainOf 162 = .ok (.getfield 29, 3) := by decide +kernel
theorem dX9_chainOf_165 : decode cX9_chainOf 165 = .ok (.iload_n 1, 1) := by decide +kernel
theorem dX9_chainOf_166 : decode cX9_chainOf 166 = .ok (.iaload, 1) := by decide +kernel
theorem dX9_chainOf_167 : decode cX9_chainOf 167 = .ok (.goto 4, 3) := by decide +kernel
theorem dX9_chainOf_170 : decode cX9_chainOf 170 = .ok (.iconst (-1), 1) := by decide +kernel
theorem dX9_chainOf_171 : decode cX9_chainOf 171 = .ok (.ireturn, 1) := by decide +kernel
theorem dX9_isAlike_0 : decode cX9_isAlike 0 = .ok (.iconst 0, 1) := by decide +kernel
theorem dX9_isAlike_1 : decode cX9_isAlike 1 = .ok (.istore_n 3, 1) := by decide +kernel
theorem dX9_isAlike_2 : decode cX9_isAlike 2 = .ok (.iconst 0, 1) := by decide +kernel
theorem dX9_isAlike_3 : decode cX9_isAlike 3 = .ok (.istore 4, 2) := by decide +kernel
theorem dX9_isAlike_5 : decode cX9_isAlike 5 = .ok (.iload 4, 2) := by decide +kernel
theorem dX9_isAlike_7 : decode cX9_isAlike 7 = .ok (.aload_n 0, 1) := by decide +kernel
theorem dX9_isAlike_8 : decode cX9_isAlike 8 = .ok (.getfield 44, 3) := by decide +kernel
theorem dX9_isAlike_11 : decode cX9_isAlike 11 = .ok (.iload_n 1, 1) := by decide +kernel
theorem dX9_isAlike_12 : decode cX9_isAlike 12 = .ok (.iaload, 1) := by decide +kernel
theorem dX9_isAlike_13 : decode cX9_isAlike 13 = .ok (.if_icmp .ge 115, 3) := by decide +kernel
theorem dX9_isAlike_16 : decode cX9_isAlike 16 = .ok (.aload_n 0, 1) := by decide +kernel
theorem dX9_isAlike_17 : decode cX9_isAlike 17 = .ok (.getfield 44, 3) := by decide +kernel
theorem dX9_isAlike_20 : decode cX9_isAlike 20 = .ok (.iload_n 1, 1) := by decide +kernel
theorem dX9_isAlike_21 : decode cX9_isAlike 21 = .ok (.iaload, 1) := by decide +kernel
theorem dX9_isAlike_22 : decode cX9_isAlike 22 = .ok (.aload_n 0, 1) := by decide +kernel
theorem dX9_isAlike_23 : decode cX9_isAlike 23 = .ok (.getfield 44, 3) := by decide +kernel
theorem dX9_isAlike_26 : decode cX9_isAlike 26 = .ok (.iload_n 2, 1) := by decide +kernel
theorem dX9_isAlike_27 : decode cX9_isAlike 27 = .ok (.iaload, 1) := by decide +kernel
theorem dX9_isAlike_28 : decode cX9_isAlike 28 = .ok (.if_icmp .ne 7, 3) := by decide +kernel
theorem dX9_isAlike_31 : decode cX9_isAlike 31 = .ok (.iconst 1, 1) := by decide +kernel
theorem dX9_isAlike_32 : decode cX9_isAlike 32 = .ok (.goto 4, 3) := by decide +kernel
theorem dX9_isAlike_35 : decode cX9_isAlike 35 = .ok (.iconst 0, 1) := by decide +kernel
theorem dX9_isAlike_36 : decode cX9_isAlike 36 = .ok (.istore 5, 2) := by decide +kernel
theorem dX9_isAlike_38 : decode cX9_isAlike 38 = .ok (.iconst 0, 1) := by decide +kernel
theorem dX9_isAlike_39 : decode cX9_isAlike 39 = .ok (.istore 6, 2) := by decide +kernel
theorem dX9_isAlike_41 : decode cX9_isAlike 41 = .ok (.iload 6, 2) := by decide +kernel
theorem dX9_isAlike_43 : decode cX9_isAlike 43 = .ok (.aload_n 0, 1) := by decide +kernel
theorem dX9_isAlike_44 : decode cX9_isAlike 44 = .ok (.getfield 44, 3) := by decide +kernel
theorem dX9_isAlike_47 : decode cX9_isAlike 47 = .ok (.iload_n 1, 1) := by decide +kernel
theorem dX9_isAlike_48 : decode cX9_isAlike 48 = .ok (.iaload, 1) := by decide +kernel
theorem dX9_isAlike_49 : decode cX9_isAlike 49 = .ok (.if_icmp .ge 58, 3) := by decide +kernel
theorem dX9_isAlike_52 : decode cX9_isAlike 52 = .ok (.iload 5, 2) := by decide +kernel
theorem dX9_isAlike_54 : decode cX9_isAlike 54 = .ok (.ifCond .eq 53, 3) := by decide +kernel
theorem dX9_isAlike_57 : decode cX9_isAlike 57 = .ok (.aload_n 0, 1) := by decide +kernel
theorem dX9_isAlike_58 : decode cX9_isAlike 58 = .ok (.getfield 47, 3) := by decide +kernel
theorem dX9_isAlike_61 : decode cX9_isAlike 61 = .ok (.bipush 8, 2) := by decide +kernel
theorem dX9_isAlike_63 : decode cX9_isAlike 63 = .ok (.iload_n 1, 1) := by decide +kernel
theorem dX9_isAlike_64 : decode cX9_isAlike 64 = .ok (.imul, 1) := by decide +kernel
theorem dX9_isAlike_65 : decode cX9_isAlike 65 = .ok (.iload 4, 2) := by decide +kernel
theorem dX9_isAlike_67 : decode cX9_isAlike 67 = .ok (.iload 6, 2) := by decide +kernel
theorem dX9_isAlike_69 : decode cX9_isAlike 69 = .ok (.iadd, 1) := by decide +kernel
theorem dX9_isAlike_70 : decode cX9_isAlike 70 = .ok (.aload_n 0, 1) := by decide +kernel
theorem dX9_isAlike_71 : decode cX9_isAlike 71 = .ok (.getfield 44, 3) := by decide +kernel
theorem dX9_isAlike_74 : decode cX9_isAlike 74 = .ok (.iload_n 1, 1) := by decide +kernel
theorem dX9_isAlike_75 : decode cX9_isAlike 75 = .ok (.iaload, 1) := by decide +kernel
theorem dX9_isAlike_76 : decode cX9_isAlike 76 = .ok (.irem, 1) := by decide +kernel
theorem dX9_isAlike_77 : decode cX9_isAlike 77 = .ok (.iadd, 1) := by decide +kernel
theorem dX9_isAlike_78 : decode cX9_isAlike 78 = .ok (.iaload, 1) := by decide +kernel
theorem dX9_isAlike_79 : decode cX9_isAlike 79 = .ok (.aload_n 0, 1) := by decide +kernel
theorem dX9_isAlike_80 : decode cX9_isAlike 80 = .ok (.getfield 47, 3) := by decide +kernel
theorem dX9_isAlike_83 : decode cX9_isAlike 83 = .ok (.bipush 8, 2) := by decide +kernel
theorem dX9_isAlike_85 : decode cX9_isAlike 85 = .ok (.iload_n 2, 1) := by decide +kernel
theorem dX9_isAlike_86 : decode cX9_isAlike 86 = .ok (.imul, 1) := by decide +kernel
theorem dX9_isAlike_87 : decode cX9_isAlike 87 = .ok (.iload 6, 2) := by decide +kernel
theorem dX9_isAlike_89 : decode cX9_isAlike 89 = .ok (.iadd, 1) := by decide +kernel
theorem dX9_isAlike_90 : decode cX9_isAlike 90 = .ok (.iaload, 1) := by decide +kernel
theorem dX9_isAlike_91 : decode cX9_isAlike 91 = .ok (.if_icmp .ne 7, 3) := by decide +kernel
theorem dX9_isAlike_94 : decode cX9_isAlike 94 = .ok (.iconst 1, 1) := by decide +kernel
theorem dX9_isAlike_95 : decode cX9_isAlike 95 = .ok (.goto 4, 3) := by decide +kernel
theorem dX9_isAlike_98 : decode cX9_isAlike 98 = .ok (.iconst 0, 1) := by decide +kernel
theorem dX9_isAlike_99 : decode cX9_isAlike 99 = .ok (.istore 5, 2) := by decide +kernel
theorem dX9_isAlike_101 : decode cX9_isAlike 101 = .ok (.iinc 6 1, 3) := by decide +kernel
theorem dX9_isAlike_104 : decode cX9_isAlike 104 = .ok (.goto (-63), 3) := by decide +kernel
theorem dX9_isAlike_107 : decode cX9_isAlike 107 = .ok (.iload_n 3, 1) := by decide +kernel
theorem dX9_isAlike_108 : decode cX9_isAlike 108 = .ok (.ifCond .ne 8, 3) := by decide +kernel
theorem dX9_isAlike_111 : decode cX9_isAlike 111 = .ok (.iload 5, 2) := by decide +kernel
theorem dX9_isAlike_113 : decode cX9_isAlike 113 = .ok (.ifCond .eq 7, 3) := by decide +kernel
theorem dX9_isAlike_116 : decode cX9_isAlike 116 = .ok (.iconst 1, 1) := by decide +kernel
theorem dX9_isAlike_117 : decode cX9_isAlike 117 = .ok (.goto 4, 3) := by decide +kernel
theorem dX9_isAlike_120 : decode cX9_isAlike 120 = .ok (.iconst 0, 1) := by decide +kernel
theorem dX9_isAlike_121 : decode cX9_isAlike 121 = .ok (.istore_n 3, 1) := by decide +kernel
theorem dX9_isAlike_122 : decode cX9_isAlike 122 = .ok (.iinc 4 2, 3) := by decide +kernel
theorem dX9_isAlike_125 : decode cX9_isAlike 125 = .ok (.goto (-120), 3) := by decide +kernel
theorem dX9_isAlike_128 : decode cX9_isAlike 128 = .ok (.iload_n 3, 1) := by decide +kernel
theorem dX9_isAlike_129 : decode cX9_isAlike 129 = .ok (.ireturn, 1) := by decide +kernel
set_option maxRecDepth 20000 in
theorem ggX9_isNear_X9_square : GoodIn wsX9_isNear wsX9_square := goodIn_r _ [6] (by decide +kernel) (by decide +kernel)
set_option maxRecDepth 20000 in
theorem gX9_isNear_X9_square : GoodIn wsX9_isNear (va_wsS RX9 127 yX9_square wsX9_square) := goodIn_app (goodIn_of _ (by decide +kernel)) ggX9_isNear_X9_square
theorem dX9_isNear_0 : decode cX9_isNear 0 = .ok (.iload_n 1, 1) := by decide +kernel
theorem dX9_isNear_1 : decode cX9_isNear 1 = .ok (.iload_n 2, 1) := by decide +kernel
theorem dX9_isNear_2 : decode cX9_isNear 2 = .ok (.if_icmp .eq 40, 3) := by decide +kernel
theorem dX9_isNear_5 : decode cX9_isNear 5 = .ok (.aload_n 0, 1) := by decide +kernel
theorem dX9_isNear_6 : decode cX9_isNear 6 = .ok (.getfield 13, 3) := by decide +kernel
theorem dX9_isNear_9 : decode cX9_isNear 9 = .ok (.iload_n 1, 1) := by decide +kernel
theorem dX9_isNear_10 : decode cX9_isNear 10 = .ok (.iaload, 1) := by decide +kernel
theorem dX9_isNear_11 : decode cX9_isNear 11 = .ok (.aload_n 0, 1) := by decide +kernel
theorem dX9_isNear_12 : decode cX9_isNear 12 = .ok (.getfield 13, 3) := by decide +kernel
theorem dX9_isNear_15 : decode cX9_isNear 15 = .ok (.iload_n 2, 1) := by decide +kernel
theorem dX9_isNear_16 : decode cX9_isNear 16 = .ok (.iaload, 1) := by decide +kernel
theorem dX9_isNear_17 : decode cX9_isNear 17 = .ok (.isub, 1) := by decide +kernel
theorem dX9_isNear_18 : decode cX9_isNear 18 = .ok (.aload_n 0, 1) := by decide +kernel
theorem dX9_isNear_19 : decode cX9_isNear 19 = .ok (.getfield 16, 3) := by decide +kernel
theorem dX9_isNear_22 : decode cX9_isNear 22 = .ok (.iload_n 1, 1) := by decide +kernel
theorem dX9_isNear_23 : decode cX9_isNear 23 = .ok (.iaload, 1) := by decide +kernel
theorem dX9_isNear_24 : decode cX9_isNear 24 = .ok (.aload_n 0, 1) := by decide +kernel
theorem dX9_isNear_25 : decode cX9_isNear 25 = .ok (.getfield 16, 3) := by decide +kernel
theorem dX9_isNear_28 : decode cX9_isNear 28 = .ok (.iload_n 2, 1) := by decide +kernel
theorem dX9_isNear_29 : decode cX9_isNear 29 = .ok (.iaload, 1) := by decide +kernel
theorem dX9_isNear_30 : decode cX9_isNear 30 = .ok (.isub, 1) := by decide +kernel
theorem dX9_isNear_31 : decode cX9_isNear 31 = .ok (.invokestatic 127, 3) := by decide +kernel
theorem dX9_isNear_34 : decode cX9_isNear 34 = .ok (.iload_n 3, 1) := by decide +kernel
theorem dX9_isNear_35 : decode cX9_isNear 35 = .ok (.if_icmp .gt 7, 3) := by decide +kernel
theorem dX9_isNear_38 : decode cX9_isNear 38 = .ok (.iconst 1, 1) := by decide +kernel
theorem dX9_isNear_39 : decode cX9_isNear 39 = .ok (.goto 4, 3) := by decide +kernel
theorem dX9_isNear_42 : decode cX9_isNear 42 = .ok (.iconst 0, 1) := by decide +kernel
theorem dX9_isNear_43 : decode cX9_isNear 43 = .ok (.ireturn, 1) := by decide +kernel
set_option maxRecDepth 20000 in
theorem ggX9_clashes_X9_isNear : GoodIn wsX9_clashes wsX9_isNear := goodIn_r _ [6, 7, 8, 9, 10, 5, 11, 18, 19, 20, 21, 22, 23, 24, 25, 26, 27, 28, 29, 30, 31, 32, 33, 34, 35, 36, 37, 38, 39, 40, 41, 42, 43, 44, 45, 46, 47, 48, 49, 50, 51, 52, 53, 54, 55, 56, 57, 58, 59, 60, 61, 62, 63] (by decide +kernel) (by decide +kernel)
set_option maxRecDepth 20000 in
theorem gX9_clashes_X9_isNear : GoodIn wsX9_clashes (wsV RX9 134 RX9 yX9_isNear wsX9_isNear) := goodIn_app (goodIn_of _ (by decide +kernel)) ggX9_clashes_X9_isNear
set_option maxRecDepth 20000 in
theorem ggX9_clashes_X9_isAlike : GoodIn wsX9_clashes wsX9_isAlike := goodIn_r _ [15, 16, 17, 18, 19, 20, 21, 22, 23, 24, 25, 26, 27, 28, 29, 30, 31, 32, 33, 34, 35, 36, 37, 38, 39, 40, 41, 42, 43, 44, 45, 46, 47, 48, 49, 50, 51, 52, 53, 54, 55, 56, 57, 58, 59, 60, 61, 62, 63] (by decide +kernel) (by decide +kernel)
set_option maxRecDepth 20000 in
theorem gX9_clashes_X9_isAlike : GoodIn wsX9_clashes (wsV RX9 137 RX9 yX9_isAlike wsX9_isAlike) := goodIn_app (goodIn_of _ (by decide +kernel)) ggX9_clashes_X9_isAlike
theorem dX9_clashes_0 : decode cX9_clashes 0 = .ok (.iconst 0, 1) := by decide +kernel
theorem dX9_clashes_1 : decode cX9_clashes 1 = .ok (.istore_n 3, 1) := by decide +kernel
theorem dX9_clashes_2 : decode cX9_clashes 2 = .ok (.iconst 0, 1) := by decide +kernel
theorem dX9_clashes_3 : decode cX9_clashes 3 = .ok (.istore 4, 2) := by decide +kernel
theorem dX9_clashes_5 : decode cX9_clashes 5 = .ok (.iload 4, 2) := by decide +kernel
theorem dX9_clashes_7 : decode cX9_clashes 7 = .ok (.aload_n 0, 1) := by decide +kernel
theorem dX9_clashes_8 : decode cX9_clashes 8 = .ok (.getfield 109, 3) := by decide +kernel
theorem dX9_clashes_11 : decode cX9_clashes 11 = .ok (.if_icmp .ge 40, 3) := by decide +kernel
theorem dX9_clashes_14 : decode cX9_clashes 14 = .ok (.iload_n 3, 1) := by decide +kernel
theorem dX9_clashes_15 : decode cX9_clashes 15 = .ok (.ifCond .ne 24, 3) := by decide +kernel
theorem dX9_clashes_18 : decode cX9_clashes 18 = .ok (.aload_n 0, 1) := by decide +kernel
theorem dX9_clashes_19 : decode cX9_clashes 19 = .ok (.iload_n 1, 1) := by decide +kernel
theorem dX9_clashes_20 : decode cX9_clashes 20 = .ok (.iload 4, 2) := by decide +kernel
theorem dX9_clashes_22 : decode cX9_clashes 22 = .ok (.iload_n 2, 1) := by decide +kernel
theorem dX9_clashes_23 : decode cX9_clashes 23 = .ok (.invokevirtual 134, 3) := by decide +kernel
theorem dX9_clashes_26 : decode cX9_clashes 26 = .ok (.ifCond .eq 17, 3) := by decide +kernel
theorem dX9_clashes_29 : decode cX9_clashes 29 = .ok (.aload_n 0, 1) := by decide +kernel
theorem dX9_clashes_30 : decode cX9_clashes 30 = .ok (.iload_n 1, 1) := by decide +kernel
theorem dX9_clashes_31 : decode cX9_clashes 31 = .ok (.iload 4, 2) := by decide +kernel
theorem dX9_clashes_33 : decode cX9_clashes 33 = .ok (.invokevirtual 137, 3) := by decide +kernel
theorem dX9_clashes_36 : decode cX9_clashes 36 = .ok (.ifCond .eq 7, 3) := by decide +kernel
theorem dX9_clashes_39 : decode cX9_clashes 39 = .ok (.iconst 1, 1) := by decide +kernel
theorem dX9_clashes_40 : decode cX9_clashes 40 = .ok (.goto 4, 3) := by decide +kernel
theorem dX9_clashes_43 : decode cX9_clashes 43 = .ok (.iconst 0, 1) := by decide +kernel
theorem dX9_clashes_44 : decode cX9_clashes 44 = .ok (.istore_n 3, 1) := by decide +kernel
theorem dX9_clashes_45 : decode cX9_clashes 45 = .ok (.iinc 4 1, 3) := by decide +kernel
theorem dX9_clashes_48 : decode cX9_clashes 48 = .ok (.goto (-43), 3) := by decide +kernel
theorem dX9_clashes_51 : decode cX9_clashes 51 = .ok (.iload_n 3, 1) := by decide +kernel
theorem dX9_clashes_52 : decode cX9_clashes 52 = .ok (.ireturn, 1) := by decide +kernel
set_option maxRecDepth 20000 in
theorem ggX9_light_X9_isMark : GoodIn wsX9_light wsX9_isMark := goodIn_r _ [9, 10, 11, 12, 8, 13, 31, 32, 33, 34, 35, 36, 37, 38, 39, 40, 41, 42, 43, 44, 45, 46, 47, 48, 49, 50, 51, 52, 53, 54, 55, 56, 57, 58, 59, 60, 61, 62, 63, 64, 65, 66, 67, 68, 69, 70, 71, 72, 73, 74, 75, 76] (by decide +kernel) (by decide +kernel)
set_option maxRecDepth 20000 in
theorem gX9_light_X9_isMark : GoodIn wsX9_light (wsV RX9 120 RX9 yX9_isMark wsX9_isMark) := goodIn_app (goodIn_of _ (by decide +kernel)) ggX9_light_X9_isMark
set_option maxRecDepth 20000 in
theorem ggX9_light_X9_in : GoodIn wsX9_light wsX9_in := goodIn_r _ [13] (by decide +kernel) (by decide +kernel)
set_option maxRecDepth 20000 in
theorem gX9_light_X9_in : GoodIn wsX9_light (va_wsS RX9 105 yX9_in wsX9_in) := goodIn_app (goodIn_of _ (by decide +kernel)) ggX9_light_X9_in
set_option maxRecDepth 20000 in
theorem ggX9_light_X9_clashes : GoodIn wsX9_light wsX9_clashes := goodIn_r _ [17, 10, 18, 19, 20, 8, 21, 22, 23, 24, 25, 26, 27, 28, 29, 30, 1, 3, 31, 32, 33, 34, 35, 36, 37, 38, 39, 40, 41, 42, 43, 44, 45, 46, 47, 48, 49, 50, 51, 52, 53, 54, 55, 56, 57, 58, 59, 60, 61, 62, 63, 64, 65, 66, 67, 68, 69, 70, 71, 72, 73, 74, 75, 76] (by decide +kernel) (by decide +kernel)
set_option maxRecDepth 20000 in
theorem gX9_light_X9_clashes : GoodIn wsX9_light (wsV RX9 143 RX9 yX9_clashes wsX9_clashes) := goodIn_app (goodIn_of _ (by decide +kernel)) ggX9_light_X9_clashes
theorem dX9_light_0 : decode cX9_light 0 = .ok (.aload_n 0, 1) := by decide +kernel
theorem dX9_light_1 : decode cX9_light 1 = .ok (.iload_n 1, 1) := by decide +kernel
theorem dX9_light_2 : decode cX9_light 2 = .ok (.invokevirtual 120, 3) := by decide +kernel
theorem dX9_light_5 : decode cX9_light 5 = .ok (.ifCond .eq 20, 3) := by decide +kernel
theorem dX9_light_8 : decode cX9_light 8 = .ok (.iload_n 2, 1) := by decide +kernel
theorem dX9_light_9 : decode cX9_light 9 = .ok (.iconst 0, 1) := by decide +kernel
theorem dX9_light_10 : decode cX9_light 10 = .ok (.bipush 8, 2) := by decide +kernel
theorem dX9_light_12 : decode cX9_light 12 = .ok (.invokestatic 105, 3) := by decide +kernel
theorem dX9_light_15 : decode cX9_light 15 = .ok (.ifCond .eq 10, 3) := by decide +kernel
theorem dX9_light_18 : decode cX9_light 18 = .ok (.iload_n 2, 1) := by decide +kernel
theorem dX9_light_19 : decode cX9_light 19 = .ok (.iconst 2, 1) := by decide +kernel
theorem dX9_light_20 : decode cX9_light 20 = .ok (.irem, 1) := by decide +kernel
theorem dX9_light_21 : decode cX9_light 21 = .ok (.iconst 1, 1) := by decide +kernel
theorem dX9_light_22 : decode cX9_light 22 = .ok (.if_icmp .ne 5, 3) := by decide +kernel
theorem dX9_light_25 : decode cX9_light 25 = .ok (.iconst 0, 1) := by decide +kernel
theorem dX9_light_26 : decode cX9_light 26 = .ok (.ireturn, 1) := by decide +kernel
theorem dX9_light_27 : decode cX9_light 27 = .ok (.aload_n 0, 1) := by decide +kernel
theorem dX9_light_28 : decode cX9_light 28 = .ok (.getfield 44, 3) := by decide +kernel
theorem dX9_light_31 : decode cX9_light 31 = .ok (.iload_n 1, 1) := by decide +kernel
theorem dX9_light_32 : decode cX9_light 32 = .ok (.iaload, 1) := by decide +kernel
theorem dX9_light_33 : decode cX9_light 33 = .ok (.istore 4, 2) := by decide +kernel
theorem dX9_light_35 : decode cX9_light 35 = .ok (.iload_n 3, 1) := by decide +kernel
theorem dX9_light_36 : decode cX9_light 36 = .ok (.istore 5, 2) := by decide +kernel
theorem dX9_light_38 : decode cX9_light 38 = .ok (.iload_n 2, 1) := by decide +kernel
theorem dX9_light_39 : decode cX9_light 39 = .ok (.ifCond .eq 7, 3) := by decide +kernel
theorem dX9_light_42 : decode cX9_light 42 = .ok (.iload_n 3, 1) := by decide +kernel
theorem dX9_light_43 : decode cX9_light 43 = .ok (.ifCond .le 7, 3) := by decide +kernel
theorem dX9_light_46 : decode cX9_light 46 = .ok (.iconst 1, 1) := by decide +kernel
theorem dX9_light_47 : decode cX9_light 47 = .ok (.goto 4, 3) := by decide +kernel
theorem dX9_light_50 : decode cX9_light 50 = .ok (.iconst 0, 1) := by decide +kernel
theorem dX9_light_51 : decode cX9_light 51 = .ok (.istore 6, 2) := by decide +kernel
theorem dX9_light_53 : decode cX9_light 53 = .ok (.iconst 0, 1) := by decide +kernel
theorem dX9_light_54 : decode cX9_light 54 = .ok (.istore 7, 2) := by decide +kernel
theorem dX9_light_56 : decode cX9_light 56 = .ok (.iload 7, 2) := by decide +kernel
theorem dX9_light_58 : decode cX9_light 58 = .ok (.bipush 8, 2) := by decide +kernel
theorem dX9_light_60 : decode cX9_light 60 = .ok (.if_icmp .ge 28, 3) := by decide +kernel
theorem dX9_light_63 : decode cX9_light 63 = .ok (.aload_n 0, 1) := by decide +kernel
theorem dX9_light_64 : decode cX9_light 64 = .ok (.getfield 87, 3) := by decide +kernel
theorem dX9_light_67 : decode cX9_light 67 = .ok (.iload 7, 2) := by decide +kernel
theorem dX9_light_69 : decode cX9_light 69 = .ok (.aload_n 0, 1) := by decide +kernel
theorem dX9_light_70 : decode cX9_light 70 = .ok (.getfield 47, 3) := by decide +kernel
theorem dX9_light_73 : decode cX9_light 73 = .ok (.bipush 8, 2) := by decide +kernel
theorem dX9_light_75 : decode cX9_light 75 = .ok (.iload_n 1, 1) := by decide +kernel
theorem dX9_light_76 : decode cX9_light 76 = .ok (.imul, 1) := by decide +kernel
theorem dX9_light_77 : decode cX9_light 77 = .ok (.iload 7, 2) := by decide +kernel
theorem dX9_light_79 : decode cX9_light 79 = .ok (.iadd, 1) := by decide +kernel
theorem dX9_light_80 : decode cX9_light 80 = .ok (.iaload, 1) := by decide +kernel
theorem dX9_light_81 : decode cX9_light 81 = .ok (.iastore, 1) := by decide +kernel
theorem dX9_light_82 : decode cX9_light 82 = .ok (.iinc 7 1, 3) := by decide +kernel
theorem dX9_light_85 : decode cX9_light 85 = .ok (.goto (-29), 3) := by decide +kernel
theorem dX9_light_88 : decode cX9_light 88 = .ok (.iconst 0, 1) := by decide +kernel
theorem dX9_light_89 : decode cX9_light 89 = .ok (.istore 7, 2) := by decide +kernel
theorem dX9_light_91 : decode cX9_light 91 = .ok (.iload 7, 2) := by decide +kernel
theorem dX9_light_93 : decode cX9_light 93 = .ok (.iload_n 2, 1) := by decide +kernel
theorem dX9_light_94 : decode cX9_light 94 = .ok (.if_icmp .ge 53, 3) := by decide +kernel
theorem dX9_light_97 : decode cX9_light 97 = .ok (.iload 6, 2) := by decide +kernel
theorem dX9_light_99 : decode cX9_light 99 = .ok (.ifCond .eq 48, 3) := by decide +kernel
theorem dX9_light_102 : decode cX9_light 102 = .ok (.aload_n 0, 1) := by decide +kernel
theorem dX9_light_103 : decode cX9_light 103 = .ok (.getfield 47, 3) := by decide +kernel
theorem dX9_light_106 : decode cX9_light 106 = .ok (.bipush 8, 2) := by decide +kernel
theorem dX9_light_108 : decode cX9_light 108 = .ok (.iload_n 1, 1) := by decide +kernel
theorem dX9_light_109 : decode cX9_light 109 = .ok (.imul, 1) := by decide +kernel
theorem dX9_light_110 : decode cX9_light 110 = .ok (.iload 7, 2) := by decide +kernel
theorem dX9_light_112 : decode cX9_light 112 = .ok (.iadd, 1) := by decide +kernel
theorem dX9_light_113 : decode cX9_light 113 = .ok (.iload 5, 2) := by decide +kernel
theorem dX9_light_115 : decode cX9_light 115 = .ok (.bipush 10, 2) := by decide +kernel
theorem dX9_light_117 : decode cX9_light 117 = .ok (.irem, 1) := by decide +kernel
theorem dX9_light_118 : decode cX9_light 118 = .ok (.iastore, 1) := by decide +kernel
theorem dX9_light_119 : decode cX9_light 119 = .ok (.iload 5, 2) := by decide +kernel
theorem dX9_light_121 : decode cX9_light 121 = .ok (.bipush 10, 2) := by decide +kernel
theorem dX9_light_123 : decode cX9_light 123 = .ok (.irem, 1) := by decide +kernel
theorem dX9_light_124 : decode cX9_light 124 = .ok (.ifCond .le 7, 3) := by decide +kernel
theorem dX9_light_127 : decode cX9_light 127 = .ok (.iconst 1, 1) := by decide +kernel
theorem dX9_light_128 : decode cX9_light 128 = .ok (.goto 4, 3) := by decide +kernel
theorem dX9_light_131 : decode cX9_light 131 = .ok (.iconst 0, 1) := by decide +kernel
theorem dX9_light_132 : decode cX9_light 132 = .ok (.istore 6, 2) := by decide +kernel
theorem dX9_light_134 : decode cX9_light 134 = .ok (.iload 5, 2) := by decide +kernel
theorem dX9_light_136 : decode cX9_light 136 = .ok (.bipush 10, 2) := by decide +kernel
theorem dX9_light_138 : decode cX9_light 138 = .ok (.idiv, 1) := by decide +kernel
theorem dX9_light_139 : decode cX9_light 139 = .ok (.istore 5, 2) := by decide +kernel
theorem dX9_light_141 : decode cX9_light 141 = .ok (.iinc 7 1, 3) := by decide +kernel
theorem dX9_light_144 : decode cX9_light 144 = .ok (.goto (-53), 3) := by decide +kernel
theorem dX9_light_147 : decode cX9_light 147 = .ok (.aload_n 0, 1) := by decide +kernel
theorem dX9_light_148 : decode cX9_light 148 = .ok (.getfield 44, 3) := by decide +kernel
theorem dX9_light_151 : decode cX9_light 151 = .ok (.iload_n 1, 1) := by decide +kernel
theorem dX9_light_152 : decode cX9_light 152 = .ok (.iload_n 2, 1) := by decide +kernel
theorem dX9_light_153 : decode cX9_light 153 = .ok (.iastore, 1) := by decide +kernel
theorem dX9_light_154 : decode cX9_light 154 = .ok (.iload 6, 2) := by decide +kernel
theorem dX9_light_156 : decode cX9_light 156 = .ok (.ifCond .eq 26, 3) := by decide +kernel
theorem dX9_light_159 : decode cX9_light 159 = .ok (.iload_n 2, 1) := by decide +kernel
theorem dX9_light_160 : decode cX9_light 160 = .ok (.ifCond .eq 8, 3) := by decide +kernel
theorem dX9_light_163 : decode cX9_light 163 = .ok (.iload 5, 2) := by decide +kernel
theorem dX9_light_165 : decode cX9_light 165 = .ok (.ifCond .ne 17, 3) := by decide +kernel
theorem dX9_light_168 : decode cX9_light 168 = .ok (.aload_n 0, 1) := by decide +kernel
theorem dX9_light_169 : decode cX9_light 169 = .ok (.iload_n 1, 1) := by decide +kernel
theorem dX9_light_170 : decode cX9_light 170 = .ok (.aload_n 0, 1) := by decide +kernel
theorem dX9_light_171 : decode cX9_light 171 = .ok (.getfield 140, 3) := by decide +kernel
theorem dX9_light_174 : decode cX9_light 174 = .ok (.invokevirtual 143, 3) := by decide +kernel
theorem dX9_light_177 : decode cX9_light 177 = .ok (.ifCond .ne 5, 3) := by decide +kernel
theorem dX9_light_180 : decode cX9_light 180 = .ok (.iconst 1, 1) := by decide +kernel
theorem dX9_light_181 : decode cX9_light 181 = .ok (.ireturn, 1) := by decide +kernel
theorem dX9_light_182 : decode cX9_light 182 = .ok (.aload_n 0, 1) := by decide +kernel
theorem dX9_light_183 : decode cX9_light 183 = .ok (.getfield 44, 3) := by decide +kernel
theorem dX9_light_186 : decode cX9_light 186 = .ok (.iload_n 1, 1) := by decide +kernel
theorem dX9_light_187 : decode cX9_light 187 = .ok (.iload 4, 2) := by decide +kernel
theorem dX9_light_189 : decode cX9_light 189 = .ok (.iastore, 1) := by decide +kernel
theorem dX9_light_190 : decode cX9_light 190 = .ok (.iconst 0, 1) := by decide +kernel
theorem dX9_light_191 : decode cX9_light 191 = .ok (.istore 7, 2) := by decide +kernel
theorem dX9_light_193 : decode cX9_light 193 = .ok (.iload 7, 2) := by decide +kernel
end
section
theorem dX9_light_195 : decode cX9_light 195 = .ok (.bipush 8, 2) := by decide +kernel
theorem dX9_light_197 : decode cX9_light 197 = .ok (.if_icmp .ge 28, 3) := by decide +kernel
theorem dX9_light_200 : decode cX9_light 200 = .ok (.aload_n 0, 1) := by decide +kernel
theorem dX9_light_201 : decode cX9_light 201 = .ok (.getfield 47, 3) := by decide +kernel
theorem dX9_light_204 : decode cX9_light 204 = .ok (.bipush 8, 2) := by decide +kernel
theorem dX9_light_206 : decode cX9_light 206 = .ok (.iload_n 1, 1) := by decide +kernel
theorem dX9_light_207 : decode cX9_light 207 = .ok (.imul, 1) := by decide +kernel
theorem dX9_light_208 : decode cX9_light 208 = .ok (.iload 7, 2) := by decide +kernel
theorem dX9_light_210 : decode cX9_light 210 = .ok (.iadd, 1) := by decide +kernel
theorem dX9_light_211 : decode cX9_light 211 = .ok (.aload_n 0, 1) := by decide +kernel
theorem dX9_light_212 : decode cX9_light 212 = .ok (.getfield 87, 3) := by decide +kernel
theorem dX9_light_215 : decode cX9_light 215 = .ok (.iload 7, 2) := by decide +kernel
theorem dX9_light_217 : decode cX9_light 217 = .ok (.iaload, 1) := by decide +kernel
theorem dX9_light_218 : decode cX9_light 218 = .ok (.iastore, 1) := by decide +kernel
theorem dX9_light_219 : decode cX9_light 219 = .ok (.iinc 7 1, 3) := by decide +kernel
theorem dX9_light_222 : decode cX9_light 222 = .ok (.goto (-29), 3) := by decide +kernel
theorem dX9_light_225 : decode cX9_light 225 = .ok (.iconst 0, 1) := by decide +kernel
theorem dX9_light_226 : decode cX9_light 226 = .ok (.ireturn, 1) := by decide +kernel
set_option maxRecDepth 20000 in
theorem ggX9_near_X9_in : GoodIn wsX9_near wsX9_in := goodIn_r _ [6] (by decide +kernel) (by decide +kernel)
set_option maxRecDepth 20000 in
theorem gX9_near_X9_in : GoodIn wsX9_near (va_wsS RX9 105 yX9_in wsX9_in) := goodIn_app (goodIn_of _ (by decide +kernel)) ggX9_near_X9_in
set_option maxRecDepth 20000 in
theorem ggX9_near_X9_clashes : GoodIn wsX9_near wsX9_clashes := goodIn_r _ [10, 1, 11, 12, 13, 5, 14, 15, 16, 17, 18, 19, 20, 21, 22, 23, 24, 25, 26, 27, 28, 29, 30, 31, 32, 33, 34, 35, 36, 37, 38, 39, 40, 41, 42, 43, 44, 45, 46, 47, 48, 49, 50, 51, 52, 53, 54, 55, 56, 57, 58, 59, 60, 61, 62, 63, 64, 65, 66, 67, 68, 69, 70, 71] (by decide +kernel) (by decide +kernel)
set_option maxRecDepth 20000 in
theorem gX9_near_X9_clashes : GoodIn wsX9_near (wsV RX9 143 RX9 yX9_clashes wsX9_clashes) := goodIn_app (goodIn_of _ (by decide +kernel)) ggX9_near_X9_clashes
theorem dX9_near_0 : decode cX9_near 0 = .ok (.iload_n 1, 1) := by decide +kernel
theorem dX9_near_1 : decode cX9_near 1 = .ok (.iconst 0, 1) := by decide +kernel
theorem dX9_near_2 : decode cX9_near 2 = .ok (.sipush 5000, 3) := by decide +kernel
theorem dX9_near_5 : decode cX9_near 5 = .ok (.invokestatic 105, 3) := by decide +kernel
theorem dX9_near_8 : decode cX9_near 8 = .ok (.ifCond .ne 5, 3) := by decide +kernel
theorem dX9_near_11 : decode cX9_near 11 = .ok (.iconst 0, 1) := by decide +kernel
theorem dX9_near_12 : decode cX9_near 12 = .ok (.ireturn, 1) := by decide +kernel
theorem dX9_near_13 : decode cX9_near 13 = .ok (.iconst 0, 1) := by decide +kernel
theorem dX9_near_14 : decode cX9_near 14 = .ok (.istore_n 2, 1) := by decide +kernel
theorem dX9_near_15 : decode cX9_near 15 = .ok (.iload_n 2, 1) := by decide +kernel
theorem dX9_near_16 : decode cX9_near 16 = .ok (.aload_n 0, 1) := by decide +kernel
theorem dX9_near_17 : decode cX9_near 17 = .ok (.getfield 109, 3) := by decide +kernel
theorem dX9_near_20 : decode cX9_near 20 = .ok (.if_icmp .ge 20, 3) := by decide +kernel
theorem dX9_near_23 : decode cX9_near 23 = .ok (.aload_n 0, 1) := by decide +kernel
theorem dX9_near_24 : decode cX9_near 24 = .ok (.iload_n 2, 1) := by decide +kernel
theorem dX9_near_25 : decode cX9_near 25 = .ok (.iload_n 1, 1) := by decide +kernel
theorem dX9_near_26 : decode cX9_near 26 = .ok (.invokevirtual 143, 3) := by decide +kernel
theorem dX9_near_29 : decode cX9_near 29 = .ok (.ifCond .eq 5, 3) := by decide +kernel
theorem dX9_near_32 : decode cX9_near 32 = .ok (.iconst 0, 1) := by decide +kernel
theorem dX9_near_33 : decode cX9_near 33 = .ok (.ireturn, 1) := by decide +kernel
theorem dX9_near_34 : decode cX9_near 34 = .ok (.iinc 2 1, 3) := by decide +kernel
theorem dX9_near_37 : decode cX9_near 37 = .ok (.goto (-22), 3) := by decide +kernel
theorem dX9_near_40 : decode cX9_near 40 = .ok (.aload_n 0, 1) := by decide +kernel
theorem dX9_near_41 : decode cX9_near 41 = .ok (.iload_n 1, 1) := by decide +kernel
theorem dX9_near_42 : decode cX9_near 42 = .ok (.putfield 140, 3) := by decide +kernel
theorem dX9_near_45 : decode cX9_near 45 = .ok (.iconst 1, 1) := by decide +kernel
theorem dX9_near_46 : decode cX9_near 46 = .ok (.ireturn, 1) := by decide +kernel
set_option maxRecDepth 20000 in
theorem ggX9_alike_X9_isMark : GoodIn wsX9_alike wsX9_isMark := goodIn_r _ [6, 7, 8, 9, 5, 10, 16, 17, 18, 19, 20, 21, 22, 23, 24, 25, 26, 27, 28, 29, 30, 31, 32, 33, 34, 35, 36, 37, 38, 39, 40, 41, 42, 43, 44, 45, 46, 47, 48, 49, 50, 51, 52, 53, 54, 55, 56, 57, 58, 59, 60, 61] (by decide +kernel) (by decide +kernel)
set_option maxRecDepth 20000 in
theorem gX9_alike_X9_isMark : GoodIn wsX9_alike (wsV RX9 120 RX9 yX9_isMark wsX9_isMark) := goodIn_app (goodIn_of _ (by decide +kernel)) ggX9_alike_X9_isMark
set_option maxRecDepth 20000 in
theorem ggX9_alike_X9_isAlike : GoodIn wsX9_alike wsX9_isAlike := goodIn_r _ [14, 1, 15, 16, 17, 18, 19, 20, 21, 22, 23, 24, 25, 26, 27, 28, 29, 30, 31, 32, 33, 34, 35, 36, 37, 38, 39, 40, 41, 42, 43, 44, 45, 46, 47, 48, 49, 50, 51, 52, 53, 54, 55, 56, 57, 58, 59, 60, 61] (by decide +kernel) (by decide +kernel)
set_option maxRecDepth 20000 in
theorem gX9_alike_X9_isAlike : GoodIn wsX9_alike (wsV RX9 137 RX9 yX9_isAlike wsX9_isAlike) := goodIn_app (goodIn_of _ (by decide +kernel)) ggX9_alike_X9_isAlike
theorem dX9_alike_0 : decode cX9_alike 0 = .ok (.aload_n 0, 1) := by decide +kernel
theorem dX9_alike_1 : decode cX9_alike 1 = .ok (.iload_n 1, 1) := by decide +kernel
theorem dX9_alike_2 : decode cX9_alike 2 = .ok (.invokevirtual 120, 3) := by decide +kernel
theorem dX9_alike_5 : decode cX9_alike 5 = .ok (.ifCond .eq 34, 3) := by decide +kernel
theorem dX9_alike_8 : decode cX9_alike 8 = .ok (.aload_n 0, 1) := by decide +kernel
theorem dX9_alike_9 : decode cX9_alike 9 = .ok (.iload_n 2, 1) := by decide +kernel
theorem dX9_alike_10 : decode cX9_alike 10 = .ok (.invokevirtual 120, 3) := by decide +kernel
theorem dX9_alike_13 : decode cX9_alike 13 = .ok (.ifCond .eq 26, 3) := by decide +kernel
theorem dX9_alike_16 : decode cX9_alike 16 = .ok (.iload_n 1, 1) := by decide +kernel
theorem dX9_alike_17 : decode cX9_alike 17 = .ok (.iload_n 2, 1) := by decide +kernel
theorem dX9_alike_18 : decode cX9_alike 18 = .ok (.if_icmp .eq 21, 3) := by decide +kernel
theorem dX9_alike_21 : decode cX9_alike 21 = .ok (.aload_n 0, 1) := by decide +kernel
theorem dX9_alike_22 : decode cX9_alike 22 = .ok (.getfield 44, 3) := by decide +kernel
theorem dX9_alike_25 : decode cX9_alike 25 = .ok (.iload_n 1, 1) := by decide +kernel
theorem dX9_alike_26 : decode cX9_alike 26 = .ok (.iaload, 1) := by decide +kernel
theorem dX9_alike_27 : decode cX9_alike 27 = .ok (.ifCond .eq 12, 3) := by decide +kernel
theorem dX9_alike_30 : decode cX9_alike 30 = .ok (.aload_n 0, 1) := by decide +kernel
theorem dX9_alike_31 : decode cX9_alike 31 = .ok (.getfield 44, 3) := by decide +kernel
theorem dX9_alike_34 : decode cX9_alike 34 = .ok (.iload_n 2, 1) := by decide +kernel
theorem dX9_alike_35 : decode cX9_alike 35 = .ok (.iaload, 1) := by decide +kernel
theorem dX9_alike_36 : decode cX9_alike 36 = .ok (.ifCond .ne 5, 3) := by decide +kernel
theorem dX9_alike_39 : decode cX9_alike 39 = .ok (.iconst (-1), 1) := by decide +kernel
theorem dX9_alike_40 : decode cX9_alike 40 = .ok (.ireturn, 1) := by decide +kernel
theorem dX9_alike_41 : decode cX9_alike 41 = .ok (.aload_n 0, 1) := by decide +kernel
theorem dX9_alike_42 : decode cX9_alike 42 = .ok (.iload_n 1, 1) := by decide +kernel
theorem dX9_alike_43 : decode cX9_alike 43 = .ok (.iload_n 2, 1) := by decide +kernel
theorem dX9_alike_44 : decode cX9_alike 44 = .ok (.invokevirtual 137, 3) := by decide +kernel
theorem dX9_alike_47 : decode cX9_alike 47 = .ok (.ifCond .eq 7, 3) := by decide +kernel
theorem dX9_alike_50 : decode cX9_alike 50 = .ok (.iconst 1, 1) := by decide +kernel
theorem dX9_alike_51 : decode cX9_alike 51 = .ok (.goto 4, 3) := by decide +kernel
theorem dX9_alike_54 : decode cX9_alike 54 = .ok (.iconst 0, 1) := by decide +kernel
theorem dX9_alike_55 : decode cX9_alike 55 = .ok (.ireturn, 1) := by decide +kernel
set_option maxRecDepth 20000 in
theorem ggX9_warn_X9_isMark : GoodIn wsX9_warn wsX9_isMark := goodIn_r _ [11, 12, 13, 14, 10, 15, 16, 17, 18, 19, 20, 21, 22, 23, 24, 25, 26, 27, 28, 29, 30, 31, 32, 33, 34, 35, 36, 37, 38, 39, 40, 41, 42, 43, 44, 45, 46, 47, 48, 49, 50, 51, 52, 53, 54, 55, 56, 57, 58, 59, 60, 61] (by decide +kernel) (by decide +kernel)
set_option maxRecDepth 20000 in
theorem gX9_warn_X9_isMark : GoodIn wsX9_warn (wsV RX9 120 RX9 yX9_isMark wsX9_isMark) := goodIn_app (goodIn_of _ (by decide +kernel)) ggX9_warn_X9_isMark
set_option maxRecDepth 20000 in
theorem ggX9_warn_X9_in : GoodIn wsX9_warn wsX9_in := goodIn_r _ [15] (by decide +kernel) (by decide +kernel)
set_option maxRecDepth 20000 in
theorem gX9_warn_X9_in : GoodIn wsX9_warn (va_wsS RX9 105 yX9_in wsX9_in) := goodIn_app (goodIn_of _ (by decide +kernel)) ggX9_warn_X9_in
theorem dX9_warn_0 : decode cX9_warn 0 = .ok (.aload_n 0, 1) := by decide +kernel
theorem dX9_warn_1 : decode cX9_warn 1 = .ok (.iload_n 1, 1) := by decide +kernel
theorem dX9_warn_2 : decode cX9_warn 2 = .ok (.invokevirtual 120, 3) := by decide +kernel
theorem dX9_warn_5 : decode cX9_warn 5 = .ok (.ifCond .eq 22, 3) := by decide +kernel
theorem dX9_warn_8 : decode cX9_warn 8 = .ok (.iload_n 2, 1) := by decide +kernel
theorem dX9_warn_9 : decode cX9_warn 9 = .ok (.iconst 1, 1) := by decide +kernel
theorem dX9_warn_10 : decode cX9_warn 10 = .ok (.bipush 9, 2) := by decide +kernel
theorem dX9_warn_12 : decode cX9_warn 12 = .ok (.invokestatic 105, 3) := by decide +kernel
theorem dX9_warn_15 : decode cX9_warn 15 = .ok (.ifCond .eq 12, 3) := by decide +kernel
theorem dX9_warn_18 : decode cX9_warn 18 = .ok (.aload_n 0, 1) := by decide +kernel
theorem dX9_warn_19 : decode cX9_warn 19 = .ok (.getfield 146, 3) := by decide +kernel
theorem dX9_warn_22 : decode cX9_warn 22 = .ok (.bipush 100, 2) := by decide +kernel
theorem dX9_warn_24 : decode cX9_warn 24 = .ok (.if_icmp .ne 5, 3) := by decide +kernel
theorem dX9_warn_27 : decode cX9_warn 27 = .ok (.iconst (-1), 1) := by decide +kernel
theorem dX9_warn_28 : decode cX9_warn 28 = .ok (.ireturn, 1) := by decide +kernel
theorem dX9_warn_29 : decode cX9_warn 29 = .ok (.iconst 0, 1) := by decide +kernel
theorem dX9_warn_30 : decode cX9_warn 30 = .ok (.istore_n 3, 1) := by decide +kernel
theorem dX9_warn_31 : decode cX9_warn 31 = .ok (.iload_n 3, 1) := by decide +kernel
theorem dX9_warn_32 : decode cX9_warn 32 = .ok (.aload_n 0, 1) := by decide +kernel
theorem dX9_warn_33 : decode cX9_warn 33 = .ok (.getfield 146, 3) := by decide +kernel
theorem dX9_warn_36 : decode cX9_warn 36 = .ok (.if_icmp .ge 40, 3) := by decide +kernel
theorem dX9_warn_39 : decode cX9_warn 39 = .ok (.aload_n 0, 1) := by decide +kernel
theorem dX9_warn_40 : decode cX9_warn 40 = .ok (.getfield 50, 3) := by decide +kernel
theorem dX9_warn_43 : decode cX9_warn 43 = .ok (.iload_n 3, 1) := by decide +kernel
theorem dX9_warn_44 : decode cX9_warn 44 = .ok (.iaload, 1) := by decide +kernel
theorem dX9_warn_45 : decode cX9_warn 45 = .ok (.iload_n 1, 1) := by decide +kernel
theorem dX9_warn_46 : decode cX9_warn 46 = .ok (.if_icmp .ne 24, 3) := by decide +kernel
theorem dX9_warn_49 : decode cX9_warn 49 = .ok (.aload_n 0, 1) := by decide +kernel
theorem dX9_warn_50 : decode cX9_warn 50 = .ok (.getfield 53, 3) := by decide +kernel
theorem dX9_warn_53 : decode cX9_warn 53 = .ok (.iload_n 3, 1) := by decide +kernel
theorem dX9_warn_54 : decode cX9_warn 54 = .ok (.iaload, 1) := by decide +kernel
theorem dX9_warn_55 : decode cX9_warn 55 = .ok (.iload_n 2, 1) := by decide +kernel
theorem dX9_warn_56 : decode cX9_warn 56 = .ok (.if_icmp .ne 14, 3) := by decide +kernel
theorem dX9_warn_59 : decode cX9_warn 59 = .ok (.aload_n 0, 1) := by decide +kernel
theorem dX9_warn_60 : decode cX9_warn 60 = .ok (.getfield 59, 3) := by decide +kernel
theorem dX9_warn_63 : decode cX9_warn 63 = .ok (.iload_n 3, 1) := by decide +kernel
theorem dX9_warn_64 : decode cX9_warn 64 = .ok (.iaload, 1) := by decide +kernel
theorem dX9_warn_65 : decode cX9_warn 65 = .ok (.ifCond .ge 5, 3) := by decide +kernel
theorem dX9_warn_68 : decode cX9_warn 68 = .ok (.iconst (-1), 1) := by decide +kernel
theorem dX9_warn_69 : decode cX9_warn 69 = .ok (.ireturn, 1) := by decide +kernel
theorem dX9_warn_70 : decode cX9_warn 70 = .ok (.iinc 3 1, 3) := by decide +kernel
theorem dX9_warn_73 : decode cX9_warn 73 = .ok (.goto (-42), 3) := by decide +kernel
theorem dX9_warn_76 : decode cX9_warn 76 = .ok (.aload_n 0, 1) := by decide +kernel
theorem dX9_warn_77 : decode cX9_warn 77 = .ok (.getfield 50, 3) := by decide +kernel
theorem dX9_warn_80 : decode cX9_warn 80 = .ok (.aload_n 0, 1) := by decide +kernel
theorem dX9_warn_81 : decode cX9_warn 81 = .ok (.getfield 146, 3) := by decide +kernel
theorem dX9_warn_84 : decode cX9_warn 84 = .ok (.iload_n 1, 1) := by decide +kernel
theorem dX9_warn_85 : decode cX9_warn 85 = .ok (.iastore, 1) := by decide +kernel
theorem dX9_warn_86 : decode cX9_warn 86 = .ok (.aload_n 0, 1) := by decide +kernel
theorem dX9_warn_87 : decode cX9_warn 87 = .ok (.getfield 53, 3) := by decide +kernel
theorem dX9_warn_90 : decode cX9_warn 90 = .ok (.aload_n 0, 1) := by decide +kernel
theorem dX9_warn_91 : decode cX9_warn 91 = .ok (.getfield 146, 3) := by decide +kernel
theorem dX9_warn_94 : decode cX9_warn 94 = .ok (.iload_n 2, 1) := by decide +kernel
theorem dX9_warn_95 : decode cX9_warn 95 = .ok (.iastore, 1) := by decide +kernel
theorem dX9_warn_96 : decode cX9_warn 96 = .ok (.aload_n 0, 1) := by decide +kernel
theorem dX9_warn_97 : decode cX9_warn 97 = .ok (.getfield 56, 3) := by decide +kernel
theorem dX9_warn_100 : decode cX9_warn 100 = .ok (.aload_n 0, 1) := by decide +kernel
theorem dX9_warn_101 : decode cX9_warn 101 = .ok (.getfield 146, 3) := by decide +kernel
theorem dX9_warn_104 : decode cX9_warn 104 = .ok (.aload_n 0, 1) := by decide +kernel
theorem dX9_warn_105 : decode cX9_warn 105 = .ok (.getfield 131, 3) := by decide +kernel
theorem dX9_warn_108 : decode cX9_warn 108 = .ok (.iastore, 1) := by decide +kernel
theorem dX9_warn_109 : decode cX9_warn 109 = .ok (.aload_n 0, 1) := by decide +kernel
theorem dX9_warn_110 : decode cX9_warn 110 = .ok (.getfield 59, 3) := by decide +kernel
theorem dX9_warn_113 : decode cX9_warn 113 = .ok (.aload_n 0, 1) := by decide +kernel
theorem dX9_warn_114 : decode cX9_warn 114 = .ok (.getfield 146, 3) := by decide +kernel
theorem dX9_warn_117 : decode cX9_warn 117 = .ok (.iconst (-1), 1) := by decide +kernel
theorem dX9_warn_118 : decode cX9_warn 118 = .ok (.iastore, 1) := by decide +kernel
theorem dX9_warn_119 : decode cX9_warn 119 = .ok (.aload_n 0, 1) := by decide +kernel
theorem dX9_warn_120 : decode cX9_warn 120 = .ok (.dup, 1) := by decide +kernel
theorem dX9_warn_121 : decode cX9_warn 121 = .ok (.getfield 146, 3) := by decide +kernel
theorem dX9_warn_124 : decode cX9_warn 124 = .ok (.iconst 1, 1) := by decide +kernel
theorem dX9_warn_125 : decode cX9_warn 125 = .ok (.iadd, 1) := by decide +kernel
theorem dX9_warn_126 : decode cX9_warn 126 = .ok (.putfield 146, 3) := by decide +kernel
theorem dX9_warn_129 : decode cX9_warn 129 = .ok (.aload_n 0, 1) := by decide +kernel
theorem dX9_warn_130 : decode cX9_warn 130 = .ok (.getfield 146, 3) := by decide +kernel
theorem dX9_warn_133 : decode cX9_warn 133 = .ok (.iconst 1, 1) := by decide +kernel
theorem dX9_warn_134 : decode cX9_warn 134 = .ok (.isub, 1) := by decide +kernel
theorem dX9_warn_135 : decode cX9_warn 135 = .ok (.ireturn, 1) := by decide +kernel
set_option maxRecDepth 20000 in
theorem ggX9_cancel_X9_in : GoodIn wsX9_cancel wsX9_in := goodIn_r _ [7] (by decide +kernel) (by decide +kernel)
set_option maxRecDepth 20000 in
theorem gX9_cancel_X9_in : GoodIn wsX9_cancel (va_wsS RX9 105 yX9_in wsX9_in) := goodIn_app (goodIn_of _ (by decide +kernel)) ggX9_cancel_X9_in
theorem dX9_cancel_0 : decode cX9_cancel 0 = .ok (.iload_n 1, 1) := by decide +kernel
theorem dX9_cancel_1 : decode cX9_cancel 1 = .ok (.iconst 0, 1) := by decide +kernel
theorem dX9_cancel_2 : decode cX9_cancel 2 = .ok (.aload_n 0, 1) := by decide +kernel
theorem dX9_cancel_3 : decode cX9_cancel 3 = .ok (.getfield 146, 3) := by decide +kernel
theorem dX9_cancel_6 : decode cX9_cancel 6 = .ok (.iconst 1, 1) := by decide +kernel
theorem dX9_cancel_7 : decode cX9_cancel 7 = .ok (.isub, 1) := by decide +kernel
theorem dX9_cancel_8 : decode cX9_cancel 8 = .ok (.invokestatic 105, 3) := by decide +kernel
theorem dX9_cancel_11 : decode cX9_cancel 11 = .ok (.ifCond .eq 12, 3) := by decide +kernel
theorem dX9_cancel_14 : decode cX9_cancel 14 = .ok (.aload_n 0, 1) := by decide +kernel
theorem dX9_cancel_15 : decode cX9_cancel 15 = .ok (.getfield 59, 3) := by decide +kernel
theorem dX9_cancel_18 : decode cX9_cancel 18 = .ok (.iload_n 1, 1) := by decide +kernel
theorem dX9_cancel_19 : decode cX9_cancel 19 = .ok (.iaload, 1) := by decide +kernel
theorem dX9_cancel_20 : decode cX9_cancel 20 = .ok (.ifCond .lt 5, 3) := by decide +kernel
theorem dX9_cancel_23 : decode cX9_cancel 23 = .ok (.iconst 0, 1) := by decide +kernel
theorem dX9_cancel_24 : decode cX9_cancel 24 = .ok (.ireturn, 1) := by decide +kernel
theorem dX9_cancel_25 : decode cX9_cancel 25 = .ok (.aload_n 0, 1) := by decide +kernel
theorem dX9_cancel_26 : decode cX9_cancel 26 = .ok (.getfield 59, 3) := by decide +kernel
theorem dX9_cancel_29 : decode cX9_cancel 29 = .ok (.iload_n 1, 1) := by decide +kernel
theorem dX9_cancel_30 : decode cX9_cancel 30 = .ok (.aload_n 0, 1) := by decide +kernel
theorem dX9_cancel_31 : decode cX9_cancel 31 = .ok (.getfield 131, 3) := by decide +kernel
theorem dX9_cancel_34 : decode cX9_cancel 34 = .ok (.iastore, 1) := by decide +kernel
theorem dX9_cancel_35 : decode cX9_cancel 35 = .ok (.iconst 1, 1) := by decide +kernel
theorem dX9_cancel_36 : decode cX9_cancel 36 = .ok (.ireturn, 1) := by decide +kernel
theorem dX9_isForce_0 : decode cX9_isForce 0 = .ok (.aload_n 0, 1) := by decide +kernel
theorem dX9_isForce_1 : decode cX9_isForce 1 = .ok (.getfield 56, 3) := by decide +kernel
theorem dX9_isForce_4 : decode cX9_isForce 4 = .ok (.iload_n 1, 1) := by decide +kernel
theorem dX9_isForce_5 : decode cX9_isForce 5 = .ok (.iaload, 1) := by decide +kernel
theorem dX9_isForce_6 : decode cX9_isForce 6 = .ok (.iload_n 2, 1) := by decide +kernel
theorem dX9_isForce_7 : decode cX9_isForce 7 = .ok (.if_icmp .gt 26, 3) := by decide +kernel
theorem dX9_isForce_10 : decode cX9_isForce 10 = .ok (.aload_n 0, 1) := by decide +kernel
theorem dX9_isForce_11 : decode cX9_isForce 11 = .ok (.getfield 59, 3) := by decide +kernel
theorem dX9_isForce_14 : decode cX9_isForce 14 = .ok (.iload_n 1, 1) := by decide +kernel
theorem dX9_isForce_15 : decode cX9_isForce 15 = .ok (.iaload, 1) := by decide +kernel
theorem dX9_isForce_16 : decode cX9_isForce 16 = .ok (.ifCond .lt 13, 3) := by decide +kernel
theorem dX9_isForce_19 : decode cX9_isForce 19 = .ok (.iload_n 2, 1) := by decide +kernel
theorem dX9_isForce_20 : decode cX9_isForce 20 = .ok (.aload_n 0, 1) := by decide +kernel
theorem dX9_isForce_21 : decode cX9_isForce 21 = .ok (.getfield 59, 3) := by decide +kernel
theorem dX9_isForce_24 : decode cX9_isForce 24 = .ok (.iload_n 1, 1) := by decide +kernel
theorem dX9_isForce_25 : decode cX9_isForce 25 = .ok (.iaload, 1) := by decide +kernel
theorem dX9_isForce_26 : decode cX9_isForce 26 = .ok (.if_icmp .ge 7, 3) := by decide +kernel
theorem dX9_isForce_29 : decode cX9_isForce 29 = .ok (.iconst 1, 1) := by decide +kernel
theorem dX9_isForce_30 : decode cX9_isForce 30 = .ok (.goto 4, 3) := by decide +kernel
theorem dX9_isForce_33 : decode cX9_isForce 33 = .ok (.iconst 0, 1) := by decide +kernel
theorem dX9_isForce_34 : decode cX9_isForce 34 = .ok (.ireturn, 1) := by decide +kernel
set_option maxRecDepth 20000 in
theorem ggX9_list_X9_in : GoodIn wsX9_list wsX9_in := goodIn_r _ [6] (by decide +kernel) (by decide +kernel)
set_option maxRecDepth 20000 in
theorem gX9_list_X9_in : GoodIn wsX9_list (va_wsS RX9 105 yX9_in wsX9_in) := goodIn_app (goodIn_of _ (by decide +kernel)) ggX9_list_X9_in
set_option maxRecDepth 20000 in
theorem ggX9_list_X9_isForce : GoodIn wsX9_list wsX9_isForce := goodIn_r _ [10, 11, 12, 13, 14, 15, 16, 17, 18, 19, 20, 21, 22, 23, 24, 25, 26, 27, 28, 29, 30, 31, 32, 33, 34, 35, 36, 37, 38, 39, 40, 41, 42, 43, 44, 45, 46, 47, 48, 49, 50, 51, 52, 53, 54, 55, 56, 57, 58] (by decide +kernel) (by decide +kernel)
set_option maxRecDepth 20000 in
theorem gX9_list_X9_isForce : GoodIn wsX9_list (wsV RX9 149 RX9 yX9_isForce wsX9_isForce) := goodIn_app (goodIn_of _ (by decide +kernel)) ggX9_list_X9_isForce
theorem dX9_list_0 : decode cX9_list 0 = .ok (.iload_n 1, 1) := by decide +kernel
theorem dX9_list_1 : decode cX9_list 1 = .ok (.iconst 0, 1) := by decide +kernel
theorem dX9_list_2 : decode cX9_list 2 = .ok (.aload_n 0, 1) := by decide +kernel
theorem dX9_list_3 : decode cX9_list 3 = .ok (.getfield 131, 3) := by decide +kernel
theorem dX9_list_6 : decode cX9_list 6 = .ok (.invokestatic 105, 3) := by decide +kernel
theorem dX9_list_9 : decode cX9_list 9 = .ok (.ifCond .ne 5, 3) := by decide +kernel
theorem dX9_list_12 : decode cX9_list 12 = .ok (.iconst (-1), 1) := by decide +kernel
theorem dX9_list_13 : decode cX9_list 13 = .ok (.ireturn, 1) := by decide +kernel
theorem dX9_list_14 : decode cX9_list 14 = .ok (.iconst 0, 1) := by decide +kernel
theorem dX9_list_15 : decode cX9_list 15 = .ok (.istore_n 2, 1) := by decide +kernel
theorem dX9_list_16 : decode cX9_list 16 = .ok (.iconst 0, 1) := by decide +kernel
theorem dX9_list_17 : decode cX9_list 17 = .ok (.istore_n 3, 1) := by decide +kernel
theorem dX9_list_18 : decode cX9_list 18 = .ok (.iload_n 3, 1) := by decide +kernel
theorem dX9_list_19 : decode cX9_list 19 = .ok (.aload_n 0, 1) := by decide +kernel
theorem dX9_list_20 : decode cX9_list 20 = .ok (.getfield 146, 3) := by decide +kernel
theorem dX9_list_23 : decode cX9_list 23 = .ok (.if_icmp .ge 26, 3) := by decide +kernel
theorem dX9_list_26 : decode cX9_list 26 = .ok (.iload_n 2, 1) := by decide +kernel
theorem dX9_list_27 : decode cX9_list 27 = .ok (.aload_n 0, 1) := by decide +kernel
theorem dX9_list_28 : decode cX9_list 28 = .ok (.iload_n 3, 1) := by decide +kernel
theorem dX9_list_29 : decode cX9_list 29 = .ok (.iload_n 1, 1) := by decide +kernel
theorem dX9_list_30 : decode cX9_list 30 = .ok (.invokevirtual 149, 3) := by decide +kernel
theorem dX9_list_33 : decode cX9_list 33 = .ok (.ifCond .eq 7, 3) := by decide +kernel
theorem dX9_list_36 : decode cX9_list 36 = .ok (.iconst 1, 1) := by decide +kernel
theorem dX9_list_37 : decode cX9_list 37 = .ok (.goto 4, 3) := by decide +kernel
theorem dX9_list_40 : decode cX9_list 40 = .ok (.iconst 0, 1) := by decide +kernel
theorem dX9_list_41 : decode cX9_list 41 = .ok (.iadd, 1) := by decide +kernel
theorem dX9_list_42 : decode cX9_list 42 = .ok (.istore_n 2, 1) := by decide +kernel
theorem dX9_list_43 : decode cX9_list 43 = .ok (.iinc 3 1, 3) := by decide +kernel
theorem dX9_list_46 : decode cX9_list 46 = .ok (.goto (-28), 3) := by decide +kernel
theorem dX9_list_49 : decode cX9_list 49 = .ok (.iload_n 2, 1) := by decide +kernel
theorem dX9_list_50 : decode cX9_list 50 = .ok (.ireturn, 1) := by decide +kernel
set_option maxRecDepth 20000 in
theorem ggX9_listed_X9_in : GoodIn wsX9_listed wsX9_in := goodIn_r _ [6] (by decide +kernel) (by decide +kernel)
set_option maxRecDepth 20000 in
theorem gX9_listed_X9_in : GoodIn wsX9_listed (va_wsS RX9 105 yX9_in wsX9_in) := goodIn_app (goodIn_of _ (by decide +kernel)) ggX9_listed_X9_in
set_option maxRecDepth 20000 in
theorem ggX9_listed_X9_isForce : GoodIn wsX9_listed wsX9_isForce := goodIn_r _ [10, 11, 12, 13, 14, 15, 16, 17, 18, 19, 20, 21, 22, 23, 24, 25, 26, 27, 28, 29, 30, 31, 32, 33, 34, 35, 36, 37, 38, 39, 40, 41, 42, 43, 44, 45, 46, 47, 48, 49, 50, 51, 52, 53, 54, 55, 56, 57, 58] (by decide +kernel) (by decide +kernel)
set_option maxRecDepth 20000 in
theorem gX9_listed_X9_isForce : GoodIn wsX9_listed (wsV RX9 149 RX9 yX9_isForce wsX9_isForce) := goodIn_app (goodIn_of _ (by decide +kernel)) ggX9_listed_X9_isForce
theorem dX9_listed_0 : decode cX9_listed 0 = .ok (.iconst 0, 1) := by decide +kernel
theorem dX9_listed_1 : decode cX9_listed 1 = .ok (.istore_n 3, 1) := by decide +kernel
theorem dX9_listed_2 : decode cX9_listed 2 = .ok (.iconst 0, 1) := by decide +kernel
theorem dX9_listed_3 : decode cX9_listed 3 = .ok (.istore 4, 2) := by decide +kernel
theorem dX9_listed_5 : decode cX9_listed 5 = .ok (.iload 4, 2) := by decide +kernel
theorem dX9_listed_7 : decode cX9_listed 7 = .ok (.aload_n 0, 1) := by decide +kernel
theorem dX9_listed_8 : decode cX9_listed 8 = .ok (.getfield 146, 3) := by decide +kernel
theorem dX9_listed_11 : decode cX9_listed 11 = .ok (.if_icmp .ge 42, 3) := by decide +kernel
theorem dX9_listed_14 : decode cX9_listed 14 = .ok (.iload_n 1, 1) := by decide +kernel
theorem dX9_listed_15 : decode cX9_listed 15 = .ok (.iconst 0, 1) := by decide +kernel
theorem dX9_listed_16 : decode cX9_listed 16 = .ok (.aload_n 0, 1) := by decide +kernel
theorem dX9_listed_17 : decode cX9_listed 17 = .ok (.getfield 131, 3) := by decide +kernel
theorem dX9_listed_20 : decode cX9_listed 20 = .ok (.invokestatic 105, 3) := by decide +kernel
theorem dX9_listed_23 : decode cX9_listed 23 = .ok (.ifCond .eq 30, 3) := by decide +kernel
theorem dX9_listed_26 : decode cX9_listed 26 = .ok (.aload_n 0, 1) := by decide +kernel
theorem dX9_listed_27 : decode cX9_listed 27 = .ok (.iload 4, 2) := by decide +kernel
theorem dX9_listed_29 : decode cX9_listed 29 = .ok (.iload_n 1, 1) := by decide +kernel
theorem dX9_listed_30 : decode cX9_listed 30 = .ok (.invokevirtual 149, 3) := by decide +kernel
theorem dX9_listed_33 : decode cX9_listed 33 = .ok (.ifCond .eq 14, 3) := by decide +kernel
theorem dX9_listed_36 : decode cX9_listed 36 = .ok (.iload_n 3, 1) := by decide +kernel
theorem dX9_listed_37 : decode cX9_listed 37 = .ok (.iload_n 2, 1) := by decide +kernel
theorem dX9_listed_38 : decode cX9_listed 38 = .ok (.if_icmp .ne 6, 3) := by decide +kernel
theorem dX9_listed_41 : decode cX9_listed 41 = .ok (.iload 4, 2) := by decide +kernel
theorem dX9_listed_43 : decode cX9_listed 43 = .ok (.ireturn, 1) := by decide +kernel
theorem dX9_listed_44 : decode cX9_listed 44 = .ok (.iinc 3 1, 3) := by decide +kernel
theorem dX9_listed_47 : decode cX9_listed 47 = .ok (.iinc 4 1, 3) := by decide +kernel
theorem dX9_listed_50 : decode cX9_listed 50 = .ok (.goto (-45), 3) := by decide +kernel
theorem dX9_listed_53 : decode cX9_listed 53 = .ok (.iconst (-1), 1) := by decide +kernel
theorem dX9_listed_54 : decode cX9_listed 54 = .ok (.ireturn, 1) := by decide +kernel
set_option maxRecDepth 20000 in
theorem ggX9_warning_X9_in : GoodIn wsX9_warning wsX9_in := goodIn_r _ [9] (by decide +kernel) (by decide +kernel)
set_option maxRecDepth 20000 in
theorem gX9_warning_X9_in : GoodIn wsX9_warning (va_wsS RX9 105 yX9_in wsX9_in) := goodIn_app (goodIn_of _ (by decide +kernel)) ggX9_warning_X9_in
theorem dX9_warning_0 : decode cX9_warning 0 = .ok (.iload_n 1, 1) := by decide +kernel
theorem dX9_warning_1 : decode cX9_warning 1 = .ok (.iconst 0, 1) := by decide +kernel
theorem dX9_warning_2 : decode cX9_warning 2 = .ok (.aload_n 0, 1) := by decide +kernel
theorem dX9_warning_3 : decode cX9_warning 3 = .ok (.getfield 146, 3) := by decide +kernel
theorem dX9_warning_6 : decode cX9_warning 6 = .ok (.iconst 1, 1) := by decide +kernel
theorem dX9_warning_7 : decode cX9_warning 7 = .ok (.isub, 1) := by decide +kernel
theorem dX9_warning_8 : decode cX9_warning 8 = .ok (.invokestatic 105, 3) := by decide +kernel
theorem dX9_warning_11 : decode cX9_warning 11 = .ok (.ifCond .ne 5, 3) := by decide +kernel
theorem dX9_warning_14 : decode cX9_warning 14 = .ok (.iconst (-1), 1) := by decide +kernel
theorem dX9_warning_15 : decode cX9_warning 15 = .ok (.ireturn, 1) := by decide +kernel
theorem dX9_warning_16 : decode cX9_warning 16 = .ok (.iload_n 2, 1) := by decide +kernel
theorem dX9_warning_17 : decode cX9_warning 17 = .ok (.ifCond .ne 12, 3) := by decide +kernel
theorem dX9_warning_20 : decode cX9_warning 20 = .ok (.aload_n 0, 1) := by decide +kernel
theorem dX9_warning_21 : decode cX9_warning 21 = .ok (.getfield 50, 3) := by decide +kernel
theorem dX9_warning_24 : decode cX9_warning 24 = .ok (.iload_n 1, 1) := by decide +kernel
theorem dX9_warning_25 : decode cX9_warning 25 = .ok (.iaload, 1) := by decide +kernel
theorem dX9_warning_26 : decode cX9_warning 26 = .ok (.goto 46, 3) := by decide +kernel
theorem dX9_warning_29 : decode cX9_warning 29 = .ok (.iload_n 2, 1) := by decide +kernel
theorem dX9_warning_30 : decode cX9_warning 30 = .ok (.iconst 1, 1) := by decide +kernel
theorem dX9_warning_31 : decode cX9_warning 31 = .ok (.if_icmp .ne 12, 3) := by decide +kernel
theorem dX9_warning_34 : decode cX9_warning 34 = .ok (.aload_n 0, 1) := by decide +kernel
theorem dX9_warning_35 : decode cX9_warning 35 = .ok (.getfield 53, 3) := by decide +kernel
theorem dX9_warning_38 : decode cX9_warning 38 = .ok (.iload_n 1, 1) := by decide +kernel
theorem dX9_warning_39 : decode cX9_warning 39 = .ok (.iaload, 1) := by decide +kernel
theorem dX9_warning_40 : decode cX9_warning 40 = .ok (.goto 32, 3) := by decide +kernel
theorem dX9_warning_43 : decode cX9_warning 43 = .ok (.iload_n 2, 1) := by decide +kernel
theorem dX9_warning_44 : decode cX9_warning 44 = .ok (.iconst 2, 1) := by decide +kernel
theorem dX9_warning_45 : decode cX9_warning 45 = .ok (.if_icmp .ne 12, 3) := by decide +kernel
theorem dX9_warning_48 : decode cX9_warning 48 = .ok (.aload_n 0, 1) := by decide +kernel
theorem dX9_warning_49 : decode cX9_warning 49 = .ok (.getfield 56, 3) := by decide +kernel
theorem dX9_warning_52 : decode cX9_warning 52 = .ok (.iload_n 1, 1) := by decide +kernel
theorem dX9_warning_53 : decode cX9_warning 53 = .ok (.iaload, 1) := by decide +kernel
theorem dX9_warning_54 : decode cX9_warning 54 = .ok (.goto 18, 3) := by decide +kernel
theorem dX9_warning_57 : decode cX9_warning 57 = .ok (.iload_n 2, 1) := by decide +kernel
theorem dX9_warning_58 : decode cX9_warning 58 = .ok (.iconst 3, 1) := by decide +kernel
theorem dX9_warning_59 : decode cX9_warning 59 = .ok (.if_icmp .ne 12, 3) := by decide +kernel
theorem dX9_warning_62 : decode cX9_warning 62 = .ok (.aload_n 0, 1) := by decide +kernel
theorem dX9_warning_63 : decode cX9_warning 63 = .ok (.getfield 59, 3) := by decide +kernel
theorem dX9_warning_66 : decode cX9_warning 66 = .ok (.iload_n 1, 1) := by decide +kernel
theorem dX9_warning_67 : decode cX9_warning 67 = .ok (.iaload, 1) := by decide +kernel
theorem dX9_warning_68 : decode cX9_warning 68 = .ok (.goto 4, 3) := by decide +kernel
theorem dX9_warning_71 : decode cX9_warning 71 = .ok (.iconst (-1), 1) := by decide +kernel
theorem dX9_warning_72 : decode cX9_warning 72 = .ok (.ireturn, 1) := by decide +kernel
set_option maxRecDepth 20000 in
theorem ggX9_job_X9_isMark : GoodIn wsX9_job wsX9_isMark := goodIn_r _ [9, 10, 11, 12, 8, 13, 14, 15, 16, 17, 18, 19, 20, 21, 22, 23, 24, 25, 26, 27, 28, 29, 30, 31, 32, 33, 34, 35, 36, 37, 38, 39, 40, 41, 42, 43, 44, 45, 46, 47, 48, 49, 50, 51, 52, 53, 54, 55, 56, 57, 58, 59] (by decide +kernel) (by decide +kernel)
set_option maxRecDepth 20000 in
theorem gX9_job_X9_isMark : GoodIn wsX9_job (wsV RX9 120 RX9 yX9_isMark wsX9_isMark) := goodIn_app (goodIn_of _ (by decide +kernel)) ggX9_job_X9_isMark
set_option maxRecDepth 20000 in
theorem ggX9_job_X9_in : GoodIn wsX9_job wsX9_in := goodIn_r _ [13] (by decide +kernel) (by decide +kernel)
set_option maxRecDepth 20000 in
theorem gX9_job_X9_in : GoodIn wsX9_job (va_wsS RX9 105 yX9_in wsX9_in) := goodIn_app (goodIn_of _ (by decide +kernel)) ggX9_job_X9_in
theorem dX9_job_0 : decode cX9_job 0 = .ok (.aload_n 0, 1) := by decide +kernel
theorem dX9_job_1 : decode cX9_job 1 = .ok (.iload_n 1, 1) := by decide +kernel
theorem dX9_job_2 : decode cX9_job 2 = .ok (.invokevirtual 120, 3) := by decide +kernel
theorem dX9_job_5 : decode cX9_job 5 = .ok (.ifCond .eq 37, 3) := by decide +kernel
theorem dX9_job_8 : decode cX9_job 8 = .ok (.iload_n 2, 1) := by decide +kernel
theorem dX9_job_9 : decode cX9_job 9 = .ok (.iconst 0, 1) := by decide +kernel
theorem dX9_job_10 : decode cX9_job 10 = .ok (.sipush 600, 3) := by decide +kernel
theorem dX9_job_13 : decode cX9_job 13 = .ok (.invokestatic 105, 3) := by decide +kernel
theorem dX9_job_16 : decode cX9_job 16 = .ok (.ifCond .eq 26, 3) := by decide +kernel
theorem dX9_job_19 : decode cX9_job 19 = .ok (.iload_n 3, 1) := by decide +kernel
theorem dX9_job_20 : decode cX9_job 20 = .ok (.iconst 0, 1) := by decide +kernel
theorem dX9_job_21 : decode cX9_job 21 = .ok (.sipush 1000, 3) := by decide +kernel
theorem dX9_job_24 : decode cX9_job 24 = .ok (.invokestatic 105, 3) := by decide +kernel
theorem dX9_job_27 : decode cX9_job 27 = .ok (.ifCond .eq 15, 3) := by decide +kernel
theorem dX9_job_30 : decode cX9_job 30 = .ok (.iload 4, 2) := by decide +kernel
theorem dX9_job_32 : decode cX9_job 32 = .ok (.iconst 0, 1) := by decide +kernel
theorem dX9_job_33 : decode cX9_job 33 = .ok (.sipush 1000, 3) := by decide +kernel
theorem dX9_job_36 : decode cX9_job 36 = .ok (.invokestatic 105, 3) := by decide +kernel
theorem dX9_job_39 : decode cX9_job 39 = .ok (.ifCond .ne 5, 3) := by decide +kernel
theorem dX9_job_42 : decode cX9_job 42 = .ok (.iconst 0, 1) := by decide +kernel
theorem dX9_job_43 : decode cX9_job 43 = .ok (.ireturn, 1) := by decide +kernel
theorem dX9_job_44 : decode cX9_job 44 = .ok (.aload_n 0, 1) := by decide +kernel
theorem dX9_job_45 : decode cX9_job 45 = .ok (.getfield 62, 3) := by decide +kernel
theorem dX9_job_48 : decode cX9_job 48 = .ok (.iload_n 1, 1) := by decide +kernel
theorem dX9_job_49 : decode cX9_job 49 = .ok (.iload_n 2, 1) := by decide +kernel
theorem dX9_job_50 : decode cX9_job 50 = .ok (.iastore, 1) := by decide +kernel
theorem dX9_job_51 : decode cX9_job 51 = .ok (.aload_n 0, 1) := by decide +kernel
theorem dX9_job_52 : decode cX9_job 52 = .ok (.getfield 65, 3) := by decide +kernel
theorem dX9_job_55 : decode cX9_job 55 = .ok (.iload_n 1, 1) := by decide +kernel
theorem dX9_job_56 : decode cX9_job 56 = .ok (.iload_n 3, 1) := by decide +kernel
theorem dX9_job_57 : decode cX9_job 57 = .ok (.iastore, 1) := by decide +kernel
theorem dX9_job_58 : decode cX9_job 58 = .ok (.aload_n 0, 1) := by decide +kernel
theorem dX9_job_59 : decode cX9_job 59 = .ok (.getfield 68, 3) := by decide +kernel
theorem dX9_job_62 : decode cX9_job 62 = .ok (.iload_n 1, 1) := by decide +kernel
theorem dX9_job_63 : decode cX9_job 63 = .ok (.iload 4, 2) := by decide +kernel
theorem dX9_job_65 : decode cX9_job 65 = .ok (.iastore, 1) := by decide +kernel
theorem dX9_job_66 : decode cX9_job 66 = .ok (.aload_n 0, 1) := by decide +kernel
theorem dX9_job_67 : decode cX9_job 67 = .ok (.iconst 0, 1) := by decide +kernel
theorem dX9_job_68 : decode cX9_job 68 = .ok (.putfield 116, 3) := by decide +kernel
theorem dX9_job_71 : decode cX9_job 71 = .ok (.iconst 1, 1) := by decide +kernel
theorem dX9_job_72 : decode cX9_job 72 = .ok (.ireturn, 1) := by decide +kernel
set_option maxRecDepth 20000 in
theorem ggX9_weather_X9_in : GoodIn wsX9_weather wsX9_in := goodIn_r _ [7] (by decide +kernel) (by decide +kernel)
set_option maxRecDepth 20000 in
theorem gX9_weather_X9_in : GoodIn wsX9_weather (va_wsS RX9 105 yX9_in wsX9_in) := goodIn_app (goodIn_of _ (by decide +kernel)) ggX9_weather_X9_in
theorem dX9_weather_0 : decode cX9_weather 0 = .ok (.iload_n 1, 1) := by decide +kernel
theorem dX9_weather_1 : decode cX9_weather 1 = .ok (.iconst 0, 1) := by decide +kernel
theorem dX9_weather_2 : decode cX9_weather 2 = .ok (.bipush 23, 2) := by decide +kernel
theorem dX9_weather_4 : decode cX9_weather 4 = .ok (.invokestatic 105, 3) := by decide +kernel
theorem dX9_weather_7 : decode cX9_weather 7 = .ok (.ifCond .eq 24, 3) := by decide +kernel
theorem dX9_weather_10 : decode cX9_weather 10 = .ok (.iload_n 2, 1) := by decide +kernel
theorem dX9_weather_11 : decode cX9_weather 11 = .ok (.bipush (-50), 2) := by decide +kernel
theorem dX9_weather_13 : decode cX9_weather 13 = .ok (.bipush 50, 2) := by decide +kernel
theorem dX9_weather_15 : decode cX9_weather 15 = .ok (.invokestatic 105, 3) := by decide +kernel
theorem dX9_weather_18 : decode cX9_weather 18 = .ok (.ifCond .eq 13, 3) := by decide +kernel
theorem dX9_weather_21 : decode cX9_weather 21 = .ok (.iload_n 3, 1) := by decide +kernel
theorem dX9_weather_22 : decode cX9_weather 22 = .ok (.iconst 0, 1) := by decide +kernel
theorem dX9_weather_23 : decode cX9_weather 23 = .ok (.bipush 12, 2) := by decide +kernel
theorem dX9_weather_25 : decode cX9_weather 25 = .ok (.invokestatic 105, 3) := by decide +kernel
theorem dX9_weather_28 : decode cX9_weather 28 = .ok (.ifCond .ne 5, 3) := by decide +kernel
theorem dX9_weather_31 : decode cX9_weather 31 = .ok (.iconst 0, 1) := by decide +kernel
theorem dX9_weather_32 : decode cX9_weather 32 = .ok (.ireturn, 1) := by decide +kernel
theorem dX9_weather_33 : decode cX9_weather 33 = .ok (.aload_n 0, 1) := by decide +kernel
theorem dX9_weather_34 : decode cX9_weather 34 = .ok (.getfield 71, 3) := by decide +kernel
theorem dX9_weather_37 : decode cX9_weather 37 = .ok (.iload_n 1, 1) := by decide +kernel
theorem dX9_weather_38 : decode cX9_weather 38 = .ok (.iload_n 2, 1) := by decide +kernel
theorem dX9_weather_39 : decode cX9_weather 39 = .ok (.iastore, 1) := by decide +kernel
theorem dX9_weather_40 : decode cX9_weather 40 = .ok (.aload_n 0, 1) := by decide +kernel
theorem dX9_weather_41 : decode cX9_weather 41 = .ok (.getfield 74, 3) := by decide +kernel
theorem dX9_weather_44 : decode cX9_weather 44 = .ok (.iload_n 1, 1) := by decide +kernel
theorem dX9_weather_45 : decode cX9_weather 45 = .ok (.iload_n 3, 1) := by decide +kernel
theorem dX9_weather_46 : decode cX9_weather 46 = .ok (.iastore, 1) := by decide +kernel
theorem dX9_weather_47 : decode cX9_weather 47 = .ok (.aload_n 0, 1) := by decide +kernel
theorem dX9_weather_48 : decode cX9_weather 48 = .ok (.iconst 0, 1) := by decide +kernel
theorem dX9_weather_49 : decode cX9_weather 49 = .ok (.putfield 116, 3) := by decide +kernel
theorem dX9_weather_52 : decode cX9_weather 52 = .ok (.iconst 1, 1) := by decide +kernel
theorem dX9_weather_53 : decode cX9_weather 53 = .ok (.ireturn, 1) := by decide +kernel
set_option maxRecDepth 20000 in
theorem ggX9_ship_X9_in : GoodIn wsX9_ship wsX9_in := goodIn_r _ [9] (by decide +kernel) (by decide +kernel)
set_option maxRecDepth 20000 in
theorem gX9_ship_X9_in : GoodIn wsX9_ship (va_wsS RX9 105 yX9_in wsX9_in) := goodIn_app (goodIn_of _ (by decide +kernel)) ggX9_ship_X9_in
theorem dX9_ship_0 : decode cX9_ship 0 = .ok (.iload_n 1, 1) := by decide +kernel
theorem dX9_ship_1 : decode cX9_ship 1 = .ok (.iconst 0, 1) := by decide +kernel
theorem dX9_ship_2 : decode cX9_ship 2 = .ok (.bipush 60, 2) := by decide +kernel
theorem dX9_ship_4 : decode cX9_ship 4 = .ok (.invokestatic 105, 3) := by decide +kernel
theorem dX9_ship_7 : decode cX9_ship 7 = .ok (.ifCond .eq 35, 3) := by decide +kernel
theorem dX9_ship_10 : decode cX9_ship 10 = .ok (.iload_n 2, 1) := by decide +kernel
theorem dX9_ship_11 : decode cX9_ship 11 = .ok (.iconst 0, 1) := by decide +kernel
theorem dX9_ship_12 : decode cX9_ship 12 = .ok (.bipush 100, 2) := by decide +kernel
theorem dX9_ship_14 : decode cX9_ship 14 = .ok (.invokestatic 105, 3) := by decide +kernel
theorem dX9_ship_17 : decode cX9_ship 17 = .ok (.ifCond .eq 25, 3) := by decide +kernel
theorem dX9_ship_20 : decode cX9_ship 20 = .ok (.iload_n 3, 1) := by decide +kernel
theorem dX9_ship_21 : decode cX9_ship 21 = .ok (.iconst 0, 1) := by decide +kernel
theorem dX9_ship_22 : decode cX9_ship 22 = .ok (.bipush 12, 2) := by decide +kernel
theorem dX9_ship_24 : decode cX9_ship 24 = .ok (.invokestatic 105, 3) := by decide +kernel
theorem dX9_ship_27 : decode cX9_ship 27 = .ok (.ifCond .eq 15, 3) := by decide +kernel
theorem dX9_ship_30 : decode cX9_ship 30 = .ok (.iload 4, 2) := by decide +kernel
theorem dX9_ship_32 : decode cX9_ship 32 = .ok (.iconst 0, 1) := by decide +kernel
theorem dX9_ship_33 : decode cX9_ship 33 = .ok (.sipush 10000, 3) := by decide +kernel
theorem dX9_ship_36 : decode cX9_ship 36 = .ok (.invokestatic 105, 3) := by decide +kernel
theorem dX9_ship_39 : decode cX9_ship 39 = .ok (.ifCond .ne 5, 3) := by decide +kernel
theorem dX9_ship_42 : decode cX9_ship 42 = .ok (.iconst 0, 1) := by decide +kernel
theorem dX9_ship_43 : decode cX9_ship 43 = .ok (.ireturn, 1) := by decide +kernel
theorem dX9_ship_44 : decode cX9_ship 44 = .ok (.aload_n 0, 1) := by decide +kernel
theorem dX9_ship_45 : decode cX9_ship 45 = .ok (.iload_n 1, 1) := by decide +kernel
theorem dX9_ship_46 : decode cX9_ship 46 = .ok (.putfield 77, 3) := by decide +kernel
theorem dX9_ship_49 : decode cX9_ship 49 = .ok (.aload_n 0, 1) := by decide +kernel
theorem dX9_ship_50 : decode cX9_ship 50 = .ok (.iload_n 2, 1) := by decide +kernel
theorem dX9_ship_51 : decode cX9_ship 51 = .ok (.putfield 152, 3) := by decide +kernel
theorem dX9_ship_54 : decode cX9_ship 54 = .ok (.aload_n 0, 1) := by decide +kernel
theorem dX9_ship_55 : decode cX9_ship 55 = .ok (.iload_n 3, 1) := by decide +kernel
theorem dX9_ship_56 : decode cX9_ship 56 = .ok (.putfield 81, 3) := by decide +kernel
theorem dX9_ship_59 : decode cX9_ship 59 = .ok (.aload_n 0, 1) := by decide +kernel
theorem dX9_ship_60 : decode cX9_ship 60 = .ok (.iload 4, 2) := by decide +kernel
theorem dX9_ship_62 : decode cX9_ship 62 = .ok (.putfield 155, 3) := by decide +kernel
theorem dX9_ship_65 : decode cX9_ship 65 = .ok (.aload_n 0, 1) := by decide +kernel
theorem dX9_ship_66 : decode cX9_ship 66 = .ok (.iconst 0, 1) := by decide +kernel
theorem dX9_ship_67 : decode cX9_ship 67 = .ok (.putfield 116, 3) := by decide +kernel
theorem dX9_ship_70 : decode cX9_ship 70 = .ok (.iconst 1, 1) := by decide +kernel
theorem dX9_ship_71 : decode cX9_ship 71 = .ok (.ireturn, 1) := by decide +kernel
set_option maxRecDepth 20000 in
theorem ggX9_at_X9_isPlace : GoodIn wsX9_at wsX9_isPlace := goodIn_r _ [9, 10, 11, 8, 12] (by decide +kernel) (by decide +kernel)
set_option maxRecDepth 20000 in
theorem gX9_at_X9_isPlace : GoodIn wsX9_at (va_wsS RX9 112 yX9_isPlace wsX9_isPlace) := goodIn_app (goodIn_of _ (by decide +kernel)) ggX9_at_X9_isPlace
set_option maxRecDepth 20000 in
theorem ggX9_at_X9_in : GoodIn wsX9_at wsX9_in := goodIn_r _ [12] (by decide +kernel) (by decide +kernel)
set_option maxRecDepth 20000 in
theorem gX9_at_X9_in : GoodIn wsX9_at (va_wsS RX9 105 yX9_in wsX9_in) := goodIn_app (goodIn_of _ (by decide +kernel)) ggX9_at_X9_in
theorem dX9_at_0 : decode cX9_at 0 = .ok (.iload_n 1, 1) := by decide +kernel
theorem dX9_at_1 : decode cX9_at 1 = .ok (.iload_n 2, 1) := by decide +kernel
theorem dX9_at_2 : decode cX9_at 2 = .ok (.invokestatic 112, 3) := by decide +kernel
theorem dX9_at_5 : decode cX9_at 5 = .ok (.ifCond .eq 26, 3) := by decide +kernel
theorem dX9_at_8 : decode cX9_at 8 = .ok (.iload_n 3, 1) := by decide +kernel
theorem dX9_at_9 : decode cX9_at 9 = .ok (.iconst 0, 1) := by decide +kernel
theorem dX9_at_10 : decode cX9_at 10 = .ok (.sipush 1440, 3) := by decide +kernel
theorem dX9_at_13 : decode cX9_at 13 = .ok (.invokestatic 105, 3) := by decide +kernel
theorem dX9_at_16 : decode cX9_at 16 = .ok (.ifCond .eq 15, 3) := by decide +kernel
theorem dX9_at_19 : decode cX9_at 19 = .ok (.iload 4, 2) := by decide +kernel
theorem dX9_at_21 : decode cX9_at 21 = .ok (.iload_n 3, 1) := by decide +kernel
theorem dX9_at_22 : decode cX9_at 22 = .ok (.sipush 1440, 3) := by decide +kernel
theorem dX9_at_25 : decode cX9_at 25 = .ok (.invokestatic 105, 3) := by decide +kernel
theorem dX9_at_28 : decode cX9_at 28 = .ok (.ifCond .ne 5, 3) := by decide +kernel
theorem dX9_at_31 : decode cX9_at 31 = .ok (.iconst 0, 1) := by decide +kernel
theorem dX9_at_32 : decode cX9_at 32 = .ok (.ireturn, 1) := by decide +kernel
theorem dX9_at_33 : decode cX9_at 33 = .ok (.aload_n 0, 1) := by decide +kernel
theorem dX9_at_34 : decode cX9_at 34 = .ok (.iload_n 1, 1) := by decide +kernel
theorem dX9_at_35 : decode cX9_at 35 = .ok (.putfield 158, 3) := by decide +kernel
theorem dX9_at_38 : decode cX9_at 38 = .ok (.aload_n 0, 1) := by decide +kernel
theorem dX9_at_39 : decode cX9_at 39 = .ok (.iload_n 2, 1) := by decide +kernel
theorem dX9_at_40 : decode cX9_at 40 = .ok (.putfield 161, 3) := by decide +kernel
theorem dX9_at_43 : decode cX9_at 43 = .ok (.aload_n 0, 1) := by decide +kernel
theorem dX9_at_44 : decode cX9_at 44 = .ok (.iload_n 3, 1) := by decide +kernel
theorem dX9_at_45 : decode cX9_at 45 = .ok (.putfield 164, 3) := by decide +kernel
theorem dX9_at_48 : decode cX9_at 48 = .ok (.aload_n 0, 1) := by decide +kernel
theorem dX9_at_49 : decode cX9_at 49 = .ok (.iload 4, 2) := by decide +kernel
theorem dX9_at_51 : decode cX9_at 51 = .ok (.putfield 84, 3) := by decide +kernel
theorem dX9_at_54 : decode cX9_at 54 = .ok (.aload_n 0, 1) := by decide +kernel
theorem dX9_at_55 : decode cX9_at 55 = .ok (.iconst 0, 1) := by decide +kernel
theorem dX9_at_56 : decode cX9_at 56 = .ok (.putfield 116, 3) := by decide +kernel
theorem dX9_at_59 : decode cX9_at 59 = .ok (.iconst 1, 1) := by decide +kernel
theorem dX9_at_60 : decode cX9_at 60 = .ok (.ireturn, 1) := by decide +kernel
theorem dX9_greater_0 : decode cX9_greater 0 = .ok (.iload_n 0, 1) := by decide +kernel
theorem dX9_greater_1 : decode cX9_greater 1 = .ok (.iload_n 1, 1) := by decide +kernel
theorem dX9_greater_2 : decode cX9_greater 2 = .ok (.if_icmp .le 7, 3) := by decide +kernel
theorem dX9_greater_5 : decode cX9_greater 5 = .ok (.iload_n 0, 1) := by decide +kernel
theorem dX9_greater_6 : decode cX9_greater 6 = .ok (.goto 4, 3) := by decide +kernel
theorem dX9_greater_9 : decode cX9_greater 9 = .ok (.iload_n 1, 1) := by decide +kernel
theorem dX9_greater_10 : decode cX9_greater 10 = .ok (.ireturn, 1) := by decide +kernel
set_option maxRecDepth 20000 in
theorem ggX9_way_X9_greater : GoodIn wsX9_way wsX9_greater := goodIn_r _ [9] (by decide +kernel) (by decide +kernel)
set_option maxRecDepth 20000 in
theorem gX9_way_X9_greater : GoodIn wsX9_way (va_wsS RX9 167 yX9_greater wsX9_greater) := goodIn_app (goodIn_of _ (by decide +kernel)) ggX9_way_X9_greater
theorem dX9_way_0 : decode cX9_way 0 = .ok (.iload_n 1, 1) := by decide +kernel
theorem dX9_way_1 : decode cX9_way 1 = .ok (.ifCond .ge 10, 3) := by decide +kernel
theorem dX9_way_4 : decode cX9_way 4 = .ok (.aload_n 0, 1) := by decide +kernel
theorem dX9_way_5 : decode cX9_way 5 = .ok (.getfield 158, 3) := by decide +kernel
theorem dX9_way_8 : decode cX9_way 8 = .ok (.goto 9, 3) := by decide +kernel
theorem dX9_way_11 : decode cX9_way 11 = .ok (.aload_n 0, 1) := by decide +kernel
theorem dX9_way_12 : decode cX9_way 12 = .ok (.getfield 13, 3) := by decide +kernel
theorem dX9_way_15 : decode cX9_way 15 = .ok (.iload_n 1, 1) := by decide +kernel
theorem dX9_way_16 : decode cX9_way 16 = .ok (.iaload, 1) := by decide +kernel
theorem dX9_way_17 : decode cX9_way 17 = .ok (.iload_n 2, 1) := by decide +kernel
theorem dX9_way_18 : decode cX9_way 18 = .ok (.ifCond .ge 10, 3) := by decide +kernel
theorem dX9_way_21 : decode cX9_way 21 = .ok (.aload_n 0, 1) := by decide +kernel
theorem dX9_way_22 : decode cX9_way 22 = .ok (.getfield 158, 3) := by decide +kernel
theorem dX9_way_25 : decode cX9_way 25 = .ok (.goto 9, 3) := by decide +kernel
theorem dX9_way_28 : decode cX9_way 28 = .ok (.aload_n 0, 1) := by decide +kernel
theorem dX9_way_29 : decode cX9_way 29 = .ok (.getfield 13, 3) := by decide +kernel
theorem dX9_way_32 : decode cX9_way 32 = .ok (.iload_n 2, 1) := by decide +kernel
theorem dX9_way_33 : decode cX9_way 33 = .ok (.iaload, 1) := by decide +kernel
theorem dX9_way_34 : decode cX9_way 34 = .ok (.isub, 1) := by decide +kernel
theorem dX9_way_35 : decode cX9_way 35 = .ok (.istore_n 3, 1) := by decide +kernel
theorem dX9_way_36 : decode cX9_way 36 = .ok (.iload_n 1, 1) := by decide +kernel
theorem dX9_way_37 : decode cX9_way 37 = .ok (.ifCond .ge 10, 3) := by decide +kernel
theorem dX9_way_40 : decode cX9_way 40 = .ok (.aload_n 0, 1) := by decide +kernel
theorem dX9_way_41 : decode cX9_way 41 = .ok (.getfield 161, 3) := by decide +kernel
theorem dX9_way_44 : decode cX9_way 44 = .ok (.goto 9, 3) := by decide +kernel
theorem dX9_way_47 : decode cX9_way 47 = .ok (.aload_n 0, 1) := by decide +kernel
theorem dX9_way_48 : decode cX9_way 48 = .ok (.getfield 16, 3) := by decide +kernel
theorem dX9_way_51 : decode cX9_way 51 = .ok (.iload_n 1, 1) := by decide +kernel
theorem dX9_way_52 : decode cX9_way 52 = .ok (.iaload, 1) := by decide +kernel
theorem dX9_way_53 : decode cX9_way 53 = .ok (.iload_n 2, 1) := by decide +kernel
theorem dX9_way_54 : decode cX9_way 54 = .ok (.ifCond .ge 10, 3) := by decide +kernel
theorem dX9_way_57 : decode cX9_way 57 = .ok (.aload_n 0, 1) := by decide +kernel
theorem dX9_way_58 : decode cX9_way 58 = .ok (.getfield 161, 3) := by decide +kernel
theorem dX9_way_61 : decode cX9_way 61 = .ok (.goto 9, 3) := by decide +kernel
theorem dX9_way_64 : decode cX9_way 64 = .ok (.aload_n 0, 1) := by decide +kernel
theorem dX9_way_65 : decode cX9_way 65 = .ok (.getfield 16, 3) := by decide +kernel
theorem dX9_way_68 : decode cX9_way 68 = .ok (.iload_n 2, 1) := by decide +kernel
theorem dX9_way_69 : decode cX9_way 69 = .ok (.iaload, 1) := by decide +kernel
theorem dX9_way_70 : decode cX9_way 70 = .ok (.isub, 1) := by decide +kernel
theorem dX9_way_71 : decode cX9_way 71 = .ok (.istore 4, 2) := by decide +kernel
theorem dX9_way_73 : decode cX9_way 73 = .ok (.aload_n 0, 1) := by decide +kernel
theorem dX9_way_74 : decode cX9_way 74 = .ok (.getfield 77, 3) := by decide +kernel
theorem dX9_way_77 : decode cX9_way 77 = .ok (.iload_n 3, 1) := by decide +kernel
theorem dX9_way_78 : decode cX9_way 78 = .ok (.ifCond .ge 8, 3) := by decide +kernel
theorem dX9_way_81 : decode cX9_way 81 = .ok (.iload_n 3, 1) := by decide +kernel
theorem dX9_way_82 : decode cX9_way 82 = .ok (.ineg, 1) := by decide +kernel
theorem dX9_way_83 : decode cX9_way 83 = .ok (.goto 4, 3) := by decide +kernel
theorem dX9_way_86 : decode cX9_way 86 = .ok (.iload_n 3, 1) := by decide +kernel
theorem dX9_way_87 : decode cX9_way 87 = .ok (.iload 4, 2) := by decide +kernel
theorem dX9_way_89 : decode cX9_way 89 = .ok (.ifCond .ge 9, 3) := by decide +kernel
theorem dX9_way_92 : decode cX9_way 92 = .ok (.iload 4, 2) := by decide +kernel
theorem dX9_way_94 : decode cX9_way 94 = .ok (.ineg, 1) := by decide +kernel
theorem dX9_way_95 : decode cX9_way 95 = .ok (.goto 5, 3) := by decide +kernel
theorem dX9_way_98 : decode cX9_way 98 = .ok (.iload 4, 2) := by decide +kernel
theorem dX9_way_100 : decode cX9_way 100 = .ok (.invokestatic 167, 3) := by decide +kernel
theorem dX9_way_103 : decode cX9_way 103 = .ok (.imul, 1) := by decide +kernel
theorem dX9_way_104 : decode cX9_way 104 = .ok (.ireturn, 1) := by decide +kernel
theorem dX9_begins_0 : decode cX9_begins 0 = .ok (.iload_n 2, 1) := by decide +kernel
theorem dX9_begins_1 : decode cX9_begins 1 = .ok (.istore_n 3, 1) := by decide +kernel
theorem dX9_begins_2 : decode cX9_begins 2 = .ok (.iload_n 3, 1) := by decide +kernel
theorem dX9_begins_3 : decode cX9_begins 3 = .ok (.sipush 1440, 3) := by decide +kernel
theorem dX9_begins_6 : decode cX9_begins 6 = .ok (.if_icmp .ge 73, 3) := by decide +kernel
theorem dX9_begins_9 : decode cX9_begins 9 = .ok (.iload_n 3, 1) := by decide +kernel
theorem dX9_begins_10 : decode cX9_begins 10 = .ok (.bipush 60, 2) := by decide +kernel
theorem dX9_begins_12 : decode cX9_begins 12 = .ok (.idiv, 1) := by decide +kernel
theorem dX9_begins_13 : decode cX9_begins 13 = .ok (.istore 4, 2) := by decide +kernel
theorem dX9_begins_15 : decode cX9_begins 15 = .ok (.aload_n 0, 1) := by decide +kernel
theorem dX9_begins_16 : decode cX9_begins 16 = .ok (.getfield 7, 3) := by decide +kernel
theorem dX9_begins_19 : decode cX9_begins 19 = .ok (.bipush 40, 2) := by decide +kernel
theorem dX9_begins_21 : decode cX9_begins 21 = .ok (.aload_n 0, 1) := by decide +kernel
theorem dX9_begins_22 : decode cX9_begins 22 = .ok (.getfield 13, 3) := by decide +kernel
theorem dX9_begins_25 : decode cX9_begins 25 = .ok (.iload_n 1, 1) := by decide +kernel
theorem dX9_begins_26 : decode cX9_begins 26 = .ok (.iaload, 1) := by decide +kernel
theorem dX9_begins_27 : decode cX9_begins 27 = .ok (.imul, 1) := by decide +kernel
theorem dX9_begins_28 : decode cX9_begins 28 = .ok (.aload_n 0, 1) := by decide +kernel
theorem dX9_begins_29 : decode cX9_begins 29 = .ok (.getfield 16, 3) := by decide +kernel
theorem dX9_begins_32 : decode cX9_begins 32 = .ok (.iload_n 1, 1) := by decide +kernel
theorem dX9_begins_33 : decode cX9_begins 33 = .ok (.iaload, 1) := by decide +kernel
theorem dX9_begins_34 : decode cX9_begins 34 = .ok (.iadd, 1) := by decide +kernel
theorem dX9_begins_35 : decode cX9_begins 35 = .ok (.iaload, 1) := by decide +kernel
theorem dX9_begins_36 : decode cX9_begins 36 = .ok (.aload_n 0, 1) := by decide +kernel
theorem dX9_begins_37 : decode cX9_begins 37 = .ok (.getfield 71, 3) := by decide +kernel
theorem dX9_begins_40 : decode cX9_begins 40 = .ok (.iload 4, 2) := by decide +kernel
theorem dX9_begins_42 : decode cX9_begins 42 = .ok (.iaload, 1) := by decide +kernel
theorem dX9_begins_43 : decode cX9_begins 43 = .ok (.iadd, 1) := by decide +kernel
theorem dX9_begins_44 : decode cX9_begins 44 = .ok (.aload_n 0, 1) := by decide +kernel
theorem dX9_begins_45 : decode cX9_begins 45 = .ok (.getfield 152, 3) := by decide +kernel
theorem dX9_begins_48 : decode cX9_begins 48 = .ok (.if_icmp .lt 19, 3) := by decide +kernel
theorem dX9_begins_51 : decode cX9_begins 51 = .ok (.aload_n 0, 1) := by decide +kernel
theorem dX9_begins_52 : decode cX9_begins 52 = .ok (.getfield 74, 3) := by decide +kernel
theorem dX9_begins_55 : decode cX9_begins 55 = .ok (.iload 4, 2) := by decide +kernel
theorem dX9_begins_57 : decode cX9_begins 57 = .ok (.iaload, 1) := by decide +kernel
theorem dX9_begins_58 : decode cX9_begins 58 = .ok (.aload_n 0, 1) := by decide +kernel
theorem dX9_begins_59 : decode cX9_begins 59 = .ok (.getfield 81, 3) := by decide +kernel
theorem dX9_begins_62 : decode cX9_begins 62 = .ok (.if_icmp .gt 5, 3) := by decide +kernel
theorem dX9_begins_65 : decode cX9_begins 65 = .ok (.iload_n 3, 1) := by decide +kernel
theorem dX9_begins_66 : decode cX9_begins 66 = .ok (.ireturn, 1) := by decide +kernel
theorem dX9_begins_67 : decode cX9_begins 67 = .ok (.bipush 60, 2) := by decide +kernel
theorem dX9_begins_69 : decode cX9_begins 69 = .ok (.iload 4, 2) := by decide +kernel
theorem dX9_begins_71 : decode cX9_begins 71 = .ok (.imul, 1) := by decide +kernel
theorem dX9_begins_72 : decode cX9_begins 72 = .ok (.bipush 60, 2) := by decide +kernel
theorem dX9_begins_74 : decode cX9_begins 74 = .ok (.iadd, 1) := by decide +kernel
theorem dX9_begins_75 : decode cX9_begins 75 = .ok (.istore_n 3, 1) := by decide +kernel
theorem dX9_begins_76 : decode cX9_begins 76 = .ok (.goto (-74), 3) := by decide +kernel
theorem dX9_begins_79 : decode cX9_begins 79 = .ok (.iconst (-1), 1) := by decide +kernel
theorem dX9_begins_80 : decode cX9_begins 80 = .ok (.ireturn, 1) := by decide +kernel
theorem dX9_sums_0 : decode cX9_sums 0 = .ok (.iconst 0, 1) := by decide +kernel
theorem dX9_sums_1 : decode cX9_sums 1 = .ok (.istore_n 1, 1) := by decide +kernel
theorem dX9_sums_2 : decode cX9_sums 2 = .ok (.iload_n 1, 1) := by decide +kernel
theorem dX9_sums_3 : decode cX9_sums 3 = .ok (.iconst 1, 1) := by decide +kernel
theorem dX9_sums_4 : decode cX9_sums 4 = .ok (.aload_n 0, 1) := by decide +kernel
theorem dX9_sums_5 : decode cX9_sums 5 = .ok (.getfield 109, 3) := by decide +kernel
theorem dX9_sums_8 : decode cX9_sums 8 = .ok (.ishl, 1) := by decide +kernel
theorem dX9_sums_9 : decode cX9_sums 9 = .ok (.if_icmp .ge 95, 3) := by decide +kernel
theorem dX9_sums_12 : decode cX9_sums 12 = .ok (.aload_n 0, 1) := by decide +kernel
theorem dX9_sums_13 : decode cX9_sums 13 = .ok (.getfield 99, 3) := by decide +kernel
theorem dX9_sums_16 : decode cX9_sums 16 = .ok (.iload_n 1, 1) := by decide +kernel
theorem dX9_sums_17 : decode cX9_sums 17 = .ok (.iconst 0, 1) := by decide +kernel
theorem dX9_sums_18 : decode cX9_sums 18 = .ok (.iastore, 1) := by decide +kernel
theorem dX9_sums_19 : decode cX9_sums 19 = .ok (.aload_n 0, 1) := by decide +kernel
theorem dX9_sums_20 : decode cX9_sums 20 = .ok (.getfield 102, 3) := by decide +kernel
theorem dX9_sums_23 : decode cX9_sums 23 = .ok (.iload_n 1, 1) := by decide +kernel
theorem dX9_sums_24 : decode cX9_sums 24 = .ok (.iconst 0, 1) := by decide +kernel
theorem dX9_sums_25 : decode cX9_sums 25 = .ok (.iastore, 1) := by decide +kernel
theorem dX9_sums_26 : decode cX9_sums 26 = .ok (.iconst 0, 1) := by decide +kernel
theorem dX9_sums_27 : decode cX9_sums 27 = .ok (.istore_n 2, 1) := by decide +kernel
theorem dX9_sums_28 : decode cX9_sums 28 = .ok (.iload_n 2, 1) := by decide +kernel
theorem dX9_sums_29 : decode cX9_sums 29 = .ok (.aload_n 0, 1) := by decide +kernel
theorem dX9_sums_30 : decode cX9_sums 30 = .ok (.getfield 109, 3) := by decide +kernel
theorem dX9_sums_33 : decode cX9_sums 33 = .ok (.if_icmp .ge 65, 3) := by decide +kernel
theorem dX9_sums_36 : decode cX9_sums 36 = .ok (.aload_n 0, 1) := by decide +kernel
theorem dX9_sums_37 : decode cX9_sums 37 = .ok (.getfield 99, 3) := by decide +kernel
theorem dX9_sums_40 : decode cX9_sums 40 = .ok (.iload_n 1, 1) := by decide +kernel
theorem dX9_sums_41 : decode cX9_sums 41 = .ok (.dup2, 1) := by decide +kernel
theorem dX9_sums_42 : decode cX9_sums 42 = .ok (.iaload, 1) := by decide +kernel
theorem dX9_sums_43 : decode cX9_sums 43 = .ok (.iload_n 1, 1) := by decide +kernel
theorem dX9_sums_44 : decode cX9_sums 44 = .ok (.iload_n 2, 1) := by decide +kernel
theorem dX9_sums_45 : decode cX9_sums 45 = .ok (.ishr, 1) := by decide +kernel
theorem dX9_sums_46 : decode cX9_sums 46 = .ok (.iconst 1, 1) := by decide +kernel
theorem dX9_sums_47 : decode cX9_sums 47 = .ok (.iand, 1) := by decide +kernel
theorem dX9_sums_48 : decode cX9_sums 48 = .ok (.iconst 1, 1) := by decide +kernel
theorem dX9_sums_49 : decode cX9_sums 49 = .ok (.if_icmp .ne 12, 3) := by decide +kernel
theorem dX9_sums_52 : decode cX9_sums 52 = .ok (.aload_n 0, 1) := by decide +kernel
theorem dX9_sums_53 : decode cX9_sums 53 = .ok (.getfield 65, 3) := by decide +kernel
theorem dX9_sums_56 : decode cX9_sums 56 = .ok (.iload_n 2, 1) := by decide +kernel
theorem dX9_sums_57 : decode cX9_sums 57 = .ok (.iaload, 1) := by decide +kernel
theorem dX9_sums_58 : decode cX9_sums 58 = .ok (.goto 4, 3) := by decide +kernel
theorem dX9_sums_61 : decode cX9_sums 61 = .ok (.iconst 0, 1) := by decide +kernel
theorem dX9_sums_62 : decode cX9_sums 62 = .ok (.iadd, 1) := by decide +kernel
theorem dX9_sums_63 : decode cX9_sums 63 = .ok (.iastore, 1) := by decide +kernel
theorem dX9_sums_64 : decode cX9_sums 64 = .ok (.aload_n 0, 1) := by decide +kernel
theorem dX9_sums_65 : decode cX9_sums 65 = .ok (.getfield 102, 3) := by decide +kernel
theorem dX9_sums_68 : decode cX9_sums 68 = .ok (.iload_n 1, 1) := by decide +kernel
theorem dX9_sums_69 : decode cX9_sums 69 = .ok (.dup2, 1) := by decide +kernel
theorem dX9_sums_70 : decode cX9_sums 70 = .ok (.iaload, 1) := by decide +kernel
theorem dX9_sums_71 : decode cX9_sums 71 = .ok (.iload_n 1, 1) := by decide +kernel
theorem dX9_sums_72 : decode cX9_sums 72 = .ok (.iload_n 2, 1) := by decide +kernel
theorem dX9_sums_73 : decode cX9_sums 73 = .ok (.ishr, 1) := by decide +kernel
theorem dX9_sums_74 : decode cX9_sums 74 = .ok (.iconst 1, 1) := by decide +kernel
theorem dX9_sums_75 : decode cX9_sums 75 = .ok (.iand, 1) := by decide +kernel
theorem dX9_sums_76 : decode cX9_sums 76 = .ok (.iconst 1, 1) := by decide +kernel
theorem dX9_sums_77 : decode cX9_sums 77 = .ok (.if_icmp .ne 12, 3) := by decide +kernel
theorem dX9_sums_80 : decode cX9_sums 80 = .ok (.aload_n 0, 1) := by decide +kernel
theorem dX9_sums_81 : decode cX9_sums 81 = .ok (.getfield 68, 3) := by decide +kernel
theorem dX9_sums_84 : decode cX9_sums 84 = .ok (.iload_n 2, 1) := by decide +kernel
theorem dX9_sums_85 : decode cX9_sums 85 = .ok (.iaload, 1) := by decide +kernel
theorem dX9_sums_86 : decode cX9_sums 86 = .ok (.goto 4, 3) := by decide +kernel
theorem dX9_sums_89 : decode cX9_sums 89 = .ok (.iconst 0, 1) := by decide +kernel
theorem dX9_sums_90 : decode cX9_sums 90 = .ok (.iadd, 1) := by decide +kernel
theorem dX9_sums_91 : decode cX9_sums 91 = .ok (.iastore, 1) := by decide +kernel
theorem dX9_sums_92 : decode cX9_sums 92 = .ok (.iinc 2 1, 3) := by decide +kernel
theorem dX9_sums_95 : decode cX9_sums 95 = .ok (.goto (-67), 3) := by decide +kernel
theorem dX9_sums_98 : decode cX9_sums 98 = .ok (.iinc 1 1, 3) := by decide +kernel
theorem dX9_sums_101 : decode cX9_sums 101 = .ok (.goto (-99), 3) := by decide +kernel
theorem dX9_sums_104 : decode cX9_sums 104 = .ok (.return_, 1) := by decide +kernel
set_option maxRecDepth 20000 in
theorem ggX9_goesOn_X9_back : GoodIn wsX9_goesOn wsX9_back := goodIn_r _ [8, 9, 10, 3, 11, 12, 13, 14, 7, 15, 16, 17, 18, 19, 20, 21, 22, 23, 45, 46, 47, 48, 49, 50, 51, 52, 53, 54, 55, 56, 57, 58, 59, 60, 61, 62, 63, 64, 65, 66, 67, 68, 69, 70, 71, 72, 73, 74, 75, 76, 77, 78, 79, 80, 81, 82, 83, 84, 85, 86, 87, 88, 89, 90] (by decide +kernel) (by decide +kernel)
set_option maxRecDepth 20000 in
theorem gX9_goesOn_X9_back : GoodIn wsX9_goesOn (wsV RX9 173 RX9 yX9_back wsX9_back) := goodIn_app (goodIn_of _ (by decide +kernel)) ggX9_goesOn_X9_back
set_option maxRecDepth 20000 in
theorem ggX9_goesOn_X9_steps : GoodIn wsX9_goesOn wsX9_steps := goodIn_r _ [27, 1, 2, 28, 29, 30, 7, 31, 32, 33, 34, 35, 10, 12, 13, 14, 15, 16, 17, 18, 19, 20, 21, 22, 23, 36, 37, 38, 39, 40, 41, 42, 43, 44, 45, 46, 47, 48, 49, 50, 51, 52, 53, 54, 55, 56, 57, 58, 59, 60, 61, 62, 63, 64, 65, 66, 67, 68, 69, 70, 71, 72, 73, 74, 75, 76, 77, 78, 79, 80, 81, 82, 83, 84, 85, 86, 87, 88, 89, 90] (by decide +kernel) (by decide +kernel)
set_option maxRecDepth 20000 in
theorem gX9_goesOn_X9_steps : GoodIn wsX9_goesOn (wsV RX9 177 RX9 yX9_steps wsX9_steps) := goodIn_app (goodIn_of _ (by decide +kernel)) ggX9_goesOn_X9_steps
theorem dX9_goesOn_0 : decode cX9_goesOn 0 = .ok (.iconst 1, 1) := by decide +kernel
theorem dX9_goesOn_1 : decode cX9_goesOn 1 = .ok (.aload_n 0, 1) := by decide +kernel
theorem dX9_goesOn_2 : decode cX9_goesOn 2 = .ok (.getfield 109, 3) := by decide +kernel
theorem dX9_goesOn_5 : decode cX9_goesOn 5 = .ok (.ishl, 1) := by decide +kernel
theorem dX9_goesOn_6 : decode cX9_goesOn 6 = .ok (.istore 4, 2) := by decide +kernel
theorem dX9_goesOn_8 : decode cX9_goesOn 8 = .ok (.iconst 0, 1) := by decide +kernel
theorem dX9_goesOn_9 : decode cX9_goesOn 9 = .ok (.istore 5, 2) := by decide +kernel
theorem dX9_goesOn_11 : decode cX9_goesOn 11 = .ok (.iload 5, 2) := by decide +kernel
theorem dX9_goesOn_13 : decode cX9_goesOn 13 = .ok (.bipush 10, 2) := by decide +kernel
theorem dX9_goesOn_15 : decode cX9_goesOn 15 = .ok (.iload 4, 2) := by decide +kernel
theorem dX9_goesOn_17 : decode cX9_goesOn 17 = .ok (.imul, 1) := by decide +kernel
theorem dX9_goesOn_18 : decode cX9_goesOn 18 = .ok (.if_icmp .ge 17, 3) := by decide +kernel
theorem dX9_goesOn_21 : decode cX9_goesOn 21 = .ok (.aload_n 0, 1) := by decide +kernel
theorem dX9_goesOn_22 : decode cX9_goesOn 22 = .ok (.getfield 90, 3) := by decide +kernel
theorem dX9_goesOn_25 : decode cX9_goesOn 25 = .ok (.iload 5, 2) := by decide +kernel
theorem dX9_goesOn_27 : decode cX9_goesOn 27 = .ok (.iconst (-1), 1) := by decide +kernel
theorem dX9_goesOn_28 : decode cX9_goesOn 28 = .ok (.iastore, 1) := by decide +kernel
theorem dX9_goesOn_29 : decode cX9_goesOn 29 = .ok (.iinc 5 1, 3) := by decide +kernel
theorem dX9_goesOn_32 : decode cX9_goesOn 32 = .ok (.goto (-21), 3) := by decide +kernel
theorem dX9_goesOn_35 : decode cX9_goesOn 35 = .ok (.iload_n 2, 1) := by decide +kernel
theorem dX9_goesOn_36 : decode cX9_goesOn 36 = .ok (.ifCond .lt 15, 3) := by decide +kernel
theorem dX9_goesOn_39 : decode cX9_goesOn 39 = .ok (.aload_n 0, 1) := by decide +kernel
theorem dX9_goesOn_40 : decode cX9_goesOn 40 = .ok (.getfield 90, 3) := by decide +kernel
theorem dX9_goesOn_43 : decode cX9_goesOn 43 = .ok (.bipush 10, 2) := by decide +kernel
theorem dX9_goesOn_45 : decode cX9_goesOn 45 = .ok (.iload_n 1, 1) := by decide +kernel
theorem dX9_goesOn_46 : decode cX9_goesOn 46 = .ok (.imul, 1) := by decide +kernel
theorem dX9_goesOn_47 : decode cX9_goesOn 47 = .ok (.iload_n 2, 1) := by decide +kernel
theorem dX9_goesOn_48 : decode cX9_goesOn 48 = .ok (.iadd, 1) := by decide +kernel
theorem dX9_goesOn_49 : decode cX9_goesOn 49 = .ok (.iload_n 3, 1) := by decide +kernel
theorem dX9_goesOn_50 : decode cX9_goesOn 50 = .ok (.iastore, 1) := by decide +kernel
theorem dX9_goesOn_51 : decode cX9_goesOn 51 = .ok (.aload_n 0, 1) := by decide +kernel
theorem dX9_goesOn_52 : decode cX9_goesOn 52 = .ok (.iconst (-1), 1) := by decide +kernel
theorem dX9_goesOn_53 : decode cX9_goesOn 53 = .ok (.putfield 170, 3) := by decide +kernel
theorem dX9_goesOn_56 : decode cX9_goesOn 56 = .ok (.aload_n 0, 1) := by decide +kernel
theorem dX9_goesOn_57 : decode cX9_goesOn 57 = .ok (.iload_n 1, 1) := by decide +kernel
theorem dX9_goesOn_58 : decode cX9_goesOn 58 = .ok (.iload_n 2, 1) := by decide +kernel
theorem dX9_goesOn_59 : decode cX9_goesOn 59 = .ok (.iload_n 3, 1) := by decide +kernel
theorem dX9_goesOn_60 : decode cX9_goesOn 60 = .ok (.invokevirtual 173, 3) := by decide +kernel
theorem dX9_goesOn_63 : decode cX9_goesOn 63 = .ok (.iload_n 1, 1) := by decide +kernel
theorem dX9_goesOn_64 : decode cX9_goesOn 64 = .ok (.istore 5, 2) := by decide +kernel
theorem dX9_goesOn_66 : decode cX9_goesOn 66 = .ok (.iload 5, 2) := by decide +kernel
theorem dX9_goesOn_68 : decode cX9_goesOn 68 = .ok (.iload 4, 2) := by decide +kernel
theorem dX9_goesOn_70 : decode cX9_goesOn 70 = .ok (.if_icmp .ge 96, 3) := by decide +kernel
theorem dX9_goesOn_73 : decode cX9_goesOn 73 = .ok (.iload 5, 2) := by decide +kernel
theorem dX9_goesOn_75 : decode cX9_goesOn 75 = .ok (.iload_n 1, 1) := by decide +kernel
theorem dX9_goesOn_76 : decode cX9_goesOn 76 = .ok (.iand, 1) := by decide +kernel
theorem dX9_goesOn_77 : decode cX9_goesOn 77 = .ok (.iload_n 1, 1) := by decide +kernel
theorem dX9_goesOn_78 : decode cX9_goesOn 78 = .ok (.if_icmp .eq 6, 3) := by decide +kernel
theorem dX9_goesOn_81 : decode cX9_goesOn 81 = .ok (.goto 79, 3) := by decide +kernel
theorem dX9_goesOn_84 : decode cX9_goesOn 84 = .ok (.iload 5, 2) := by decide +kernel
theorem dX9_goesOn_86 : decode cX9_goesOn 86 = .ok (.iload_n 1, 1) := by decide +kernel
theorem dX9_goesOn_87 : decode cX9_goesOn 87 = .ok (.if_icmp .ne 15, 3) := by decide +kernel
theorem dX9_goesOn_90 : decode cX9_goesOn 90 = .ok (.iload_n 2, 1) := by decide +kernel
theorem dX9_goesOn_91 : decode cX9_goesOn 91 = .ok (.ifCond .ge 11, 3) := by decide +kernel
theorem dX9_goesOn_94 : decode cX9_goesOn 94 = .ok (.aload_n 0, 1) := by decide +kernel
theorem dX9_goesOn_95 : decode cX9_goesOn 95 = .ok (.iload 5, 2) := by decide +kernel
theorem dX9_goesOn_97 : decode cX9_goesOn 97 = .ok (.iconst (-1), 1) := by decide +kernel
theorem dX9_goesOn_98 : decode cX9_goesOn 98 = .ok (.iload_n 3, 1) := by decide +kernel
theorem dX9_goesOn_99 : decode cX9_goesOn 99 = .ok (.invokevirtual 177, 3) := by decide +kernel
theorem dX9_goesOn_102 : decode cX9_goesOn 102 = .ok (.iconst 0, 1) := by decide +kernel
theorem dX9_goesOn_103 : decode cX9_goesOn 103 = .ok (.istore 6, 2) := by decide +kernel
theorem dX9_goesOn_105 : decode cX9_goesOn 105 = .ok (.iload 6, 2) := by decide +kernel
theorem dX9_goesOn_107 : decode cX9_goesOn 107 = .ok (.aload_n 0, 1) := by decide +kernel
theorem dX9_goesOn_108 : decode cX9_goesOn 108 = .ok (.getfield 109, 3) := by decide +kernel
theorem dX9_goesOn_111 : decode cX9_goesOn 111 = .ok (.if_icmp .ge 49, 3) := by decide +kernel
theorem dX9_goesOn_114 : decode cX9_goesOn 114 = .ok (.aload_n 0, 1) := by decide +kernel
theorem dX9_goesOn_115 : decode cX9_goesOn 115 = .ok (.getfield 90, 3) := by decide +kernel
theorem dX9_goesOn_118 : decode cX9_goesOn 118 = .ok (.bipush 10, 2) := by decide +kernel
theorem dX9_goesOn_120 : decode cX9_goesOn 120 = .ok (.iload 5, 2) := by decide +kernel
theorem dX9_goesOn_122 : decode cX9_goesOn 122 = .ok (.imul, 1) := by decide +kernel
theorem dX9_goesOn_123 : decode cX9_goesOn 123 = .ok (.iload 6, 2) := by decide +kernel
theorem dX9_goesOn_125 : decode cX9_goesOn 125 = .ok (.iadd, 1) := by decide +kernel
theorem dX9_goesOn_126 : decode cX9_goesOn 126 = .ok (.iaload, 1) := by decide +kernel
theorem dX9_goesOn_127 : decode cX9_goesOn 127 = .ok (.istore 7, 2) := by decide +kernel
theorem dX9_goesOn_129 : decode cX9_goesOn 129 = .ok (.iload 7, 2) := by decide +kernel
theorem dX9_goesOn_131 : decode cX9_goesOn 131 = .ok (.ifCond .lt 23, 3) := by decide +kernel
theorem dX9_goesOn_134 : decode cX9_goesOn 134 = .ok (.aload_n 0, 1) := by decide +kernel
theorem dX9_goesOn_135 : decode cX9_goesOn 135 = .ok (.iload 5, 2) := by decide +kernel
theorem dX9_goesOn_137 : decode cX9_goesOn 137 = .ok (.iload 6, 2) := by decide +kernel
theorem dX9_goesOn_139 : decode cX9_goesOn 139 = .ok (.iload 7, 2) := by decide +kernel
theorem dX9_goesOn_141 : decode cX9_goesOn 141 = .ok (.invokevirtual 173, 3) := by decide +kernel
theorem dX9_goesOn_144 : decode cX9_goesOn 144 = .ok (.aload_n 0, 1) := by decide +kernel
theorem dX9_goesOn_145 : decode cX9_goesOn 145 = .ok (.iload 5, 2) := by decide +kernel
theorem dX9_goesOn_147 : decode cX9_goesOn 147 = .ok (.iload 6, 2) := by decide +kernel
theorem dX9_goesOn_149 : decode cX9_goesOn 149 = .ok (.iload 7, 2) := by decide +kernel
theorem dX9_goesOn_151 : decode cX9_goesOn 151 = .ok (.invokevirtual 177, 3) := by decide +kernel
theorem dX9_goesOn_154 : decode cX9_goesOn 154 = .ok (.iinc 6 1, 3) := by decide +kernel
theorem dX9_goesOn_157 : decode cX9_goesOn 157 = .ok (.goto (-52), 3) := by decide +kernel
theorem dX9_goesOn_160 : decode cX9_goesOn 160 = .ok (.iinc 5 1, 3) := by decide +kernel
theorem dX9_goesOn_163 : decode cX9_goesOn 163 = .ok (.goto (-97), 3) := by decide +kernel
theorem dX9_goesOn_166 : decode cX9_goesOn 166 = .ok (.return_, 1) := by decide +kernel
set_option maxRecDepth 20000 in
theorem ggX9_back_X9_way : GoodIn wsX9_back wsX9_way := goodIn_r _ [9, 10, 11, 12, 13, 14, 15, 16, 8, 17, 18, 19, 20, 21, 22, 23, 24, 25, 26, 27, 28, 29, 30, 31, 32, 33, 34, 35, 36, 37, 38, 39, 40, 41, 42, 43, 44, 45, 46, 47, 48, 49, 50, 51, 52, 53, 54, 55, 56, 57, 58, 59, 60, 61, 62, 63] (by decide +kernel) (by decide +kernel)
set_option maxRecDepth 20000 in
theorem gX9_back_X9_way : GoodIn wsX9_back (wsV RX9 179 RX9 yX9_way wsX9_way) := goodIn_app (goodIn_of _ (by decide +kernel)) ggX9_back_X9_way
theorem dX9_back_0 : decode cX9_back 0 = .ok (.iload_n 2, 1) := by decide +kernel
theorem dX9_back_1 : decode cX9_back 1 = .ok (.ifCond .ge 7, 3) := by decide +kernel
theorem dX9_back_4 : decode cX9_back 4 = .ok (.iload_n 3, 1) := by decide +kernel
theorem dX9_back_5 : decode cX9_back 5 = .ok (.goto 11, 3) := by decide +kernel
theorem dX9_back_8 : decode cX9_back 8 = .ok (.iload_n 3, 1) := by decide +kernel
theorem dX9_back_9 : decode cX9_back 9 = .ok (.aload_n 0, 1) := by decide +kernel
theorem dX9_back_10 : decode cX9_back 10 = .ok (.iload_n 2, 1) := by decide +kernel
theorem dX9_back_11 : decode cX9_back 11 = .ok (.iconst (-1), 1) := by decide +kernel
theorem dX9_back_12 : decode cX9_back 12 = .ok (.invokevirtual 179, 3) := by decide +kernel
theorem dX9_back_15 : decode cX9_back 15 = .ok (.iadd, 1) := by decide +kernel
theorem dX9_back_16 : decode cX9_back 16 = .ok (.istore 4, 2) := by decide +kernel
theorem dX9_back_18 : decode cX9_back 18 = .ok (.aload_n 0, 1) := by decide +kernel
theorem dX9_back_19 : decode cX9_back 19 = .ok (.getfield 102, 3) := by decide +kernel
theorem dX9_back_22 : decode cX9_back 22 = .ok (.iload_n 1, 1) := by decide +kernel
theorem dX9_back_23 : decode cX9_back 23 = .ok (.iaload, 1) := by decide +kernel
theorem dX9_back_24 : decode cX9_back 24 = .ok (.istore 5, 2) := by decide +kernel
theorem dX9_back_26 : decode cX9_back 26 = .ok (.iload 4, 2) := by decide +kernel
theorem dX9_back_28 : decode cX9_back 28 = .ok (.aload_n 0, 1) := by decide +kernel
theorem dX9_back_29 : decode cX9_back 29 = .ok (.getfield 84, 3) := by decide +kernel
theorem dX9_back_32 : decode cX9_back 32 = .ok (.if_icmp .gt 42, 3) := by decide +kernel
theorem dX9_back_35 : decode cX9_back 35 = .ok (.iload 5, 2) := by decide +kernel
theorem dX9_back_37 : decode cX9_back 37 = .ok (.aload_n 0, 1) := by decide +kernel
theorem dX9_back_38 : decode cX9_back 38 = .ok (.getfield 170, 3) := by decide +kernel
theorem dX9_back_41 : decode cX9_back 41 = .ok (.if_icmp .gt 21, 3) := by decide +kernel
theorem dX9_back_44 : decode cX9_back 44 = .ok (.iload 5, 2) := by decide +kernel
theorem dX9_back_46 : decode cX9_back 46 = .ok (.aload_n 0, 1) := by decide +kernel
theorem dX9_back_47 : decode cX9_back 47 = .ok (.getfield 170, 3) := by decide +kernel
theorem dX9_back_50 : decode cX9_back 50 = .ok (.if_icmp .ne 24, 3) := by decide +kernel
theorem dX9_back_53 : decode cX9_back 53 = .ok (.iload 4, 2) := by decide +kernel
theorem dX9_back_55 : decode cX9_back 55 = .ok (.aload_n 0, 1) := by decide +kernel
theorem dX9_back_56 : decode cX9_back 56 = .ok (.getfield 182, 3) := by decide +kernel
theorem dX9_back_59 : decode cX9_back 59 = .ok (.if_icmp .ge 15, 3) := by decide +kernel
theorem dX9_back_62 : decode cX9_back 62 = .ok (.aload_n 0, 1) := by decide +kernel
theorem dX9_back_63 : decode cX9_back 63 = .ok (.iload 5, 2) := by decide +kernel
theorem dX9_back_65 : decode cX9_back 65 = .ok (.putfield 170, 3) := by decide +kernel
theorem dX9_back_68 : decode cX9_back 68 = .ok (.aload_n 0, 1) := by decide +kernel
theorem dX9_back_69 : decode cX9_back 69 = .ok (.iload 4, 2) := by decide +kernel
theorem dX9_back_71 : decode cX9_back 71 = .ok (.putfield 182, 3) := by decide +kernel
theorem dX9_back_74 : decode cX9_back 74 = .ok (.return_, 1) := by decide +kernel
set_option maxRecDepth 20000 in
theorem ggX9_steps_X9_does : GoodIn wsX9_steps wsX9_does := goodIn_r _ [7, 8, 9, 10, 11, 12, 13, 14, 15, 6, 16, 17, 18, 19, 20, 21, 22, 23, 24, 25, 26, 27, 28, 29, 30, 31, 32, 33, 34, 35, 36, 37, 38, 39, 40, 41, 42, 43, 44, 45, 46, 47, 48, 49, 50, 51, 52, 53, 54, 55, 56, 57, 58, 59, 60, 61, 62, 63, 64, 65, 66, 67, 68, 69, 70, 71, 72, 73, 74, 75, 76, 77, 78, 79] (by decide +kernel) (by decide +kernel)
set_option maxRecDepth 20000 in
theorem gX9_steps_X9_does : GoodIn wsX9_steps (wsV RX9 185 RX9 yX9_does wsX9_does) := goodIn_app (goodIn_of _ (by decide +kernel)) ggX9_steps_X9_does
theorem dX9_steps_0 : decode cX9_steps 0 = .ok (.iconst 0, 1) := by decide +kernel
theorem dX9_steps_1 : decode cX9_steps 1 = .ok (.istore 4, 2) := by decide +kernel
theorem dX9_steps_3 : decode cX9_steps 3 = .ok (.iload 4, 2) := by decide +kernel
theorem dX9_steps_5 : decode cX9_steps 5 = .ok (.aload_n 0, 1) := by decide +kernel
theorem dX9_steps_6 : decode cX9_steps 6 = .ok (.getfield 109, 3) := by decide +kernel
theorem dX9_steps_9 : decode cX9_steps 9 = .ok (.if_icmp .ge 70, 3) := by decide +kernel
theorem dX9_steps_12 : decode cX9_steps 12 = .ok (.aload_n 0, 1) := by decide +kernel
theorem dX9_steps_13 : decode cX9_steps 13 = .ok (.iload_n 1, 1) := by decide +kernel
theorem dX9_steps_14 : decode cX9_steps 14 = .ok (.iload_n 2, 1) := by decide +kernel
theorem dX9_steps_15 : decode cX9_steps 15 = .ok (.iload_n 3, 1) := by decide +kernel
theorem dX9_steps_16 : decode cX9_steps 16 = .ok (.iload 4, 2) := by decide +kernel
theorem dX9_steps_18 : decode cX9_steps 18 = .ok (.invokevirtual 185, 3) := by decide +kernel
theorem dX9_steps_21 : decode cX9_steps 21 = .ok (.istore 5, 2) := by decide +kernel
theorem dX9_steps_23 : decode cX9_steps 23 = .ok (.bipush 10, 2) := by decide +kernel
theorem dX9_steps_25 : decode cX9_steps 25 = .ok (.iload_n 1, 1) := by decide +kernel
theorem dX9_steps_26 : decode cX9_steps 26 = .ok (.iconst 1, 1) := by decide +kernel
theorem dX9_steps_27 : decode cX9_steps 27 = .ok (.iload 4, 2) := by decide +kernel
theorem dX9_steps_29 : decode cX9_steps 29 = .ok (.ishl, 1) := by decide +kernel
theorem dX9_steps_30 : decode cX9_steps 30 = .ok (.ior, 1) := by decide +kernel
theorem dX9_steps_31 : decode cX9_steps 31 = .ok (.imul, 1) := by decide +kernel
theorem dX9_steps_32 : decode cX9_steps 32 = .ok (.iload 4, 2) := by decide +kernel
theorem dX9_steps_34 : decode cX9_steps 34 = .ok (.iadd, 1) := by decide +kernel
theorem dX9_steps_35 : decode cX9_steps 35 = .ok (.istore 6, 2) := by decide +kernel
theorem dX9_steps_37 : decode cX9_steps 37 = .ok (.iload 5, 2) := by decide +kernel
theorem dX9_steps_39 : decode cX9_steps 39 = .ok (.ifCond .lt 34, 3) := by decide +kernel
theorem dX9_steps_42 : decode cX9_steps 42 = .ok (.aload_n 0, 1) := by decide +kernel
theorem dX9_steps_43 : decode cX9_steps 43 = .ok (.getfield 90, 3) := by decide +kernel
theorem dX9_steps_46 : decode cX9_steps 46 = .ok (.iload 6, 2) := by decide +kernel
theorem dX9_steps_48 : decode cX9_steps 48 = .ok (.iaload, 1) := by decide +kernel
theorem dX9_steps_49 : decode cX9_steps 49 = .ok (.ifCond .lt 15, 3) := by decide +kernel
theorem dX9_steps_52 : decode cX9_steps 52 = .ok (.iload 5, 2) := by decide +kernel
theorem dX9_steps_54 : decode cX9_steps 54 = .ok (.aload_n 0, 1) := by decide +kernel
theorem dX9_steps_55 : decode cX9_steps 55 = .ok (.getfield 90, 3) := by decide +kernel
theorem dX9_steps_58 : decode cX9_steps 58 = .ok (.iload 6, 2) := by decide +kernel
theorem dX9_steps_60 : decode cX9_steps 60 = .ok (.iaload, 1) := by decide +kernel
theorem dX9_steps_61 : decode cX9_steps 61 = .ok (.if_icmp .ge 12, 3) := by decide +kernel
theorem dX9_steps_64 : decode cX9_steps 64 = .ok (.aload_n 0, 1) := by decide +kernel
theorem dX9_steps_65 : decode cX9_steps 65 = .ok (.getfield 90, 3) := by decide +kernel
theorem dX9_steps_68 : decode cX9_steps 68 = .ok (.iload 6, 2) := by decide +kernel
theorem dX9_steps_70 : decode cX9_steps 70 = .ok (.iload 5, 2) := by decide +kernel
theorem dX9_steps_72 : decode cX9_steps 72 = .ok (.iastore, 1) := by decide +kernel
theorem dX9_steps_73 : decode cX9_steps 73 = .ok (.iinc 4 1, 3) := by decide +kernel
theorem dX9_steps_76 : decode cX9_steps 76 = .ok (.goto (-73), 3) := by decide +kernel
theorem dX9_steps_79 : decode cX9_steps 79 = .ok (.return_, 1) := by decide +kernel
set_option maxRecDepth 20000 in
theorem ggX9_does_X9_way : GoodIn wsX9_does wsX9_way := goodIn_r _ [10, 11, 12, 13, 14, 15, 16, 17, 9, 18, 28, 29, 30, 31, 32, 33, 34, 35, 36, 37, 38, 39, 40, 41, 42, 43, 44, 45, 46, 47, 48, 49, 50, 51, 52, 53, 54, 55, 56, 57, 58, 59, 60, 61, 62, 63, 64, 65, 66, 67, 68, 69, 70, 71, 72, 73] (by decide +kernel) (by decide +kernel)
set_option maxRecDepth 20000 in
theorem gX9_does_X9_way : GoodIn wsX9_does (wsV RX9 179 RX9 yX9_way wsX9_way) := goodIn_app (goodIn_of _ (by decide +kernel)) ggX9_does_X9_way
set_option maxRecDepth 20000 in
theorem ggX9_does_X9_begins : GoodIn wsX9_does wsX9_begins := goodIn_r _ [22, 23, 12, 14, 24, 25, 26, 27, 28, 29, 30, 31, 32, 33, 34, 35, 36, 37, 38, 39, 40, 41, 42, 43, 44, 45, 46, 47, 48, 49, 50, 51, 52, 53, 54, 55, 56, 57, 58, 59, 60, 61, 62, 63, 64, 65, 66, 67, 68, 69, 70, 71, 72, 73] (by decide +kernel) (by decide +kernel)
set_option maxRecDepth 20000 in
theorem gX9_does_X9_begins : GoodIn wsX9_does (wsV RX9 189 RX9 yX9_begins wsX9_begins) := goodIn_app (goodIn_of _ (by decide +kernel)) ggX9_does_X9_begins
theorem dX9_does_0 : decode cX9_does 0 = .ok (.aload_n 0, 1) := by decide +kernel
theorem dX9_does_1 : decode cX9_does 1 = .ok (.getfield 68, 3) := by decide +kernel
theorem dX9_does_4 : decode cX9_does 4 = .ok (.iload 4, 2) := by decide +kernel
theorem dX9_does_6 : decode cX9_does 6 = .ok (.iaload, 1) := by decide +kernel
theorem dX9_does_7 : decode cX9_does 7 = .ok (.ifCond .eq 31, 3) := by decide +kernel
theorem dX9_does_10 : decode cX9_does 10 = .ok (.iload_n 1, 1) := by decide +kernel
theorem dX9_does_11 : decode cX9_does 11 = .ok (.iload 4, 2) := by decide +kernel
theorem dX9_does_13 : decode cX9_does 13 = .ok (.ishr, 1) := by decide +kernel
theorem dX9_does_14 : decode cX9_does 14 = .ok (.iconst 1, 1) := by decide +kernel
theorem dX9_does_15 : decode cX9_does 15 = .ok (.iand, 1) := by decide +kernel
theorem dX9_does_16 : decode cX9_does 16 = .ok (.iconst 1, 1) := by decide +kernel
theorem dX9_does_17 : decode cX9_does 17 = .ok (.if_icmp .eq 21, 3) := by decide +kernel
theorem dX9_does_20 : decode cX9_does 20 = .ok (.aload_n 0, 1) := by decide +kernel
theorem dX9_does_21 : decode cX9_does 21 = .ok (.getfield 99, 3) := by decide +kernel
theorem dX9_does_24 : decode cX9_does 24 = .ok (.iload_n 1, 1) := by decide +kernel
theorem dX9_does_25 : decode cX9_does 25 = .ok (.iconst 1, 1) := by decide +kernel
theorem dX9_does_26 : decode cX9_does 26 = .ok (.iload 4, 2) := by decide +kernel
theorem dX9_does_28 : decode cX9_does 28 = .ok (.ishl, 1) := by decide +kernel
theorem dX9_does_29 : decode cX9_does 29 = .ok (.ior, 1) := by decide +kernel
theorem dX9_does_30 : decode cX9_does 30 = .ok (.iaload, 1) := by decide +kernel
theorem dX9_does_31 : decode cX9_does 31 = .ok (.aload_n 0, 1) := by decide +kernel
theorem dX9_does_32 : decode cX9_does 32 = .ok (.getfield 155, 3) := by decide +kernel
theorem dX9_does_35 : decode cX9_does 35 = .ok (.if_icmp .le 5, 3) := by decide +kernel
theorem dX9_does_38 : decode cX9_does 38 = .ok (.iconst (-1), 1) := by decide +kernel
theorem dX9_does_39 : decode cX9_does 39 = .ok (.ireturn, 1) := by decide +kernel
theorem dX9_does_40 : decode cX9_does 40 = .ok (.aload_n 0, 1) := by decide +kernel
theorem dX9_does_41 : decode cX9_does 41 = .ok (.iload 4, 2) := by decide +kernel
theorem dX9_does_43 : decode cX9_does 43 = .ok (.iload_n 3, 1) := by decide +kernel
theorem dX9_does_44 : decode cX9_does 44 = .ok (.aload_n 0, 1) := by decide +kernel
theorem dX9_does_45 : decode cX9_does 45 = .ok (.iload_n 2, 1) := by decide +kernel
theorem dX9_does_46 : decode cX9_does 46 = .ok (.iload 4, 2) := by decide +kernel
theorem dX9_does_48 : decode cX9_does 48 = .ok (.invokevirtual 179, 3) := by decide +kernel
theorem dX9_does_51 : decode cX9_does 51 = .ok (.iadd, 1) := by decide +kernel
theorem dX9_does_52 : decode cX9_does 52 = .ok (.invokevirtual 189, 3) := by decide +kernel
theorem dX9_does_55 : decode cX9_does 55 = .ok (.istore 5, 2) := by decide +kernel
theorem dX9_does_57 : decode cX9_does 57 = .ok (.iload 5, 2) := by decide +kernel
theorem dX9_does_59 : decode cX9_does 59 = .ok (.ifCond .lt 20, 3) := by decide +kernel
theorem dX9_does_62 : decode cX9_does 62 = .ok (.iload 5, 2) := by decide +kernel
theorem dX9_does_64 : decode cX9_does 64 = .ok (.aload_n 0, 1) := by decide +kernel
theorem dX9_does_65 : decode cX9_does 65 = .ok (.getfield 62, 3) := by decide +kernel
theorem dX9_does_68 : decode cX9_does 68 = .ok (.iload 4, 2) := by decide +kernel
theorem dX9_does_70 : decode cX9_does 70 = .ok (.iaload, 1) := by decide +kernel
theorem dX9_does_71 : decode cX9_does 71 = .ok (.iadd, 1) := by decide +kernel
theorem dX9_does_72 : decode cX9_does 72 = .ok (.aload_n 0, 1) := by decide +kernel
theorem dX9_does_73 : decode cX9_does 73 = .ok (.getfield 84, 3) := by decide +kernel
theorem dX9_does_76 : decode cX9_does 76 = .ok (.if_icmp .le 7, 3) := by decide +kernel
theorem dX9_does_79 : decode cX9_does 79 = .ok (.iconst (-1), 1) := by decide +kernel
theorem dX9_does_80 : decode cX9_does 80 = .ok (.goto 13, 3) := by decide +kernel
theorem dX9_does_83 : decode cX9_does 83 = .ok (.iload 5, 2) := by decide +kernel
theorem dX9_does_85 : decode cX9_does 85 = .ok (.aload_n 0, 1) := by decide +kernel
theorem dX9_does_86 : decode cX9_does 86 = .ok (.getfield 62, 3) := by decide +kernel
theorem dX9_does_89 : decode cX9_does 89 = .ok (.iload 4, 2) := by decide +kernel
theorem dX9_does_91 : decode cX9_does 91 = .ok (.iaload, 1) := by decide +kernel
theorem dX9_does_92 : decode cX9_does 92 = .ok (.iadd, 1) := by decide +kernel
theorem dX9_does_93 : decode cX9_does 93 = .ok (.ireturn, 1) := by decide +kernel
set_option maxRecDepth 20000 in
theorem ggX9_rounds_X9_sums : GoodIn wsX9_rounds wsX9_sums := goodIn_r _ [16, 17, 18, 8, 19, 20, 61, 62, 63, 64, 65, 66, 67, 68, 69, 70, 71, 72, 73, 74, 75, 76, 77, 78, 79, 80, 81, 82, 83, 84, 85, 86, 87, 88, 89, 90, 91, 92, 93, 94, 95, 96, 97, 98, 99, 100, 101, 102, 103, 104, 105, 106] (by decide +kernel) (by decide +kernel)
set_option maxRecDepth 20000 in
theorem gX9_rounds_X9_sums : GoodIn wsX9_rounds (wsV RX9 192 RX9 yX9_sums wsX9_sums) := goodIn_app (goodIn_of _ (by decide +kernel)) ggX9_rounds_X9_sums
set_option maxRecDepth 20000 in
theorem ggX9_rounds_X9_goesOn : GoodIn wsX9_rounds wsX9_goesOn := goodIn_r _ [24, 17, 25, 4, 26, 27, 28, 15, 29, 8, 30, 6, 31, 32, 33, 34, 35, 36, 37, 38, 39, 40, 41, 42, 43, 44, 45, 46, 47, 48, 49, 50, 20, 18, 51, 11, 52, 53, 54, 55, 56, 57, 58, 59, 60, 61, 62, 63, 64, 65, 66, 67, 68, 69, 70, 71, 72, 73, 74, 75, 76, 77, 78, 79, 80, 81, 82, 83, 84, 85, 86, 87, 88, 89, 90, 91, 92, 93, 94, 95, 96, 97, 98, 99, 100, 101, 102, 103, 104, 105, 106] (by decide +kernel) (by decide +kernel)
set_option maxRecDepth 20000 in
theorem gX9_rounds_X9_goesOn : GoodIn wsX9_rounds (wsV RX9 198 RX9 yX9_goesOn wsX9_goesOn) := goodIn_app (goodIn_of _ (by decide +kernel)) ggX9_rounds_X9_goesOn
set_option maxRecDepth 20000 in
theorem ggX9_rounds_X9_does : GoodIn wsX9_rounds wsX9_does := goodIn_r _ [50, 20, 18, 51, 11, 30, 31, 32, 33, 15, 34, 35, 36, 37, 38, 39, 40, 41, 42, 52, 53, 54, 55, 56, 57, 58, 59, 60, 61, 62, 63, 64, 65, 66, 67, 68, 69, 70, 71, 72, 73, 74, 75, 76, 77, 78, 79, 80, 81, 82, 83, 84, 85, 86, 87, 88, 89, 90, 91, 92, 93, 94, 95, 96, 97, 98, 99, 100, 101, 102, 103, 104, 105, 106] (by decide +kernel) (by decide +kernel)
set_option maxRecDepth 20000 in
theorem gX9_rounds_X9_does : GoodIn wsX9_rounds (wsV RX9 185 RX9 yX9_does wsX9_does) := goodIn_app (goodIn_of _ (by decide +kernel)) ggX9_rounds_X9_does
set_option maxRecDepth 20000 in
theorem ggX9_rounds_X9_way : GoodIn wsX9_rounds wsX9_way := goodIn_r _ [34, 35, 36, 37, 38, 39, 40, 41, 15, 42, 61, 62, 63, 64, 65, 66, 67, 68, 69, 70, 71, 72, 73, 74, 75, 76, 77, 78, 79, 80, 81, 82, 83, 84, 85, 86, 87, 88, 89, 90, 91, 92, 93, 94, 95, 96, 97, 98, 99, 100, 101, 102, 103, 104, 105, 106] (by decide +kernel) (by decide +kernel)
set_option maxRecDepth 20000 in
theorem gX9_rounds_X9_way : GoodIn wsX9_rounds (wsV RX9 179 RX9 yX9_way wsX9_way) := goodIn_app (goodIn_of _ (by decide +kernel)) ggX9_rounds_X9_way
set_option maxRecDepth 20000 in
theorem ggX9_rounds_X9_begins : GoodIn wsX9_rounds wsX9_begins := goodIn_r _ [55, 56, 36, 38, 57, 58, 59, 60, 61, 62, 63, 64, 65, 66, 67, 68, 69, 70, 71, 72, 73, 74, 75, 76, 77, 78, 79, 80, 81, 82, 83, 84, 85, 86, 87, 88, 89, 90, 91, 92, 93, 94, 95, 96, 97, 98, 99, 100, 101, 102, 103, 104, 105, 106] (by decide +kernel) (by decide +kernel)
set_option maxRecDepth 20000 in
theorem gX9_rounds_X9_begins : GoodIn wsX9_rounds (wsV RX9 189 RX9 yX9_begins wsX9_begins) := goodIn_app (goodIn_of _ (by decide +kernel)) ggX9_rounds_X9_begins
theorem dX9_rounds_0 : decode cX9_rounds 0 = .ok (.aload_n 0, 1) := by decide +kernel
theorem dX9_rounds_1 : decode cX9_rounds 1 = .ok (.getfield 116, 3) := by decide +kernel
theorem dX9_rounds_4 : decode cX9_rounds 4 = .ok (.ifCond .eq 4, 3) := by decide +kernel
theorem dX9_rounds_7 : decode cX9_rounds 7 = .ok (.return_, 1) := by decide +kernel
theorem dX9_rounds_8 : decode cX9_rounds 8 = .ok (.aload_n 0, 1) := by decide +kernel
theorem dX9_rounds_9 : decode cX9_rounds 9 = .ok (.iconst 1, 1) := by decide +kernel
theorem dX9_rounds_10 : decode cX9_rounds 10 = .ok (.putfield 116, 3) := by decide +kernel
theorem dX9_rounds_13 : decode cX9_rounds 13 = .ok (.aload_n 0, 1) := by decide +kernel
theorem dX9_rounds_14 : decode cX9_rounds 14 = .ok (.invokevirtual 192, 3) := by decide +kernel
theorem dX9_rounds_17 : decode cX9_rounds 17 = .ok (.aload_n 0, 1) := by decide +kernel
theorem dX9_rounds_18 : decode cX9_rounds 18 = .ok (.iconst 0, 1) := by decide +kernel
theorem dX9_rounds_19 : decode cX9_rounds 19 = .ok (.putfield 195, 3) := by decide +kernel
theorem dX9_rounds_22 : decode cX9_rounds 22 = .ok (.aload_n 0, 1) := by decide +kernel
theorem dX9_rounds_23 : decode cX9_rounds 23 = .ok (.iconst 0, 1) := by decide +kernel
theorem dX9_rounds_24 : decode cX9_rounds 24 = .ok (.iconst (-1), 1) := by decide +kernel
theorem dX9_rounds_25 : decode cX9_rounds 25 = .ok (.aload_n 0, 1) := by decide +kernel
theorem dX9_rounds_26 : decode cX9_rounds 26 = .ok (.getfield 164, 3) := by decide +kernel
theorem dX9_rounds_29 : decode cX9_rounds 29 = .ok (.invokevirtual 198, 3) := by decide +kernel
theorem dX9_rounds_32 : decode cX9_rounds 32 = .ok (.aload_n 0, 1) := by decide +kernel
theorem dX9_rounds_33 : decode cX9_rounds 33 = .ok (.aload_n 0, 1) := by decide +kernel
theorem dX9_rounds_34 : decode cX9_rounds 34 = .ok (.getfield 170, 3) := by decide +kernel
theorem dX9_rounds_37 : decode cX9_rounds 37 = .ok (.putfield 201, 3) := by decide +kernel
theorem dX9_rounds_40 : decode cX9_rounds 40 = .ok (.aload_n 0, 1) := by decide +kernel
theorem dX9_rounds_41 : decode cX9_rounds 41 = .ok (.aload_n 0, 1) := by decide +kernel
theorem dX9_rounds_42 : decode cX9_rounds 42 = .ok (.getfield 182, 3) := by decide +kernel
theorem dX9_rounds_45 : decode cX9_rounds 45 = .ok (.putfield 204, 3) := by decide +kernel
theorem dX9_rounds_48 : decode cX9_rounds 48 = .ok (.iconst 0, 1) := by decide +kernel
theorem dX9_rounds_49 : decode cX9_rounds 49 = .ok (.istore_n 1, 1) := by decide +kernel
theorem dX9_rounds_50 : decode cX9_rounds 50 = .ok (.iconst (-1), 1) := by decide +kernel
theorem dX9_rounds_51 : decode cX9_rounds 51 = .ok (.istore_n 2, 1) := by decide +kernel
theorem dX9_rounds_52 : decode cX9_rounds 52 = .ok (.aload_n 0, 1) := by decide +kernel
theorem dX9_rounds_53 : decode cX9_rounds 53 = .ok (.getfield 164, 3) := by decide +kernel
theorem dX9_rounds_56 : decode cX9_rounds 56 = .ok (.istore_n 3, 1) := by decide +kernel
theorem dX9_rounds_57 : decode cX9_rounds 57 = .ok (.aload_n 0, 1) := by decide +kernel
theorem dX9_rounds_58 : decode cX9_rounds 58 = .ok (.getfield 102, 3) := by decide +kernel
theorem dX9_rounds_61 : decode cX9_rounds 61 = .ok (.iload_n 1, 1) := by decide +kernel
theorem dX9_rounds_62 : decode cX9_rounds 62 = .ok (.iaload, 1) := by decide +kernel
theorem dX9_rounds_63 : decode cX9_rounds 63 = .ok (.aload_n 0, 1) := by decide +kernel
theorem dX9_rounds_64 : decode cX9_rounds 64 = .ok (.getfield 201, 3) := by decide +kernel
theorem dX9_rounds_67 : decode cX9_rounds 67 = .ok (.if_icmp .ge 160, 3) := by decide +kernel
theorem dX9_rounds_70 : decode cX9_rounds 70 = .ok (.iconst 0, 1) := by decide +kernel
theorem dX9_rounds_71 : decode cX9_rounds 71 = .ok (.istore 4, 2) := by decide +kernel
theorem dX9_rounds_73 : decode cX9_rounds 73 = .ok (.iconst 0, 1) := by decide +kernel
theorem dX9_rounds_74 : decode cX9_rounds 74 = .ok (.istore 5, 2) := by decide +kernel
theorem dX9_rounds_76 : decode cX9_rounds 76 = .ok (.iload 5, 2) := by decide +kernel
theorem dX9_rounds_78 : decode cX9_rounds 78 = .ok (.ifCond .ne 73, 3) := by decide +kernel
theorem dX9_rounds_81 : decode cX9_rounds 81 = .ok (.aload_n 0, 1) := by decide +kernel
theorem dX9_rounds_82 : decode cX9_rounds 82 = .ok (.iload_n 1, 1) := by decide +kernel
theorem dX9_rounds_83 : decode cX9_rounds 83 = .ok (.iload_n 2, 1) := by decide +kernel
theorem dX9_rounds_84 : decode cX9_rounds 84 = .ok (.iload_n 3, 1) := by decide +kernel
theorem dX9_rounds_85 : decode cX9_rounds 85 = .ok (.iload 4, 2) := by decide +kernel
theorem dX9_rounds_87 : decode cX9_rounds 87 = .ok (.invokevirtual 185, 3) := by decide +kernel
theorem dX9_rounds_90 : decode cX9_rounds 90 = .ok (.istore 6, 2) := by decide +kernel
theorem dX9_rounds_92 : decode cX9_rounds 92 = .ok (.iload 6, 2) := by decide +kernel
theorem dX9_rounds_94 : decode cX9_rounds 94 = .ok (.ifCond .lt 46, 3) := by decide +kernel
theorem dX9_rounds_97 : decode cX9_rounds 97 = .ok (.aload_n 0, 1) := by decide +kernel
theorem dX9_rounds_98 : decode cX9_rounds 98 = .ok (.iload_n 1, 1) := by decide +kernel
theorem dX9_rounds_99 : decode cX9_rounds 99 = .ok (.iconst 1, 1) := by decide +kernel
theorem dX9_rounds_100 : decode cX9_rounds 100 = .ok (.iload 4, 2) := by decide +kernel
theorem dX9_rounds_102 : decode cX9_rounds 102 = .ok (.ishl, 1) := by decide +kernel
theorem dX9_rounds_103 : decode cX9_rounds 103 = .ok (.ior, 1) := by decide +kernel
theorem dX9_rounds_104 : decode cX9_rounds 104 = .ok (.iload 4, 2) := by decide +kernel
theorem dX9_rounds_106 : decode cX9_rounds 106 = .ok (.iload 6, 2) := by decide +kernel
theorem dX9_rounds_108 : decode cX9_rounds 108 = .ok (.invokevirtual 198, 3) := by decide +kernel
theorem dX9_rounds_111 : decode cX9_rounds 111 = .ok (.aload_n 0, 1) := by decide +kernel
theorem dX9_rounds_112 : decode cX9_rounds 112 = .ok (.getfield 170, 3) := by decide +kernel
theorem dX9_rounds_115 : decode cX9_rounds 115 = .ok (.aload_n 0, 1) := by decide +kernel
theorem dX9_rounds_116 : decode cX9_rounds 116 = .ok (.getfield 201, 3) := by decide +kernel
theorem dX9_rounds_119 : decode cX9_rounds 119 = .ok (.if_icmp .ne 18, 3) := by decide +kernel
theorem dX9_rounds_122 : decode cX9_rounds 122 = .ok (.aload_n 0, 1) := by decide +kernel
theorem dX9_rounds_123 : decode cX9_rounds 123 = .ok (.getfield 182, 3) := by decide +kernel
theorem dX9_rounds_126 : decode cX9_rounds 126 = .ok (.aload_n 0, 1) := by decide +kernel
theorem dX9_rounds_127 : decode cX9_rounds 127 = .ok (.getfield 204, 3) := by decide +kernel
theorem dX9_rounds_130 : decode cX9_rounds 130 = .ok (.if_icmp .ne 7, 3) := by decide +kernel
theorem dX9_rounds_133 : decode cX9_rounds 133 = .ok (.iconst 1, 1) := by decide +kernel
theorem dX9_rounds_134 : decode cX9_rounds 134 = .ok (.goto 4, 3) := by decide +kernel
theorem dX9_rounds_137 : decode cX9_rounds 137 = .ok (.iconst 0, 1) := by decide +kernel
theorem dX9_rounds_138 : decode cX9_rounds 138 = .ok (.istore 5, 2) := by decide +kernel
theorem dX9_rounds_140 : decode cX9_rounds 140 = .ok (.iload 5, 2) := by decide +kernel
theorem dX9_rounds_142 : decode cX9_rounds 142 = .ok (.ifCond .ne 6, 3) := by decide +kernel
theorem dX9_rounds_145 : decode cX9_rounds 145 = .ok (.iinc 4 1, 3) := by decide +kernel
theorem dX9_rounds_148 : decode cX9_rounds 148 = .ok (.goto (-72), 3) := by decide +kernel
theorem dX9_rounds_151 : decode cX9_rounds 151 = .ok (.aload_n 0, 1) := by decide +kernel
theorem dX9_rounds_152 : decode cX9_rounds 152 = .ok (.getfield 93, 3) := by decide +kernel
theorem dX9_rounds_155 : decode cX9_rounds 155 = .ok (.aload_n 0, 1) := by decide +kernel
theorem dX9_rounds_156 : decode cX9_rounds 156 = .ok (.getfield 195, 3) := by decide +kernel
theorem dX9_rounds_159 : decode cX9_rounds 159 = .ok (.iload 4, 2) := by decide +kernel
theorem dX9_rounds_161 : decode cX9_rounds 161 = .ok (.iastore, 1) := by decide +kernel
theorem dX9_rounds_162 : decode cX9_rounds 162 = .ok (.aload_n 0, 1) := by decide +kernel
theorem dX9_rounds_163 : decode cX9_rounds 163 = .ok (.getfield 96, 3) := by decide +kernel
theorem dX9_rounds_166 : decode cX9_rounds 166 = .ok (.aload_n 0, 1) := by decide +kernel
theorem dX9_rounds_167 : decode cX9_rounds 167 = .ok (.getfield 195, 3) := by decide +kernel
theorem dX9_rounds_170 : decode cX9_rounds 170 = .ok (.aload_n 0, 1) := by decide +kernel
theorem dX9_rounds_171 : decode cX9_rounds 171 = .ok (.iload 4, 2) := by decide +kernel
theorem dX9_rounds_173 : decode cX9_rounds 173 = .ok (.iload_n 3, 1) := by decide +kernel
theorem dX9_rounds_174 : decode cX9_rounds 174 = .ok (.aload_n 0, 1) := by decide +kernel
theorem dX9_rounds_175 : decode cX9_rounds 175 = .ok (.iload_n 2, 1) := by decide +kernel
theorem dX9_rounds_176 : decode cX9_rounds 176 = .ok (.iload 4, 2) := by decide +kernel
theorem dX9_rounds_178 : decode cX9_rounds 178 = .ok (.invokevirtual 179, 3) := by decide +kernel
theorem dX9_rounds_181 : decode cX9_rounds 181 = .ok (.iadd, 1) := by decide +kernel
theorem dX9_rounds_182 : decode cX9_rounds 182 = .ok (.invokevirtual 189, 3) := by decide +kernel
theorem dX9_rounds_185 : decode cX9_rounds 185 = .ok (.iastore, 1) := by decide +kernel
theorem dX9_rounds_186 : decode cX9_rounds 186 = .ok (.aload_n 0, 1) := by decide +kernel
theorem dX9_rounds_187 : decode cX9_rounds 187 = .ok (.getfield 96, 3) := by decide +kernel
theorem dX9_rounds_190 : decode cX9_rounds 190 = .ok (.aload_n 0, 1) := by decide +kernel
theorem dX9_rounds_191 : decode cX9_rounds 191 = .ok (.getfield 195, 3) := by decide +kernel
theorem dX9_rounds_194 : decode cX9_rounds 194 = .ok (.iaload, 1) := by decide +kernel
theorem dX9_rounds_195 : decode cX9_rounds 195 = .ok (.aload_n 0, 1) := by decide +kernel
theorem dX9_rounds_196 : decode cX9_rounds 196 = .ok (.getfield 62, 3) := by decide +kernel
theorem dX9_rounds_199 : decode cX9_rounds 199 = .ok (.iload 4, 2) := by decide +kernel
theorem dX9_rounds_201 : decode cX9_rounds 201 = .ok (.iaload, 1) := by decide +kernel
theorem dX9_rounds_202 : decode cX9_rounds 202 = .ok (.iadd, 1) := by decide +kernel
theorem dX9_rounds_203 : decode cX9_rounds 203 = .ok (.istore_n 3, 1) := by decide +kernel
theorem dX9_rounds_204 : decode cX9_rounds 204 = .ok (.aload_n 0, 1) := by decide +kernel
theorem dX9_rounds_205 : decode cX9_rounds 205 = .ok (.dup, 1) := by decide +kernel
theorem dX9_rounds_206 : decode cX9_rounds 206 = .ok (.getfield 195, 3) := by decide +kernel
theorem dX9_rounds_209 : decode cX9_rounds 209 = .ok (.iconst 1, 1) := by decide +kernel
theorem dX9_rounds_210 : decode cX9_rounds 210 = .ok (.iadd, 1) := by decide +kernel
theorem dX9_rounds_211 : decode cX9_rounds 211 = .ok (.putfield 195, 3) := by decide +kernel
theorem dX9_rounds_214 : decode cX9_rounds 214 = .ok (.iload_n 1, 1) := by decide +kernel
theorem dX9_rounds_215 : decode cX9_rounds 215 = .ok (.iconst 1, 1) := by decide +kernel
theorem dX9_rounds_216 : decode cX9_rounds 216 = .ok (.iload 4, 2) := by decide +kernel
theorem dX9_rounds_218 : decode cX9_rounds 218 = .ok (.ishl, 1) := by decide +kernel
end
section
theorem dX9_rounds_219 : decode cX9_rounds 219 = .ok (.ior, 1) := by decide +kernel
theorem dX9_rounds_220 : decode cX9_rounds 220 = .ok (.istore_n 1, 1) := by decide +kernel
theorem dX9_rounds_221 : decode cX9_rounds 221 = .ok (.iload 4, 2) := by decide +kernel
theorem dX9_rounds_223 : decode cX9_rounds 223 = .ok (.istore_n 2, 1) := by decide +kernel
theorem dX9_rounds_224 : decode cX9_rounds 224 = .ok (.goto (-167), 3) := by decide +kernel
theorem dX9_rounds_227 : decode cX9_rounds 227 = .ok (.return_, 1) := by decide +kernel
set_option maxRecDepth 20000 in
theorem ggX9_round_X9_rounds : GoodIn wsX9_round wsX9_rounds := goodIn_r _ [11, 12, 1, 13, 14, 4, 15, 5, 16, 3, 6, 17, 18, 19, 20, 10, 21, 22, 23, 2, 24, 25, 26, 27, 28, 29, 30, 31, 32, 33, 34, 35, 36, 37, 38, 39, 40, 41, 42, 43, 44, 45, 46, 47, 48, 49, 50, 51, 52, 53, 54, 55, 56, 57, 58, 59, 60, 61, 62, 63, 64, 68, 69, 70, 71, 72, 73, 74, 75, 76, 77, 78, 79, 80, 81, 82, 83, 84, 85, 86, 87, 88, 89, 90, 91, 92, 93, 94, 95, 96, 97, 98, 99, 100, 101, 102, 103, 104, 105, 106, 107, 108, 109, 110, 111, 112, 113] (by decide +kernel) (by decide +kernel)
set_option maxRecDepth 20000 in
theorem gX9_round_X9_rounds : GoodIn wsX9_round (wsV RX9 207 RX9 yX9_rounds wsX9_rounds) := goodIn_app (goodIn_of _ (by decide +kernel)) ggX9_round_X9_rounds
set_option maxRecDepth 20000 in
theorem ggX9_round_X9_in : GoodIn wsX9_round wsX9_in := goodIn_r _ [67] (by decide +kernel) (by decide +kernel)
set_option maxRecDepth 20000 in
theorem gX9_round_X9_in : GoodIn wsX9_round (va_wsS RX9 105 yX9_in wsX9_in) := goodIn_app (goodIn_of _ (by decide +kernel)) ggX9_round_X9_in
theorem dX9_round_0 : decode cX9_round 0 = .ok (.aload_n 0, 1) := by decide +kernel
theorem dX9_round_1 : decode cX9_round 1 = .ok (.invokevirtual 207, 3) := by decide +kernel
theorem dX9_round_4 : decode cX9_round 4 = .ok (.iconst 0, 1) := by decide +kernel
theorem dX9_round_5 : decode cX9_round 5 = .ok (.istore_n 2, 1) := by decide +kernel
theorem dX9_round_6 : decode cX9_round 6 = .ok (.iconst 0, 1) := by decide +kernel
theorem dX9_round_7 : decode cX9_round 7 = .ok (.istore_n 3, 1) := by decide +kernel
theorem dX9_round_8 : decode cX9_round 8 = .ok (.iload_n 3, 1) := by decide +kernel
theorem dX9_round_9 : decode cX9_round 9 = .ok (.aload_n 0, 1) := by decide +kernel
theorem dX9_round_10 : decode cX9_round 10 = .ok (.getfield 195, 3) := by decide +kernel
theorem dX9_round_13 : decode cX9_round 13 = .ok (.if_icmp .ge 23, 3) := by decide +kernel
theorem dX9_round_16 : decode cX9_round 16 = .ok (.iload_n 2, 1) := by decide +kernel
theorem dX9_round_17 : decode cX9_round 17 = .ok (.aload_n 0, 1) := by decide +kernel
theorem dX9_round_18 : decode cX9_round 18 = .ok (.getfield 65, 3) := by decide +kernel
theorem dX9_round_21 : decode cX9_round 21 = .ok (.aload_n 0, 1) := by decide +kernel
theorem dX9_round_22 : decode cX9_round 22 = .ok (.getfield 93, 3) := by decide +kernel
theorem dX9_round_25 : decode cX9_round 25 = .ok (.iload_n 3, 1) := by decide +kernel
theorem dX9_round_26 : decode cX9_round 26 = .ok (.iaload, 1) := by decide +kernel
theorem dX9_round_27 : decode cX9_round 27 = .ok (.iaload, 1) := by decide +kernel
theorem dX9_round_28 : decode cX9_round 28 = .ok (.iadd, 1) := by decide +kernel
theorem dX9_round_29 : decode cX9_round 29 = .ok (.istore_n 2, 1) := by decide +kernel
theorem dX9_round_30 : decode cX9_round 30 = .ok (.iinc 3 1, 3) := by decide +kernel
theorem dX9_round_33 : decode cX9_round 33 = .ok (.goto (-25), 3) := by decide +kernel
theorem dX9_round_36 : decode cX9_round 36 = .ok (.iload_n 1, 1) := by decide +kernel
theorem dX9_round_37 : decode cX9_round 37 = .ok (.tableswitch 48 0 3 #[31, 36, 41, 46], 31) := by decide +kernel
theorem dX9_round_68 : decode cX9_round 68 = .ok (.aload_n 0, 1) := by decide +kernel
theorem dX9_round_69 : decode cX9_round 69 = .ok (.getfield 201, 3) := by decide +kernel
theorem dX9_round_72 : decode cX9_round 72 = .ok (.ireturn, 1) := by decide +kernel
theorem dX9_round_73 : decode cX9_round 73 = .ok (.aload_n 0, 1) := by decide +kernel
theorem dX9_round_74 : decode cX9_round 74 = .ok (.getfield 204, 3) := by decide +kernel
theorem dX9_round_77 : decode cX9_round 77 = .ok (.ireturn, 1) := by decide +kernel
theorem dX9_round_78 : decode cX9_round 78 = .ok (.aload_n 0, 1) := by decide +kernel
theorem dX9_round_79 : decode cX9_round 79 = .ok (.getfield 195, 3) := by decide +kernel
theorem dX9_round_82 : decode cX9_round 82 = .ok (.ireturn, 1) := by decide +kernel
theorem dX9_round_83 : decode cX9_round 83 = .ok (.iload_n 2, 1) := by decide +kernel
theorem dX9_round_84 : decode cX9_round 84 = .ok (.ireturn, 1) := by decide +kernel
theorem dX9_round_85 : decode cX9_round 85 = .ok (.iload_n 1, 1) := by decide +kernel
theorem dX9_round_86 : decode cX9_round 86 = .ok (.bipush 100, 2) := by decide +kernel
theorem dX9_round_88 : decode cX9_round 88 = .ok (.bipush 99, 2) := by decide +kernel
theorem dX9_round_90 : decode cX9_round 90 = .ok (.aload_n 0, 1) := by decide +kernel
theorem dX9_round_91 : decode cX9_round 91 = .ok (.getfield 195, 3) := by decide +kernel
theorem dX9_round_94 : decode cX9_round 94 = .ok (.iadd, 1) := by decide +kernel
theorem dX9_round_95 : decode cX9_round 95 = .ok (.invokestatic 105, 3) := by decide +kernel
theorem dX9_round_98 : decode cX9_round 98 = .ok (.ifCond .eq 15, 3) := by decide +kernel
theorem dX9_round_101 : decode cX9_round 101 = .ok (.aload_n 0, 1) := by decide +kernel
theorem dX9_round_102 : decode cX9_round 102 = .ok (.getfield 93, 3) := by decide +kernel
theorem dX9_round_105 : decode cX9_round 105 = .ok (.iload_n 1, 1) := by decide +kernel
theorem dX9_round_106 : decode cX9_round 106 = .ok (.bipush 100, 2) := by decide +kernel
theorem dX9_round_108 : decode cX9_round 108 = .ok (.isub, 1) := by decide +kernel
theorem dX9_round_109 : decode cX9_round 109 = .ok (.iaload, 1) := by decide +kernel
theorem dX9_round_110 : decode cX9_round 110 = .ok (.goto 35, 3) := by decide +kernel
theorem dX9_round_113 : decode cX9_round 113 = .ok (.iload_n 1, 1) := by decide +kernel
theorem dX9_round_114 : decode cX9_round 114 = .ok (.sipush 200, 3) := by decide +kernel
theorem dX9_round_117 : decode cX9_round 117 = .ok (.sipush 199, 3) := by decide +kernel
theorem dX9_round_120 : decode cX9_round 120 = .ok (.aload_n 0, 1) := by decide +kernel
theorem dX9_round_121 : decode cX9_round 121 = .ok (.getfield 195, 3) := by decide +kernel
theorem dX9_round_124 : decode cX9_round 124 = .ok (.iadd, 1) := by decide +kernel
theorem dX9_round_125 : decode cX9_round 125 = .ok (.invokestatic 105, 3) := by decide +kernel
theorem dX9_round_128 : decode cX9_round 128 = .ok (.ifCond .eq 16, 3) := by decide +kernel
theorem dX9_round_131 : decode cX9_round 131 = .ok (.aload_n 0, 1) := by decide +kernel
theorem dX9_round_132 : decode cX9_round 132 = .ok (.getfield 96, 3) := by decide +kernel
theorem dX9_round_135 : decode cX9_round 135 = .ok (.iload_n 1, 1) := by decide +kernel
theorem dX9_round_136 : decode cX9_round 136 = .ok (.sipush 200, 3) := by decide +kernel
theorem dX9_round_139 : decode cX9_round 139 = .ok (.isub, 1) := by decide +kernel
theorem dX9_round_140 : decode cX9_round 140 = .ok (.iaload, 1) := by decide +kernel
theorem dX9_round_141 : decode cX9_round 141 = .ok (.goto 4, 3) := by decide +kernel
theorem dX9_round_144 : decode cX9_round 144 = .ok (.iconst (-1), 1) := by decide +kernel
theorem dX9_round_145 : decode cX9_round 145 = .ok (.ireturn, 1) := by decide +kernel
theorem dX9_about_0 : decode cX9_about 0 = .ok (.iconst 0, 1) := by decide +kernel
theorem dX9_about_1 : decode cX9_about 1 = .ok (.istore_n 2, 1) := by decide +kernel
theorem dX9_about_2 : decode cX9_about 2 = .ok (.iconst 0, 1) := by decide +kernel
theorem dX9_about_3 : decode cX9_about 3 = .ok (.istore_n 3, 1) := by decide +kernel
theorem dX9_about_4 : decode cX9_about 4 = .ok (.iload_n 3, 1) := by decide +kernel
theorem dX9_about_5 : decode cX9_about 5 = .ok (.aload_n 0, 1) := by decide +kernel
theorem dX9_about_6 : decode cX9_about 6 = .ok (.getfield 109, 3) := by decide +kernel
theorem dX9_about_9 : decode cX9_about 9 = .ok (.if_icmp .ge 26, 3) := by decide +kernel
theorem dX9_about_12 : decode cX9_about 12 = .ok (.iload_n 2, 1) := by decide +kernel
theorem dX9_about_13 : decode cX9_about 13 = .ok (.aload_n 0, 1) := by decide +kernel
theorem dX9_about_14 : decode cX9_about 14 = .ok (.getfield 68, 3) := by decide +kernel
theorem dX9_about_17 : decode cX9_about 17 = .ok (.iload_n 3, 1) := by decide +kernel
theorem dX9_about_18 : decode cX9_about 18 = .ok (.iaload, 1) := by decide +kernel
theorem dX9_about_19 : decode cX9_about 19 = .ok (.ifCond .le 7, 3) := by decide +kernel
theorem dX9_about_22 : decode cX9_about 22 = .ok (.iconst 1, 1) := by decide +kernel
theorem dX9_about_23 : decode cX9_about 23 = .ok (.goto 4, 3) := by decide +kernel
theorem dX9_about_26 : decode cX9_about 26 = .ok (.iconst 0, 1) := by decide +kernel
theorem dX9_about_27 : decode cX9_about 27 = .ok (.iadd, 1) := by decide +kernel
theorem dX9_about_28 : decode cX9_about 28 = .ok (.istore_n 2, 1) := by decide +kernel
theorem dX9_about_29 : decode cX9_about 29 = .ok (.iinc 3 1, 3) := by decide +kernel
theorem dX9_about_32 : decode cX9_about 32 = .ok (.goto (-28), 3) := by decide +kernel
theorem dX9_about_35 : decode cX9_about 35 = .ok (.iload_n 1, 1) := by decide +kernel
theorem dX9_about_36 : decode cX9_about 36 = .ok (.tableswitch 67 0 5 #[40, 45, 50, 55, 60, 62], 40) := by decide +kernel
theorem dX9_about_76 : decode cX9_about 76 = .ok (.aload_n 0, 1) := by decide +kernel
theorem dX9_about_77 : decode cX9_about 77 = .ok (.getfield 109, 3) := by decide +kernel
theorem dX9_about_80 : decode cX9_about 80 = .ok (.ireturn, 1) := by decide +kernel
theorem dX9_about_81 : decode cX9_about 81 = .ok (.aload_n 0, 1) := by decide +kernel
theorem dX9_about_82 : decode cX9_about 82 = .ok (.getfield 131, 3) := by decide +kernel
theorem dX9_about_85 : decode cX9_about 85 = .ok (.ireturn, 1) := by decide +kernel
theorem dX9_about_86 : decode cX9_about 86 = .ok (.aload_n 0, 1) := by decide +kernel
theorem dX9_about_87 : decode cX9_about 87 = .ok (.getfield 146, 3) := by decide +kernel
theorem dX9_about_90 : decode cX9_about 90 = .ok (.ireturn, 1) := by decide +kernel
theorem dX9_about_91 : decode cX9_about 91 = .ok (.aload_n 0, 1) := by decide +kernel
theorem dX9_about_92 : decode cX9_about 92 = .ok (.getfield 140, 3) := by decide +kernel
theorem dX9_about_95 : decode cX9_about 95 = .ok (.ireturn, 1) := by decide +kernel
theorem dX9_about_96 : decode cX9_about 96 = .ok (.iload_n 2, 1) := by decide +kernel
theorem dX9_about_97 : decode cX9_about 97 = .ok (.ireturn, 1) := by decide +kernel
theorem dX9_about_98 : decode cX9_about 98 = .ok (.aload_n 0, 1) := by decide +kernel
theorem dX9_about_99 : decode cX9_about 99 = .ok (.getfield 84, 3) := by decide +kernel
theorem dX9_about_102 : decode cX9_about 102 = .ok (.ireturn, 1) := by decide +kernel
theorem dX9_about_103 : decode cX9_about 103 = .ok (.iconst (-1), 1) := by decide +kernel
theorem dX9_about_104 : decode cX9_about 104 = .ok (.ireturn, 1) := by decide +kernel
end
section
/-! THE BASE: what every contract stands on. nlF, nlM: the links between nest mates; GK: classes, array kinds and links as the tables have them; RO, RW: the starts of contracts that read, that write. -/
def nlF : List (String × Nat × String × String × String × String) := [(RX8, 73, "BuoyTender$Mark", "sighting", "LBuoyTender$Sighting;", "BuoyTender"), (RX8, 85, "BuoyTender$Mark", "x", "I", "BuoyTender"), (RX8, 88, "BuoyTender$Mark", "y", "I", "BuoyTender"), (RX8, 99, "BuoyTender$Mark", "radius", "I", "BuoyTender"), (RX8, 106, "BuoyTender$Sighting", "told", "Z", "BuoyTender"), (RX8, 116, "BuoyTender$Mark", "chain", "LBuoyTender$Chain;", "BuoyTender"), (RX8, 130, "BuoyTender$Chain", "laid", "Z", "BuoyTender"), (RX8, 147, "BuoyTender$Chain", "since", "I", "BuoyTender"), (RX8, 150, "BuoyTender$Mark", "rhythm", "LBuoyTender$Rhythm;", "BuoyTender"), (RX8, 199, "BuoyTender$Warnings", "markOf", "[I", "BuoyTender"), (RX8, 202, "BuoyTender$Warnings", "reasonOf", "[I", "BuoyTender"), (RX8, 205, "BuoyTender$Warnings", "toldOn", "[I", "BuoyTender"), (RX8, 208, "BuoyTender$Warnings", "cancelledOn", "[I", "BuoyTender"), (RX8, 211, "BuoyTender$Mark", "minutes", "I", "BuoyTender"), (RX8, 214, "BuoyTender$Mark", "load", "I", "BuoyTender"), (RX8, 217, "BuoyTender$Mark", "weight", "I", "BuoyTender"), (RX8, 220, "BuoyTender$Ship", "tides", "[I", "BuoyTender"), (RX8, 223, "BuoyTender$Ship", "winds", "[I", "BuoyTender"), (RX8, 226, "BuoyTender$Ship", "pace", "I", "BuoyTender"), (RX8, 229, "BuoyTender$Ship", "draught", "I", "BuoyTender"), (RX8, 232, "BuoyTender$Ship", "mostWind", "I", "BuoyTender"), (RX8, 235, "BuoyTender$Ship", "carried", "I", "BuoyTender"), (RX8, 238, "BuoyTender$Ship", "x", "I", "BuoyTender"), (RX8, 239, "BuoyTender$Ship", "y", "I", "BuoyTender"), (RX8, 240, "BuoyTender$Ship", "minute", "I", "BuoyTender"), (RX8, 243, "BuoyTender$Ship", "end", "I", "BuoyTender"), (RX8, 256, "BuoyTender$Planner", "bestWeight", "I", "BuoyTender"), (RX8, 259, "BuoyTender$Planner", "bestBack", "I", "BuoyTender"), (RX8, 262, "BuoyTender$Planner", "length", "I", "BuoyTender"), (RX8, 271, "BuoyTender$Warnings", "count", "I", "BuoyTender"), (RX8, 280, "BuoyTender$Survey", "left", "I", "BuoyTender"), (RX8, 283, "BuoyTender$Survey", "leastX", "I", "BuoyTender"), (RX8, 286, "BuoyTender$Survey", "leastY", "I", "BuoyTender"), (RX8, 289, "BuoyTender$Survey", "mostX", "I", "BuoyTender"), (RX8, 292, "BuoyTender$Survey", "mostY", "I", "BuoyTender"), (RX2, 79, "BuoyTender$Mark", "weight", "I", "BuoyTender"), (RX2, 84, "BuoyTender$Mark", "minutes", "I", "BuoyTender"), (RX2, 86, "BuoyTender$Mark", "load", "I", "BuoyTender"), (RX2, 89, "BuoyTender$Mark", "y", "I", "BuoyTender"), (RX2, 92, "BuoyTender$Mark", "x", "I", "BuoyTender"), (RX2, 113, "BuoyTender$Ship", "x", "I", "BuoyTender"), (RX2, 114, "BuoyTender$Ship", "y", "I", "BuoyTender"), (RX2, 125, "BuoyTender$Ship", "pace", "I", "BuoyTender"), (RX2, 136, "BuoyTender$Ship", "minute", "I", "BuoyTender"), (RX2, 143, "BuoyTender$Ship", "carried", "I", "BuoyTender"), (RX2, 150, "BuoyTender$Ship", "end", "I", "BuoyTender"), (RX6, 30, "BuoyTender$Mark", "sighting", "LBuoyTender$Sighting;", "BuoyTender"), (RX6, 36, "BuoyTender$Sighting", "ruledOut", "[J", "BuoyTender"), (RX6, 42, "BuoyTender$Sighting", "shallowest", "I", "BuoyTender"), (RX6, 45, "BuoyTender$Sighting", "deepest", "I", "BuoyTender"), (RX6, 61, "BuoyTender$Mark", "x", "I", "BuoyTender"), (RX6, 64, "BuoyTender$Mark", "y", "I", "BuoyTender"), (RX6, 71, "BuoyTender$Mark", "radius", "I", "BuoyTender")]
def nlM : List (String × Nat × MethodName × String) := [(RX8, 24, yX7_init, "BuoyTender"), (RX8, 31, yX4_init, "BuoyTender"), (RX8, 38, yX6_init, "BuoyTender"), (RX8, 45, yX3_init, "BuoyTender"), (RX8, 66, yX1_init, "BuoyTender"), (RX8, 77, yX5_begin, "BuoyTender"), (RX8, 91, yX5_tellBearing, "BuoyTender"), (RX8, 95, yX5_tellSounding, "BuoyTender"), (RX8, 102, yX6_take, "BuoyTender"), (RX8, 124, yX0_lay, "BuoyTender"), (RX8, 133, yX0_leftBehind, "BuoyTender"), (RX8, 143, yX0_lifeEnds, "BuoyTender"), (RX8, 153, yX3_goDark, "BuoyTender"), (RX8, 156, yX3_read, "BuoyTender"), (RX8, 163, yX3_copyFrom, "BuoyTender"), (RX8, 174, yX3_isLit, "BuoyTender"), (RX8, 178, yX3_matches, "BuoyTender"), (RX8, 182, yX7_tell, "BuoyTender"), (RX8, 186, yX7_end, "BuoyTender"), (RX8, 189, yX7_countOn, "BuoyTender"), (RX8, 193, yX7_numberOn, "BuoyTender"), (RX8, 196, yX7_has, "BuoyTender"), (RX8, 251, yX2_init, "BuoyTender"), (RX8, 252, yX2_plan, "BuoyTender"), (RX8, 265, yX2_loadDone, "BuoyTender"), (RX8, 268, yX2_step, "BuoyTender"), (RX8, 277, yX6_how, "BuoyTender"), (RX8, 295, yX1_isNear, "BuoyTender"), (RX1, 9, yX5_init, "BuoyTender"), (RX1, 18, yX0_init, "BuoyTender"), (RX1, 25, yX3_init, "BuoyTender"), (RX1, 40, yX8_squareBetween, "BuoyTender"), (RX2, 99, yX4_mayBegin, "BuoyTender"), (RX3, 19, yX8_within, "BuoyTender"), (RX6, 67, yX8_squareBetween, "BuoyTender")]
def NL (U : State) : Prop := (∀ q ∈ nlF, va_Nw (.fieldLinkNest q.1 q.2.1 q.2.2.1 q.2.2.2.1 q.2.2.2.2.1 q.2.2.2.2.2) U) ∧ (∀ q ∈ nlM, va_Nw (.methodLinkNest q.1 q.2.1 q.2.2.1 q.2.2.2) U) ∧ va_AO "BuoyTender$Mark" U
theorem nl_warm {s U : State} (hW : s.WarmedH U.vm) (h : NL s) : NL U := ⟨fun q hq => va_Nw.warmF hW (h.1 q hq), fun q hq => va_Nw.warmM hW (h.2.1 q hq), va_AO.moved hW.alike h.2.2⟩
theorem nl_same {u U : State} (hv : u.vm = U.vm) (h : NL u) : NL U := ⟨fun q hq => (h.1 q hq).same rfl hv, fun q hq => (h.2.1 q hq).same rfl hv, va_AO.moved (by rw [hv]; exact Vm.Alike.refl U.vm) h.2.2⟩
abbrev TY (cI cJ cZ cM : Nat) : List (ClassId × FieldType) := [(cI, .int), (cJ, .long), (cZ, .boolean), (cM, .object "BuoyTender$Mark")]
def GK (D : va_G) (cI cJ cZ cM : Nat) (U : State) : Prop := va_K D vwCl (TY cI cJ cZ cM) U ∧ NL U
theorem gk_warm {D : va_G} {cI cJ cZ cM : Nat} {s U : State} (hW : s.WarmedH U.vm) (h : GK D cI cJ cZ cM s) : GK D cI cJ cZ cM U := ⟨va_K.moved hW.alike h.1, nl_warm hW h.2⟩
theorem gk_call {D : va_G} {cI cJ cZ cM : Nat} {U : State} (g : JFrame) (mk : MethodId) (a : Array Value) (h : GK D cI cJ cZ cM U) : GK D cI cJ cZ cM (U.calling g mk a) := ⟨va_K.moved (u := U) (U := U.calling g mk a) (Vm.Alike.refl U.vm) h.1, nl_same (u := U) (U := U.calling g mk a) rfl h.2⟩
abbrev RO (D : va_G) (cI cJ cZ cM : Nat) (av : List Value) (ws : va_W) : Array Value → State → Prop := va_Pc av (fun U => GK D cI cJ cZ cM U ∧ va_P D vwCl ws U.heap)
abbrev RW (D : va_G) (cI cJ cZ cM : Nat) (av : List Value) (ws : va_W) (sz : Nat) : Array Value → State → Prop := va_Pc av (fun U => U.heap.size = sz ∧ GK D cI cJ cZ cM U ∧ va_P D vwCl ws U.heap ∧ va_D (fun _ => True) ws)
theorem ro_S {D : va_G} {cI cJ cZ cM : Nat} {s : State} {H : Heap} {As : List Value} {ws : va_W} (hG : GK D cI cJ cZ cM s) (hP : va_P D vwCl ws H) : PreS s H (RO D cI cJ cZ cM As ws) As := ⟨fun a U g mk q => ⟨q.1, gk_call g mk a q.2.1, q.2.2⟩, fun U hU hW => ⟨rfl, gk_warm hW hG, by rw [hU]; exact hP⟩⟩
theorem ro_V {D : va_G} {cI cJ cZ cM : Nat} {s : State} {H : Heap} {As : List Value} {ws : va_W} {C : String} {b : Nat} (hG : GK D cI cJ cZ cM s) (hP : va_P D vwCl ws H) (hr : ∃ cellB : Cell, H[b]? = some cellB ∧ cellB.vm.isStatics = false ∧ s.vm.findClass C = some cellB.cls) : PreV s H C b (RO D cI cJ cZ cM (.ref b :: As) ws) As := ⟨fun a U g mk q => ⟨q.1, gk_call g mk a q.2.1, q.2.2⟩, hr, fun U hU hW => ⟨rfl, gk_warm hW hG, by rw [hU]; exact hP⟩⟩
theorem rw_S {D : va_G} {cI cJ cZ cM : Nat} {s : State} {H : Heap} {As : List Value} {ws : va_W} {A : Nat → Prop} (hG : GK D cI cJ cZ cM s) (hP : va_P D vwCl ws H) (hD : va_D A ws) : PreS s H (RW D cI cJ cZ cM As ws H.size) As := ⟨fun a U g mk q => ⟨q.1, q.2.1, gk_call g mk a q.2.2.1, q.2.2.2⟩, fun U hU hW => ⟨rfl, by rw [hU], gk_warm hW hG, by rw [hU]; exact hP, hD.weaken (fun _ _ _ _ => trivial)⟩⟩
theorem rw_V {D : va_G} {cI cJ cZ cM : Nat} {s : State} {H : Heap} {As : List Value} {ws : va_W} {A : Nat → Prop} {C : String} {b : Nat} (hG : GK D cI cJ cZ cM s) (hP : va_P D vwCl ws H) (hD : va_D A ws) (hr : ∃ cellB : Cell, H[b]? = some cellB ∧ cellB.vm.isStatics = false ∧ s.vm.findClass C = some cellB.cls) : PreV s H C b (RW D cI cJ cZ cM (.ref b :: As) ws H.size) As := ⟨fun a U g mk q => ⟨q.1, q.2.1, gk_call g mk a q.2.2.1, q.2.2.2⟩, hr, fun U hU hW => ⟨rfl, by rw [hU], gk_warm hW hG, by rw [hU]; exact hP, hD.weaken (fun _ _ _ _ => trivial)⟩⟩
/-- the world behind a writing method -/
abbrev BB {S : Type} (D : va_G) (f : S → va_W) (A : Nat → Prop) : S → State → Prop := fun u t => va_P D vwCl (f u) t.heap ∧ va_D A (f u)
section MYNEW
variable {p : Program} {l : Launch} {e : Env} {R : Room} {s : State} {m : MethodId} {args : Array Value} {below : List Frame} {meth : Method} {c : Code} {H H0 : Heap} {locs : List Loc} {cells slots : Nat} {Q : State → Prop} {cc : ByteArray} {pc : Nat} {ls : Array Slot} {rest : List Value} {D : va_G} {cI cJ cZ cM : Nat} {ws : va_W} {A : Nat → Prop}
theorem my_newi (hexec : p.tables.exec = Jvm.exec) (hb : c.code = cc) (harr : (Cond.arrayClass .int).before args s = true) (hK : va_K D vwCl (TY cI cJ cZ cM) s) (hP : va_P D vwCl ws H) (hD : va_D A ws) (hS : va_S A H0 H locs) (hA : ∀ q, H0.size ≤ q → A q)
    {n : Int32} {N' : Nat} (hn : ¬ n < 0) (hN : n.toNatClampNeg = N') (hbytes : N' * componentBytes .int ≤ 536870912) (hcells : cells + 1 ≤ R.cells) (hslots : slots + N' ≤ R.slots) (hdg : decode cc pc = .ok (.newarray .int, 2))
    (kk : ∀ (q : Nat) (H1 : Heap), va_P D vwCl (ws ++ [(q, .inl (cI, N', .inl (fun _ => 0)))]) H1 → va_D A (ws ++ [(q, .inl (cI, N', .inl (fun _ => 0)))]) → va_S A H0 H1 locs →
      W p l e R s m args below meth c H1 locs (cells + 1) (slots + N') Q (F0 m (pc + 2) ls (.ref q :: rest))) : W p l e R s m args below meth c H locs cells slots Q (F0 m pc ls (.int n :: rest)) := by
  refine va_newa (atype := .int) (ty := .int) (a0 := (N', .inl (fun _ => 0))) hexec hb harr rfl hK hP hD hS hA (fun cA => rfl) hn hN hbytes hcells hslots hdg (fun q cA H1 k1 p1 d1 s1 => ?_)
  have e1 := va_nm_int ((k1.2 4 (cA, .int) rfl).2)
  have e2 := va_nm_int ((k1.2 0 (cI, .int) rfl).2)
  have e3 : cA = cI := Option.some.inj (e1.symm.trans e2)
  subst e3
  exact kk q H1 p1 d1 s1
theorem my_newz (hexec : p.tables.exec = Jvm.exec) (hb : c.code = cc) (harr : (Cond.arrayClass .boolean).before args s = true) (hK : va_K D vwCl (TY cI cJ cZ cM) s) (hP : va_P D vwCl ws H) (hD : va_D A ws) (hS : va_S A H0 H locs) (hA : ∀ q, H0.size ≤ q → A q)
    {n : Int32} {N' : Nat} (hn : ¬ n < 0) (hN : n.toNatClampNeg = N') (hbytes : N' * componentBytes .boolean ≤ 536870912) (hcells : cells + 1 ≤ R.cells) (hslots : slots + N' ≤ R.slots) (hdg : decode cc pc = .ok (.newarray .boolean, 2))
    (kk : ∀ (q : Nat) (H1 : Heap), va_P D vwCl (ws ++ [(q, .inl (cZ, N', .inl (fun _ => 0)))]) H1 → va_D A (ws ++ [(q, .inl (cZ, N', .inl (fun _ => 0)))]) → va_S A H0 H1 locs →
      W p l e R s m args below meth c H1 locs (cells + 1) (slots + N') Q (F0 m (pc + 2) ls (.ref q :: rest))) : W p l e R s m args below meth c H locs cells slots Q (F0 m pc ls (.int n :: rest)) := by
  refine va_newa (atype := .boolean) (ty := .boolean) (a0 := (N', .inl (fun _ => 0))) hexec hb harr rfl hK hP hD hS hA (fun cA => rfl) hn hN hbytes hcells hslots hdg (fun q cA H1 k1 p1 d1 s1 => ?_)
  have e1 := va_nm_boolean ((k1.2 4 (cA, .boolean) rfl).2)
  have e2 := va_nm_boolean ((k1.2 2 (cZ, .boolean) rfl).2)
  have e3 : cA = cZ := Option.some.inj (e1.symm.trans e2)
  subst e3
  exact kk q H1 p1 d1 s1
theorem my_newl (hexec : p.tables.exec = Jvm.exec) (hb : c.code = cc) (harr : (Cond.arrayClass .long).before args s = true) (hK : va_K D vwCl (TY cI cJ cZ cM) s) (hP : va_P D vwCl ws H) (hD : va_D A ws) (hS : va_S A H0 H locs) (hA : ∀ q, H0.size ≤ q → A q)
    {n : Int32} {N' : Nat} (hn : ¬ n < 0) (hN : n.toNatClampNeg = N') (hbytes : N' * componentBytes .long ≤ 536870912) (hcells : cells + 1 ≤ R.cells) (hslots : slots + N' ≤ R.slots) (hdg : decode cc pc = .ok (.newarray .long, 2))
    (kk : ∀ (q : Nat) (H1 : Heap), va_P D vwCl (ws ++ [(q, .inl (cJ, N', .inr (.inl (fun _ => 0))))]) H1 → va_D A (ws ++ [(q, .inl (cJ, N', .inr (.inl (fun _ => 0))))]) → va_S A H0 H1 locs →
      W p l e R s m args below meth c H1 locs (cells + 1) (slots + N') Q (F0 m (pc + 2) ls (.ref q :: rest))) : W p l e R s m args below meth c H locs cells slots Q (F0 m pc ls (.int n :: rest)) := by
  refine va_newa (atype := .long) (ty := .long) (a0 := (N', .inr (.inl (fun _ => 0)))) hexec hb harr rfl hK hP hD hS hA (fun cA => rfl) hn hN hbytes hcells hslots hdg (fun q cA H1 k1 p1 d1 s1 => ?_)
  have e1 := va_nm_long ((k1.2 4 (cA, .long) rfl).2)
  have e2 := va_nm_long ((k1.2 1 (cJ, .long) rfl).2)
  have e3 : cA = cJ := Option.some.inj (e1.symm.trans e2)
  subst e3
  exact kk q H1 p1 d1 s1
theorem my_newq (hexec : p.tables.exec = Jvm.exec) (hb : c.code = cc) {own : String} {index : Nat} (hown : s.vm.findClass own = some m.cls) (hclink : (Cond.classLink own index RX1).before args s = true) (hover : va_AO "BuoyTender$Mark" s) (hK : va_K D vwCl (TY cI cJ cZ cM) s) (hP : va_P D vwCl ws H) (hD : va_D A ws) (hS : va_S A H0 H locs) (hA : ∀ q, H0.size ≤ q → A q)
    {n : Int32} {N' : Nat} (hn : ¬ n < 0) (hN : n.toNatClampNeg = N') (hbytes : N' * 4 ≤ 536870912) (hcells : cells + 1 ≤ R.cells) (hslots : slots + N' ≤ R.slots) (hdg : decode cc pc = .ok (.anewarray index, 3))
    (kk : ∀ (q : Nat) (H1 : Heap), va_P D vwCl (ws ++ [(q, .inl (cM, N', .inr (.inr (.inr (.inr (fun _ => none))))))]) H1 → va_D A (ws ++ [(q, .inl (cM, N', .inr (.inr (.inr (.inr (fun _ => none))))))]) → va_S A H0 H1 locs →
      W p l e R s m args below meth c H1 locs (cells + 1) (slots + N') Q (F0 m (pc + 3) ls (.ref q :: rest))) : W p l e R s m args below meth c H locs cells slots Q (F0 m pc ls (.int n :: rest)) := by
  refine va_newq (C := "BuoyTender$Mark") hexec hb hown hclink hover hK hP hD hS hA hn hN hbytes hcells hslots hdg (fun q cA H1 k1 p1 d1 s1 => ?_)
  obtain ⟨_, _, _, _, _, e1⟩ := (k1.2 4 (cA, .object "BuoyTender$Mark") rfl).2
  obtain ⟨_, _, _, _, _, e2⟩ := (k1.2 3 (cM, .object "BuoyTender$Mark") rfl).2
  have e3 : cA = cM := Option.some.inj (e1.symm.trans e2)
  subst e3
  exact kk q H1 p1 d1 s1
end MYNEW
theorem my_nlt {x : Int32} (h : ¬ x < 0) : 0 ≤ x := Int32.not_lt.mp h
theorem my_none {x : Int32} (h1 : 0 ≤ x) (h2 : x ≤ (-1)) : False := by
  have a := Int32.le_iff_toInt_le.mp h1
  have b := Int32.le_iff_toInt_le.mp h2
  have c : (-1 : Int32).toInt = -1 := by decide
  have d : (0 : Int32).toInt = 0 := by decide
  rw [c] at b; rw [d] at a; omega
theorem my_out {x : Int32} {hi : Nat} (h : ∀ z : Nat, z ≤ hi → ¬ x = Int32.ofNat z) (hs : hi < 2 ^ 31) : x.toInt < (0 : Int) ∨ (hi : Int) < x.toInt := by
  rcases Int.lt_or_le x.toInt 0 with q | q
  · exact Or.inl q
  · refine Or.inr (Int.not_le.mp (fun h2 => ?_))
    have h3 : x.toInt.toNat ≤ hi := by omega
    refine h _ h3 (Int32.toInt_inj.mp ?_)
    have h4 : (Int32.ofNat x.toInt.toNat).toInt = (x.toInt.toNat : Int) := nI_toInt (by omega)
    rw [h4]; omega
def okI (a b : Int32) (P : Prop) (r : Int32) : Prop := (r = a ∧ P) ∨ (r = b ∧ ¬ P)
def placeP (x y : Int32) : Prop := (0 ≤ x ∧ x ≤ 39) ∧ (0 ≤ y ∧ y ≤ 39)
end
section
set_option maxHeartbeats 4000000 in
set_option maxRecDepth 100000 in
/-- within bounds, or not -/
theorem k_X8_within (l : Launch) (v : Int32) (a : Int32) (b : Int32) : Met l yX8_within wsX8_within ({ frames := 0, cells := 0, slots := 0, locals := 0 } : Room) (fun av9 _ => av9 = ([.int v, .int a, .int b] : List Value).toArray) (vp_Si (fun r => okI 1 0 (a ≤ v ∧ v ≤ b) r)) 0 0 (fun _ => False) := by
  refine Met.ofW (cc := cX8_within) (maxL := 3) (ret := (some .boolean)) (by decide) rfl ?_
  intro p e s m args below meth c s₁ B hml hv
  obtain rfl := hv
  have hx := B.exec
  have hb := B.bytes
  have hr := B.returns
  have hts := atoms_spec (ws := wsX8_within) B.pre
  have hown : s.vm.findClass RX8 = some m.cls := findClass_of_methodNamed B.named
  have hlocks := B.notSynchronized
  have hl := lv_entry ([.int v, .int a, .int b]) (n := 3) (Nat.le_of_ble_eq_true rfl)
  rw [lg_entry_eq]
  generalize (lg_sl ([.int v, .int a, .int b]) ++ List.replicate (3 - (lg_sl ([.int v, .int a, .int b])).length) Slot.unset).toArray = ls at hl ⊢
  have hl : lv_has ls 3 [(0, .int v), (1, .int a), (2, .int b)] := hl
  refine lv_iload_n hx hb dX8_within_0 rfl (lv_at hl 0 rfl) ?_
  refine lv_iload_n hx hb dX8_within_1 rfl (lv_at hl 1 rfl) ?_
  refine lv_icmp_lt (tgt := 14) hx hb dX8_within_2 (by decide) (fun c_1 => ?_) (fun c_1 => ?_)
  · refine lv_iconst (v := 0) hx hb dX8_within_14 (by decide) ?_
    exact W.zret (v := 0) hx hb hr rfl (fun t ht hW => ⟨0, rfl, (Or.inr ⟨rfl, fun h9 => Int32.not_lt.mpr h9.1 c_1⟩), ht⟩) (fun _ h => by cases h) dX8_within_15
  refine lv_iload_n hx hb dX8_within_5 rfl (lv_at hl 0 rfl) ?_
  refine lv_iload_n hx hb dX8_within_6 rfl (lv_at hl 2 rfl) ?_
  refine lv_icmp_gt (tgt := 14) hx hb dX8_within_7 (by decide) (fun c_2 => ?_) (fun c_2 => ?_)
  · refine lv_iconst (v := 0) hx hb dX8_within_14 (by decide) ?_
    exact W.zret (v := 0) hx hb hr rfl (fun t ht hW => ⟨0, rfl, (Or.inr ⟨rfl, fun h9 => Int32.not_lt.mpr h9.2 c_2⟩), ht⟩) (fun _ h => by cases h) dX8_within_15
  refine lv_iconst (v := 1) hx hb dX8_within_10 (by decide) ?_
  refine lv_goto (tgt := 15) hx hb dX8_within_11 (by decide) ?_
  exact W.zret (v := 1) hx hb hr rfl (fun t ht hW => ⟨1, rfl, (Or.inl ⟨rfl, Int32.not_lt.mp c_1, Int32.not_lt.mp c_2⟩), ht⟩) (fun _ h => by cases h) dX8_within_15
set_option maxHeartbeats 4000000 in
set_option maxRecDepth 100000 in
/-- within bounds, or not -/
theorem k_X9_in (l : Launch) (v : Int32) (a : Int32) (b : Int32) : Met l yX9_in wsX9_in ({ frames := 0, cells := 0, slots := 0, locals := 0 } : Room) (fun av9 _ => av9 = ([.int v, .int a, .int b] : List Value).toArray) (vp_Si (fun r => okI 1 0 (a ≤ v ∧ v ≤ b) r)) 0 0 (fun _ => False) := by
  refine Met.ofW (cc := cX9_in) (maxL := 3) (ret := (some .boolean)) (by decide) rfl ?_
  intro p e s m args below meth c s₁ B hml hv
  obtain rfl := hv
  have hx := B.exec
  have hb := B.bytes
  have hr := B.returns
  have hts := atoms_spec (ws := wsX9_in) B.pre
  have hown : s.vm.findClass RX9 = some m.cls := findClass_of_methodNamed B.named
  have hlocks := B.notSynchronized
  have hl := lv_entry ([.int v, .int a, .int b]) (n := 3) (Nat.le_of_ble_eq_true rfl)
  rw [lg_entry_eq]
  generalize (lg_sl ([.int v, .int a, .int b]) ++ List.replicate (3 - (lg_sl ([.int v, .int a, .int b])).length) Slot.unset).toArray = ls at hl ⊢
  have hl : lv_has ls 3 [(0, .int v), (1, .int a), (2, .int b)] := hl
  refine lv_iload_n hx hb dX9_in_0 rfl (lv_at hl 0 rfl) ?_
  refine lv_iload_n hx hb dX9_in_1 rfl (lv_at hl 1 rfl) ?_
  refine lv_icmp_lt (tgt := 14) hx hb dX9_in_2 (by decide) (fun c_1 => ?_) (fun c_1 => ?_)
  · refine lv_iconst (v := 0) hx hb dX9_in_14 (by decide) ?_
    exact W.zret (v := 0) hx hb hr rfl (fun t ht hW => ⟨0, rfl, (Or.inr ⟨rfl, fun h9 => Int32.not_lt.mpr h9.1 c_1⟩), ht⟩) (fun _ h => by cases h) dX9_in_15
  refine lv_iload_n hx hb dX9_in_5 rfl (lv_at hl 0 rfl) ?_
  refine lv_iload_n hx hb dX9_in_6 rfl (lv_at hl 2 rfl) ?_
  refine lv_icmp_gt (tgt := 14) hx hb dX9_in_7 (by decide) (fun c_2 => ?_) (fun c_2 => ?_)
  · refine lv_iconst (v := 0) hx hb dX9_in_14 (by decide) ?_
    exact W.zret (v := 0) hx hb hr rfl (fun t ht hW => ⟨0, rfl, (Or.inr ⟨rfl, fun h9 => Int32.not_lt.mpr h9.2 c_2⟩), ht⟩) (fun _ h => by cases h) dX9_in_15
  refine lv_iconst (v := 1) hx hb dX9_in_10 (by decide) ?_
  refine lv_goto (tgt := 15) hx hb dX9_in_11 (by decide) ?_
  exact W.zret (v := 1) hx hb hr rfl (fun t ht hW => ⟨1, rfl, (Or.inl ⟨rfl, Int32.not_lt.mp c_1, Int32.not_lt.mp c_2⟩), ht⟩) (fun _ h => by cases h) dX9_in_15
set_option maxHeartbeats 4000000 in
set_option maxRecDepth 100000 in
/-- a place of the chart, or not -/
theorem k_X8_isPlace (l : Launch) (x : Int32) (y : Int32) : Met l yX8_isPlace wsX8_isPlace ({ frames := 1, cells := 0, slots := 0, locals := 22 } : Room) (fun av9 _ => av9 = ([.int x, .int y] : List Value).toArray) (vp_Si (fun r => okI 1 0 (placeP x y) r)) 0 0 (fun _ => False) := by
  refine Met.ofW (cc := cX8_isPlace) (maxL := 2) (ret := (some .boolean)) (by decide) rfl ?_
  intro p e s m args below meth c s₁ B hml hv
  obtain rfl := hv
  have hx := B.exec
  have hb := B.bytes
  have hr := B.returns
  have hts := atoms_spec (ws := wsX8_isPlace) B.pre
  have hown : s.vm.findClass RX8 = some m.cls := findClass_of_methodNamed B.named
  have hlocks := B.notSynchronized
  have hl := lv_entry ([.int x, .int y]) (n := 2) (Nat.le_of_ble_eq_true rfl)
  rw [lg_entry_eq]
  generalize (lg_sl ([.int x, .int y]) ++ List.replicate (2 - (lg_sl ([.int x, .int y])).length) Slot.unset).toArray = ls at hl ⊢
  have hl : lv_has ls 2 [(0, .int x), (1, .int y)] := hl
  refine lv_iload_n hx hb dX8_isPlace_0 rfl (lv_at hl 0 rfl) ?_
  refine lv_iconst (v := 0) hx hb dX8_isPlace_1 (by decide) ?_
  refine lv_bipush (v := 39) hx hb dX8_isPlace_2 (by decide) ?_
  refine vp_callSi (va_Run.run (va_runS (As := [.int x, .int 0, .int 39]) (rest := []) ⟨hx, hb, hml, hown, hts⟩ (k_X8_within l x 0 39) (va_cwS 3 hts gX8_isPlace_X8_within rfl rfl rfl (by decide +kernel) ⟨Nat.le_of_ble_eq_true rfl, Nat.le_of_ble_eq_true rfl⟩) preEq rfl rfl hl.1 rfl (lv_room (Nat.le_of_ble_eq_true rfl)) dX8_isPlace_4 ⟨Nat.le_of_ble_eq_true rfl, Nat.le_of_ble_eq_true rfl⟩)) (fun r_1 h_1 => ?_)
  rcases h_1 with ⟨rfl, h_1⟩ | ⟨rfl, h_1⟩
  · refine lv_if_eq (tgt := 24) hx hb dX8_isPlace_7 (by decide) (fun c_2 => False.elim (by revert c_2; decide)) (fun _ => ?_)
    refine lv_iload_n hx hb dX8_isPlace_10 rfl (lv_at hl 1 rfl) ?_
    refine lv_iconst (v := 0) hx hb dX8_isPlace_11 (by decide) ?_
    refine lv_bipush (v := 39) hx hb dX8_isPlace_12 (by decide) ?_
    refine vp_callSi (va_Run.run (va_runS (As := [.int y, .int 0, .int 39]) (rest := []) ⟨hx, hb, hml, hown, hts⟩ (k_X8_within l y 0 39) (va_cwS 3 hts gX8_isPlace_X8_within rfl rfl rfl (by decide +kernel) ⟨Nat.le_of_ble_eq_true rfl, Nat.le_of_ble_eq_true rfl⟩) preEq rfl rfl hl.1 rfl (lv_room (Nat.le_of_ble_eq_true rfl)) dX8_isPlace_14 ⟨Nat.le_of_ble_eq_true rfl, Nat.le_of_ble_eq_true rfl⟩)) (fun r_3 h_3 => ?_)
    rcases h_3 with ⟨rfl, h_3⟩ | ⟨rfl, h_3⟩
    · refine lv_if_eq (tgt := 24) hx hb dX8_isPlace_17 (by decide) (fun c_4 => False.elim (by revert c_4; decide)) (fun _ => ?_)
      refine lv_iconst (v := 1) hx hb dX8_isPlace_20 (by decide) ?_
      refine lv_goto (tgt := 25) hx hb dX8_isPlace_21 (by decide) ?_
      exact W.zret (v := 1) hx hb hr rfl (fun t ht hW => ⟨1, rfl, (Or.inl ⟨rfl, h_1, h_3⟩), ht⟩) (fun _ h => by cases h) dX8_isPlace_25
    refine lv_if_eq (tgt := 24) hx hb dX8_isPlace_17 (by decide) (fun _ => ?_) (fun c_5 => False.elim (by revert c_5; decide))
    refine lv_iconst (v := 0) hx hb dX8_isPlace_24 (by decide) ?_
    exact W.zret (v := 0) hx hb hr rfl (fun t ht hW => ⟨0, rfl, (Or.inr ⟨rfl, fun h9 => h_3 (h9.2)⟩), ht⟩) (fun _ h => by cases h) dX8_isPlace_25
  refine lv_if_eq (tgt := 24) hx hb dX8_isPlace_7 (by decide) (fun _ => ?_) (fun c_6 => False.elim (by revert c_6; decide))
  refine lv_iconst (v := 0) hx hb dX8_isPlace_24 (by decide) ?_
  exact W.zret (v := 0) hx hb hr rfl (fun t ht hW => ⟨0, rfl, (Or.inr ⟨rfl, fun h9 => h_1 (h9.1)⟩), ht⟩) (fun _ h => by cases h) dX8_isPlace_25
set_option maxHeartbeats 4000000 in
set_option maxRecDepth 100000 in
/-- a place of the chart, or not -/
theorem k_X9_isPlace (l : Launch) (x : Int32) (y : Int32) : Met l yX9_isPlace wsX9_isPlace ({ frames := 1, cells := 0, slots := 0, locals := 22 } : Room) (fun av9 _ => av9 = ([.int x, .int y] : List Value).toArray) (vp_Si (fun r => okI 1 0 (placeP x y) r)) 0 0 (fun _ => False) := by
  refine Met.ofW (cc := cX9_isPlace) (maxL := 2) (ret := (some .boolean)) (by decide) rfl ?_
  intro p e s m args below meth c s₁ B hml hv
  obtain rfl := hv
  have hx := B.exec
  have hb := B.bytes
  have hr := B.returns
  have hts := atoms_spec (ws := wsX9_isPlace) B.pre
  have hown : s.vm.findClass RX9 = some m.cls := findClass_of_methodNamed B.named
  have hlocks := B.notSynchronized
  have hl := lv_entry ([.int x, .int y]) (n := 2) (Nat.le_of_ble_eq_true rfl)
  rw [lg_entry_eq]
  generalize (lg_sl ([.int x, .int y]) ++ List.replicate (2 - (lg_sl ([.int x, .int y])).length) Slot.unset).toArray = ls at hl ⊢
  have hl : lv_has ls 2 [(0, .int x), (1, .int y)] := hl
  refine lv_iload_n hx hb dX9_isPlace_0 rfl (lv_at hl 0 rfl) ?_
  refine lv_iconst (v := 0) hx hb dX9_isPlace_1 (by decide) ?_
  refine lv_bipush (v := 39) hx hb dX9_isPlace_2 (by decide) ?_
  refine vp_callSi (va_Run.run (va_runS (As := [.int x, .int 0, .int 39]) (rest := []) ⟨hx, hb, hml, hown, hts⟩ (k_X9_in l x 0 39) (va_cwS 3 hts gX9_isPlace_X9_in rfl rfl rfl (by decide +kernel) ⟨Nat.le_of_ble_eq_true rfl, Nat.le_of_ble_eq_true rfl⟩) preEq rfl rfl hl.1 rfl (lv_room (Nat.le_of_ble_eq_true rfl)) dX9_isPlace_4 ⟨Nat.le_of_ble_eq_true rfl, Nat.le_of_ble_eq_true rfl⟩)) (fun r_1 h_1 => ?_)
  rcases h_1 with ⟨rfl, h_1⟩ | ⟨rfl, h_1⟩
  · refine lv_if_eq (tgt := 24) hx hb dX9_isPlace_7 (by decide) (fun c_2 => False.elim (by revert c_2; decide)) (fun _ => ?_)
    refine lv_iload_n hx hb dX9_isPlace_10 rfl (lv_at hl 1 rfl) ?_
    refine lv_iconst (v := 0) hx hb dX9_isPlace_11 (by decide) ?_
    refine lv_bipush (v := 39) hx hb dX9_isPlace_12 (by decide) ?_
    refine vp_callSi (va_Run.run (va_runS (As := [.int y, .int 0, .int 39]) (rest := []) ⟨hx, hb, hml, hown, hts⟩ (k_X9_in l y 0 39) (va_cwS 3 hts gX9_isPlace_X9_in rfl rfl rfl (by decide +kernel) ⟨Nat.le_of_ble_eq_true rfl, Nat.le_of_ble_eq_true rfl⟩) preEq rfl rfl hl.1 rfl (lv_room (Nat.le_of_ble_eq_true rfl)) dX9_isPlace_14 ⟨Nat.le_of_ble_eq_true rfl, Nat.le_of_ble_eq_true rfl⟩)) (fun r_3 h_3 => ?_)
    rcases h_3 with ⟨rfl, h_3⟩ | ⟨rfl, h_3⟩
    · refine lv_if_eq (tgt := 24) hx hb dX9_isPlace_17 (by decide) (fun c_4 => False.elim (by revert c_4; decide)) (fun _ => ?_)
      refine lv_iconst (v := 1) hx hb dX9_isPlace_20 (by decide) ?_
      refine lv_goto (tgt := 25) hx hb dX9_isPlace_21 (by decide) ?_
      exact W.zret (v := 1) hx hb hr rfl (fun t ht hW => ⟨1, rfl, (Or.inl ⟨rfl, h_1, h_3⟩), ht⟩) (fun _ h => by cases h) dX9_isPlace_25
    refine lv_if_eq (tgt := 24) hx hb dX9_isPlace_17 (by decide) (fun _ => ?_) (fun c_5 => False.elim (by revert c_5; decide))
    refine lv_iconst (v := 0) hx hb dX9_isPlace_24 (by decide) ?_
    exact W.zret (v := 0) hx hb hr rfl (fun t ht hW => ⟨0, rfl, (Or.inr ⟨rfl, fun h9 => h_3 (h9.2)⟩), ht⟩) (fun _ h => by cases h) dX9_isPlace_25
  refine lv_if_eq (tgt := 24) hx hb dX9_isPlace_7 (by decide) (fun _ => ?_) (fun c_6 => False.elim (by revert c_6; decide))
  refine lv_iconst (v := 0) hx hb dX9_isPlace_24 (by decide) ?_
  exact W.zret (v := 0) hx hb hr rfl (fun t ht hW => ⟨0, rfl, (Or.inr ⟨rfl, fun h9 => h_1 (h9.1)⟩), ht⟩) (fun _ h => by cases h) dX9_isPlace_25
end
section
set_option maxHeartbeats 4000000 in
set_option maxRecDepth 100000 in
/-- no mark: null -/
theorem k_X8_known (l : Launch) (D : va_G) (cI cJ cZ cM : Nat) (h0 : Nat) (a : Nat → Nat) (x : Int32) : Met l yX8_known wsX8_known ({ frames := 0, cells := 0, slots := 0, locals := 0 } : Room) (RO D cI cJ cZ cM [.ref h0, .int x] [(h0, .inr (8, [.ref (a 1), .ref (a 2), .ref (a 3), .ref (a 4), .ref (a 5), .ref (a 6), .ref (a 7), .null, .int 0, .int 0, .int 0, .int 0])), (a 2, .inl (cM, 10, .inr (.inr (.inr (.inr (fun _ => none))))))]) (va_Sq (fun r => r = none)) 0 0 (fun _ => False) := by
  refine Met.ofW (cc := cX8_known) (maxL := 2) (ret := (some (.object "BuoyTender$Mark"))) (by decide) rfl ?_
  intro p e s m args below meth c s₁ B hml hv
  obtain ⟨rfl, hG, hP⟩ := hv
  have hx := B.exec
  have hb := B.bytes
  have hr := B.returns
  have hts := atoms_spec (ws := wsX8_known) B.pre
  have hown : s.vm.findClass RX8 = some m.cls := findClass_of_methodNamed B.named
  have hlocks := B.notSynchronized
  have hK := hG.1
  have hN := hG.2
  have hl := lv_entry ([.ref h0, .int x]) (n := 2) (Nat.le_of_ble_eq_true rfl)
  rw [lg_entry_eq]
  generalize (lg_sl ([.ref h0, .int x]) ++ List.replicate (2 - (lg_sl ([.ref h0, .int x])).length) Slot.unset).toArray = ls at hl ⊢
  have hl : lv_has ls 2 [(0, .ref h0), (1, .int x)] := hl
  refine lv_iload_n hx hb dX8_known_0 rfl (lv_at hl 1 rfl) ?_
  refine lv_if_lt (tgt := 30) hx hb dX8_known_1 (by decide) (fun c_1 => ?_) (fun c_1 => ?_)
  · refine lv_null hx hb dX8_known_30 ?_
    exact W.aret hx hb hr (Or.inl ⟨_, rfl⟩) (Or.inl rfl) (fun t ht hW => ⟨none, rfl, rfl, ht⟩) (fun _ h => by cases h) dX8_known_31
  refine lv_iload_n hx hb dX8_known_4 rfl (lv_at hl 1 rfl) ?_
  refine lv_aload_n hx hb dX8_known_5 rfl (lv_at hl 0 rfl) ?_
  refine va_get (D := D) (ci := 8) (v := .int 0) (C := RX8) (T := TX8) (N := 12) hx hb hts (fun _ h9 => List.mem_cons_of_mem _ (List.mem_append_right _ h9)) hown hK hP 0 rfl rfl 8 (by decide) (hts (.fieldLink RX8 62 "BuoyTender" "markCount" "I") (by decide +kernel)) (fun _ h9 => h9) rfl dX8_known_6 ?_
  refine lv_icmp_ge (tgt := 30) hx hb dX8_known_9 (by decide) (fun c_2 => ?_) (fun c_2 => absurd (my_nlt c_1) c_2)
  refine lv_null hx hb dX8_known_30 ?_
  exact W.aret hx hb hr (Or.inl ⟨_, rfl⟩) (Or.inl rfl) (fun t ht hW => ⟨none, rfl, rfl, ht⟩) (fun _ h => by cases h) dX8_known_31
set_option maxHeartbeats 4000000 in
set_option maxRecDepth 100000 in
/-- no warning -/
theorem k_X7_has (l : Launch) (D : va_G) (cI cJ cZ cM : Nat) (w0 : Nat) (b1 : Nat) (b2 : Nat) (b3 : Nat) (b4 : Nat) (x : Int32) : Met l yX7_has wsX7_has ({ frames := 0, cells := 0, slots := 0, locals := 0 } : Room) (RO D cI cJ cZ cM [.ref w0, .int x] [(w0, .inr (7, [.ref b1, .ref b2, .ref b3, .ref b4, .int 0]))]) (vp_Si (fun r => r = 0)) 0 0 (fun _ => False) := by
  refine Met.ofW (cc := cX7_has) (maxL := 2) (ret := (some .boolean)) (by decide) rfl ?_
  intro p e s m args below meth c s₁ B hml hv
  obtain ⟨rfl, hG, hP⟩ := hv
  have hx := B.exec
  have hb := B.bytes
  have hr := B.returns
  have hts := atoms_spec (ws := wsX7_has) B.pre
  have hown : s.vm.findClass RX7 = some m.cls := findClass_of_methodNamed B.named
  have hlocks := B.notSynchronized
  have hK := hG.1
  have hN := hG.2
  have hl := lv_entry ([.ref w0, .int x]) (n := 2) (Nat.le_of_ble_eq_true rfl)
  rw [lg_entry_eq]
  generalize (lg_sl ([.ref w0, .int x]) ++ List.replicate (2 - (lg_sl ([.ref w0, .int x])).length) Slot.unset).toArray = ls at hl ⊢
  have hl : lv_has ls 2 [(0, .ref w0), (1, .int x)] := hl
  refine lv_iload_n hx hb dX7_has_0 rfl (lv_at hl 1 rfl) ?_
  refine lv_if_lt (tgt := 16) hx hb dX7_has_1 (by decide) (fun c_1 => ?_) (fun c_1 => ?_)
  · refine lv_iconst (v := 0) hx hb dX7_has_16 (by decide) ?_
    exact W.zret (v := 0) hx hb hr rfl (fun t ht hW => ⟨0, rfl, rfl, ht⟩) (fun _ h => by cases h) dX7_has_17
  refine lv_iload_n hx hb dX7_has_4 rfl (lv_at hl 1 rfl) ?_
  refine lv_aload_n hx hb dX7_has_5 rfl (lv_at hl 0 rfl) ?_
  refine va_get (D := D) (ci := 7) (v := .int 0) (C := RX7) (T := TX7) (N := 5) hx hb hts (fun _ h9 => List.mem_cons_of_mem _ (List.mem_append_right _ h9)) hown hK hP 0 rfl rfl 4 (by decide) (hts (.fieldLink RX7 24 "BuoyTender$Warnings" "count" "I") (by decide +kernel)) (fun _ h9 => h9) rfl dX7_has_6 ?_
  refine lv_icmp_ge (tgt := 16) hx hb dX7_has_9 (by decide) (fun c_2 => ?_) (fun c_2 => absurd (my_nlt c_1) c_2)
  refine lv_iconst (v := 0) hx hb dX7_has_16 (by decide) ?_
  exact W.zret (v := 0) hx hb hr rfl (fun t ht hW => ⟨0, rfl, rfl, ht⟩) (fun _ h => by cases h) dX7_has_17
set_option maxHeartbeats 4000000 in
set_option maxRecDepth 100000 in
/-- nothing to end -/
theorem k_X7_end (l : Launch) (D : va_G) (cI cJ cZ cM : Nat) (w0 : Nat) (b1 : Nat) (b2 : Nat) (b3 : Nat) (b4 : Nat) (x : Int32) (y : Int32) : Met l yX7_end wsX7_end ({ frames := 1, cells := 0, slots := 0, locals := 21 } : Room) (RO D cI cJ cZ cM [.ref w0, .int x, .int y] [(w0, .inr (7, [.ref b1, .ref b2, .ref b3, .ref b4, .int 0]))]) (vp_Si (fun r => r = 0)) 0 0 (fun _ => False) := by
  refine Met.ofW (cc := cX7_end) (maxL := 3) (ret := (some .boolean)) (by decide) rfl ?_
  intro p e s m args below meth c s₁ B hml hv
  obtain ⟨rfl, hG, hP⟩ := hv
  have hx := B.exec
  have hb := B.bytes
  have hr := B.returns
  have hts := atoms_spec (ws := wsX7_end) B.pre
  have hown : s.vm.findClass RX7 = some m.cls := findClass_of_methodNamed B.named
  have hlocks := B.notSynchronized
  have hK := hG.1
  have hN := hG.2
  have hl := lv_entry ([.ref w0, .int x, .int y]) (n := 3) (Nat.le_of_ble_eq_true rfl)
  rw [lg_entry_eq]
  generalize (lg_sl ([.ref w0, .int x, .int y]) ++ List.replicate (3 - (lg_sl ([.ref w0, .int x, .int y])).length) Slot.unset).toArray = ls at hl ⊢
  have hl : lv_has ls 3 [(0, .ref w0), (1, .int x), (2, .int y)] := hl
  refine lv_aload_n hx hb dX7_end_0 rfl (lv_at hl 0 rfl) ?_
  refine lv_iload_n hx hb dX7_end_1 rfl (lv_at hl 1 rfl) ?_
  have hPc := hP.sub (ws' := [(w0, .inr (7, [.ref b1, .ref b2, .ref b3, .ref b4, .int 0]))]) [0] rfl
  refine vp_callSi (va_Run.run (va_runV (As := [.int x]) (rest := []) ⟨hx, hb, hml, hown, hts⟩ (k_X7_has l D cI cJ cZ cM w0 b1 b2 b3 b4 x) (cwV 1 hts gX7_end_X7_has rfl rfl rfl (by decide +kernel) ⟨Nat.le_of_ble_eq_true rfl, Nat.le_of_ble_eq_true rfl⟩) (ro_V hG hPc (va_recv hK hPc (ci := 7) (q0 := 0) rfl rfl)) rfl rfl hl.1 rfl (lv_room (Nat.le_of_ble_eq_true rfl)) dX7_end_2 ⟨Nat.le_of_ble_eq_true rfl, Nat.le_of_ble_eq_true rfl⟩)) (fun r_1 h_1 => ?_)
  obtain rfl : r_1 = 0 := h_1
  refine lv_if_eq (tgt := 18) hx hb dX7_end_5 (by decide) (fun _ => ?_) (fun c_2 => False.elim (by revert c_2; decide))
  refine lv_iconst (v := 0) hx hb dX7_end_18 (by decide) ?_
  exact W.zret (v := 0) hx hb hr rfl (fun t ht hW => ⟨0, rfl, rfl, ht⟩) (fun _ h => by cases h) dX7_end_19
set_option maxHeartbeats 4000000 in
set_option maxRecDepth 100000 in
/-- none is out -/
theorem k_X7_countOn (l : Launch) (D : va_G) (cI cJ cZ cM : Nat) (w0 : Nat) (b1 : Nat) (b2 : Nat) (b3 : Nat) (b4 : Nat) (x : Int32) : Met l yX7_countOn wsX7_countOn ({ frames := 0, cells := 0, slots := 0, locals := 0 } : Room) (RO D cI cJ cZ cM [.ref w0, .int x] [(w0, .inr (7, [.ref b1, .ref b2, .ref b3, .ref b4, .int 0]))]) (vp_Si (fun r => r = 0)) 0 0 (fun _ => False) := by
  refine Met.ofW (cc := cX7_countOn) (maxL := 4) (ret := (some .int)) (by decide) rfl ?_
  intro p e s m args below meth c s₁ B hml hv
  obtain ⟨rfl, hG, hP⟩ := hv
  have hx := B.exec
  have hb := B.bytes
  have hr := B.returns
  have hts := atoms_spec (ws := wsX7_countOn) B.pre
  have hown : s.vm.findClass RX7 = some m.cls := findClass_of_methodNamed B.named
  have hlocks := B.notSynchronized
  have hK := hG.1
  have hN := hG.2
  have hl := lv_entry ([.ref w0, .int x]) (n := 4) (Nat.le_of_ble_eq_true rfl)
  rw [lg_entry_eq]
  generalize (lg_sl ([.ref w0, .int x]) ++ List.replicate (4 - (lg_sl ([.ref w0, .int x])).length) Slot.unset).toArray = ls at hl ⊢
  have hl : lv_has ls 4 [(0, .ref w0), (1, .int x)] := hl
  refine lv_iconst (v := 0) hx hb dX7_countOn_0 (by decide) ?_
  refine lv_istore_n (lv' := [(2, .int 0), (0, .ref w0), (1, .int x)]) hx hb dX7_countOn_1 rfl hl (by decide) rfl (fun ls hl => ?_)
  refine lv_iconst (v := 0) hx hb dX7_countOn_2 (by decide) ?_
  refine lv_istore_n (lv' := [(3, .int 0), (2, .int 0), (0, .ref w0), (1, .int x)]) hx hb dX7_countOn_3 rfl hl (by decide) rfl (fun ls hl => ?_)
  refine lv_iload_n hx hb dX7_countOn_4 rfl (lv_at hl 0 rfl) ?_
  refine lv_aload_n hx hb dX7_countOn_5 rfl (lv_at hl 2 rfl) ?_
  refine va_get (D := D) (ci := 7) (v := .int 0) (C := RX7) (T := TX7) (N := 5) hx hb hts (fun _ h9 => List.mem_cons_of_mem _ (List.mem_append_right _ h9)) hown hK hP 0 rfl rfl 4 (by decide) (hts (.fieldLink RX7 24 "BuoyTender$Warnings" "count" "I") (by decide +kernel)) (fun _ h9 => h9) rfl dX7_countOn_6 ?_
  refine lv_icmp_ge (tgt := 30) hx hb dX7_countOn_9 (by decide) (fun _ => ?_) (fun c_1 => False.elim (by revert c_1; decide))
  refine lv_iload_n hx hb dX7_countOn_30 rfl (lv_at hl 1 rfl) ?_
  exact W.iret (v := 0) hx hb hr (fun t ht hW => ⟨0, rfl, rfl, ht⟩) (fun _ h => by cases h) dX7_countOn_31
set_option maxHeartbeats 4000000 in
set_option maxRecDepth 100000 in
/-- none is out -/
theorem k_X7_numberOn (l : Launch) (D : va_G) (cI cJ cZ cM : Nat) (w0 : Nat) (b1 : Nat) (b2 : Nat) (b3 : Nat) (b4 : Nat) (x : Int32) (y : Int32) : Met l yX7_numberOn wsX7_numberOn ({ frames := 0, cells := 0, slots := 0, locals := 0 } : Room) (RO D cI cJ cZ cM [.ref w0, .int x, .int y] [(w0, .inr (7, [.ref b1, .ref b2, .ref b3, .ref b4, .int 0]))]) (vp_Si (fun r => r = -1)) 0 0 (fun _ => False) := by
  refine Met.ofW (cc := cX7_numberOn) (maxL := 5) (ret := (some .int)) (by decide) rfl ?_
  intro p e s m args below meth c s₁ B hml hv
  obtain ⟨rfl, hG, hP⟩ := hv
  have hx := B.exec
  have hb := B.bytes
  have hr := B.returns
  have hts := atoms_spec (ws := wsX7_numberOn) B.pre
  have hown : s.vm.findClass RX7 = some m.cls := findClass_of_methodNamed B.named
  have hlocks := B.notSynchronized
  have hK := hG.1
  have hN := hG.2
  have hl := lv_entry ([.ref w0, .int x, .int y]) (n := 5) (Nat.le_of_ble_eq_true rfl)
  rw [lg_entry_eq]
  generalize (lg_sl ([.ref w0, .int x, .int y]) ++ List.replicate (5 - (lg_sl ([.ref w0, .int x, .int y])).length) Slot.unset).toArray = ls at hl ⊢
  have hl : lv_has ls 5 [(0, .ref w0), (1, .int x), (2, .int y)] := hl
  refine lv_iconst (v := 0) hx hb dX7_numberOn_0 (by decide) ?_
  refine lv_istore_n (lv' := [(3, .int 0), (0, .ref w0), (1, .int x), (2, .int y)]) hx hb dX7_numberOn_1 rfl hl (by decide) rfl (fun ls hl => ?_)
  refine lv_iconst (v := 0) hx hb dX7_numberOn_2 (by decide) ?_
  refine lv_istore (lv' := [(4, .int 0), (3, .int 0), (0, .ref w0), (1, .int x), (2, .int y)]) hx hb dX7_numberOn_3 hl (by decide) rfl (fun ls hl => ?_)
  refine lv_iload hx hb dX7_numberOn_5 (lv_at hl 0 rfl) ?_
  refine lv_aload_n hx hb dX7_numberOn_7 rfl (lv_at hl 2 rfl) ?_
  refine va_get (D := D) (ci := 7) (v := .int 0) (C := RX7) (T := TX7) (N := 5) hx hb hts (fun _ h9 => List.mem_cons_of_mem _ (List.mem_append_right _ h9)) hown hK hP 0 rfl rfl 4 (by decide) (hts (.fieldLink RX7 24 "BuoyTender$Warnings" "count" "I") (by decide +kernel)) (fun _ h9 => h9) rfl dX7_numberOn_8 ?_
  refine lv_icmp_ge (tgt := 41) hx hb dX7_numberOn_11 (by decide) (fun _ => ?_) (fun c_1 => False.elim (by revert c_1; decide))
  refine lv_iconst (v := (-1)) hx hb dX7_numberOn_41 (by decide) ?_
  exact W.iret (v := (-1)) hx hb hr (fun t ht hW => ⟨(-1), rfl, rfl, ht⟩) (fun _ h => by cases h) dX7_numberOn_42
set_option maxHeartbeats 4000000 in
set_option maxRecDepth 100000 in
/-- no mark: no clash -/
theorem k_X8_clashesWithin (l : Launch) (D : va_G) (cI cJ cZ cM : Nat) (h0 : Nat) (a : Nat → Nat) (x : Int32) : Met l yX8_clashesWithin wsX8_clashesWithin ({ frames := 0, cells := 0, slots := 0, locals := 0 } : Room) (RO D cI cJ cZ cM [.ref h0, .int x] [(h0, .inr (8, [.ref (a 1), .ref (a 2), .ref (a 3), .ref (a 4), .ref (a 5), .ref (a 6), .ref (a 7), .null, .int 0, .int 0, .int 0, .int 0]))]) (vp_Si (fun r => r = 0)) 0 0 (fun _ => False) := by
  refine Met.ofW (cc := cX8_clashesWithin) (maxL := 6) (ret := (some .boolean)) (by decide) rfl ?_
  intro p e s m args below meth c s₁ B hml hv
  obtain ⟨rfl, hG, hP⟩ := hv
  have hx := B.exec
  have hb := B.bytes
  have hr := B.returns
  have hts := atoms_spec (ws := wsX8_clashesWithin) B.pre
  have hown : s.vm.findClass RX8 = some m.cls := findClass_of_methodNamed B.named
  have hlocks := B.notSynchronized
  have hK := hG.1
  have hN := hG.2
  have hl := lv_entry ([.ref h0, .int x]) (n := 6) (Nat.le_of_ble_eq_true rfl)
  rw [lg_entry_eq]
  generalize (lg_sl ([.ref h0, .int x]) ++ List.replicate (6 - (lg_sl ([.ref h0, .int x])).length) Slot.unset).toArray = ls at hl ⊢
  have hl : lv_has ls 6 [(0, .ref h0), (1, .int x)] := hl
  refine lv_iconst (v := 0) hx hb dX8_clashesWithin_0 (by decide) ?_
  refine lv_istore_n (lv' := [(2, .int 0), (0, .ref h0), (1, .int x)]) hx hb dX8_clashesWithin_1 rfl hl (by decide) rfl (fun ls hl => ?_)
  refine lv_iload_n hx hb dX8_clashesWithin_2 rfl (lv_at hl 0 rfl) ?_
  refine lv_aload_n hx hb dX8_clashesWithin_3 rfl (lv_at hl 1 rfl) ?_
  refine va_get (D := D) (ci := 8) (v := .int 0) (C := RX8) (T := TX8) (N := 12) hx hb hts (fun _ h9 => List.mem_cons_of_mem _ (List.mem_append_left _ (List.mem_append_left _ (List.mem_append_right _ h9)))) hown hK hP 0 rfl rfl 8 (by decide) (hts (.fieldLink RX8 62 "BuoyTender" "markCount" "I") (by decide +kernel)) (fun _ h9 => h9) rfl dX8_clashesWithin_4 ?_
  refine lv_icmp_ge (tgt := 87) hx hb dX8_clashesWithin_7 (by decide) (fun _ => ?_) (fun c_1 => False.elim (by revert c_1; decide))
  refine lv_iconst (v := 0) hx hb dX8_clashesWithin_87 (by decide) ?_
  exact W.zret (v := 0) hx hb hr rfl (fun t ht hW => ⟨0, rfl, rfl, ht⟩) (fun _ h => by cases h) dX8_clashesWithin_88
set_option maxHeartbeats 4000000 in
set_option maxRecDepth 100000 in
/-- no mark: no job -/
theorem k_X8_jobCount (l : Launch) (D : va_G) (cI cJ cZ cM : Nat) (h0 : Nat) (a : Nat → Nat) : Met l yX8_jobCount wsX8_jobCount ({ frames := 0, cells := 0, slots := 0, locals := 0 } : Room) (RO D cI cJ cZ cM [.ref h0] [(h0, .inr (8, [.ref (a 1), .ref (a 2), .ref (a 3), .ref (a 4), .ref (a 5), .ref (a 6), .ref (a 7), .null, .int 0, .int 0, .int 0, .int 0]))]) (vp_Si (fun r => r = 0)) 0 0 (fun _ => False) := by
  refine Met.ofW (cc := cX8_jobCount) (maxL := 4) (ret := (some .int)) (by decide) rfl ?_
  intro p e s m args below meth c s₁ B hml hv
  obtain ⟨rfl, hG, hP⟩ := hv
  have hx := B.exec
  have hb := B.bytes
  have hr := B.returns
  have hts := atoms_spec (ws := wsX8_jobCount) B.pre
  have hown : s.vm.findClass RX8 = some m.cls := findClass_of_methodNamed B.named
  have hlocks := B.notSynchronized
  have hK := hG.1
  have hN := hG.2
  have hl := lv_entry ([.ref h0]) (n := 4) (Nat.le_of_ble_eq_true rfl)
  rw [lg_entry_eq]
  generalize (lg_sl ([.ref h0]) ++ List.replicate (4 - (lg_sl ([.ref h0])).length) Slot.unset).toArray = ls at hl ⊢
  have hl : lv_has ls 4 [(0, .ref h0)] := hl
  refine lv_iconst (v := 0) hx hb dX8_jobCount_0 (by decide) ?_
  refine lv_istore_n (lv' := [(1, .int 0), (0, .ref h0)]) hx hb dX8_jobCount_1 rfl hl (by decide) rfl (fun ls hl => ?_)
  refine lv_iconst (v := 0) hx hb dX8_jobCount_2 (by decide) ?_
  refine lv_istore_n (lv' := [(2, .int 0), (1, .int 0), (0, .ref h0)]) hx hb dX8_jobCount_3 rfl hl (by decide) rfl (fun ls hl => ?_)
  refine lv_iload_n hx hb dX8_jobCount_4 rfl (lv_at hl 0 rfl) ?_
  refine lv_aload_n hx hb dX8_jobCount_5 rfl (lv_at hl 2 rfl) ?_
  refine va_get (D := D) (ci := 8) (v := .int 0) (C := RX8) (T := TX8) (N := 12) hx hb hts (fun _ h9 => List.mem_cons_of_mem _ (List.mem_append_left _ (List.mem_append_right _ h9))) hown hK hP 0 rfl rfl 8 (by decide) (hts (.fieldLink RX8 62 "BuoyTender" "markCount" "I") (by decide +kernel)) (fun _ h9 => h9) rfl dX8_jobCount_6 ?_
  refine lv_icmp_ge (tgt := 38) hx hb dX8_jobCount_9 (by decide) (fun _ => ?_) (fun c_1 => False.elim (by revert c_1; decide))
  refine lv_iload_n hx hb dX8_jobCount_38 rfl (lv_at hl 1 rfl) ?_
  exact W.iret (v := 0) hx hb hr (fun t ht hW => ⟨0, rfl, rfl, ht⟩) (fun _ h => by cases h) dX8_jobCount_39
end
section
set_option maxHeartbeats 4000000 in
set_option maxRecDepth 100000 in
/-- Chain() -/
theorem k_X0_init (l : Launch) (D : va_G) (cI cJ cZ cM : Nat) (h0 : Nat) (sz : Nat) : Met l yX0_init wsX0_init ({ frames := 1, cells := 0, slots := 0, locals := 14 } : Room) (RW D cI cJ cZ cM [.ref h0] [(h0, .inr (0, [.int 0, .int 0, .int 0, .int 0, .int 0]))] sz) (va_Qv (S := Unit) (fun u => True) (BB D (fun _ => [(h0, .inr (0, [.int 0, .int 0, .int 0, .int 0, .int 0]))]) (va_A [(h0, .inr (0, [.int 0, .int 0, .int 0, .int 0, .int 0]))] sz)) (va_A [(h0, .inr (0, [.int 0, .int 0, .int 0, .int 0, .int 0]))] sz)) 0 0 (va_A [(h0, .inr (0, [.int 0, .int 0, .int 0, .int 0, .int 0]))] sz) := by
  refine Met.ofW (cc := cX0_init) (maxL := 1) (ret := none) (by decide) rfl ?_
  intro p e s m args below meth c s₁ B hml hv
  obtain ⟨rfl, hsz, hG, hP, hD0⟩ := hv
  have hx := B.exec
  have hb := B.bytes
  have hr := B.returns
  have hts := atoms_spec (ws := wsX0_init) B.pre
  have hown : s.vm.findClass RX0 = some m.cls := findClass_of_methodNamed B.named
  have hlocks := B.notSynchronized
  have hin : meth.name = "<init>" := (name_of_methodNamed B.named B.method).1
  have hK := hG.1
  have hN := hG.2
  subst hsz
  have hD := hD0.self (sz := s.heap.size)
  generalize hAe : va_A [(h0, .inr (0, [.int 0, .int 0, .int 0, .int 0, .int 0]))] s.heap.size = A at hD ⊢
  have hA : ∀ q : Nat, s.heap.size ≤ q → A q := fun q h => by rw [← hAe]; exact Or.inr h
  have hS : va_S A s.heap s.heap [] := va_S.rf
  have hP : va_P D vwCl [(h0, .inr (0, [.int 0, .int 0, .int 0, .int 0, .int 0]))] s.heap := hP
  have hl := lv_entry ([.ref h0]) (n := 1) (Nat.le_of_ble_eq_true rfl)
  rw [lg_entry_eq]
  generalize (lg_sl ([.ref h0]) ++ List.replicate (1 - (lg_sl ([.ref h0])).length) Slot.unset).toArray = ls at hl ⊢
  have hl : lv_has ls 1 [(0, .ref h0)] := hl
  refine lv_aload_n hx hb dX0_init_0 rfl (lv_at hl 0 rfl) ?_
  refine W.objInit hx hb hown (hts (.methodLink RX0 3 objectInit) (by decide +kernel)) (hts (.instanceMethod objectInit) (by decide +kernel)) (hts (.code objectInit ⟨#[0xb1]⟩ 1 none) (by decide +kernel)) rfl (by rw [hml]; exact hl.1) rfl dX0_init_1 (Nat.le_of_ble_eq_true rfl) (Nat.le_of_ble_eq_true rfl) ?_
  refine W.eq (g2 := F0 m 4 ls []) rfl ?_
  have hP9 := hP.sub (ws' := [(h0, .inr (0, [.int 0, .int 0, .int 0, .int 0, .int 0]))]) [0] rfl
  have hD9 := hD.sub (ws' := [(h0, .inr (0, [.int 0, .int 0, .int 0, .int 0, .int 0]))]) [0] (by decide) rfl
  exact W.vret hx hb hr (fun t ht hW => ⟨⟨(), rfl, trivial, ⟨by rw [ht]; exact hP9, hD9⟩⟩, hS.F ht⟩) hS.2.2 dX0_init_4
set_option maxHeartbeats 4000000 in
set_option maxRecDepth 100000 in
/-- Survey() -/
theorem k_X6_init (l : Launch) (D : va_G) (cI cJ cZ cM : Nat) (h0 : Nat) (sz : Nat) : Met l yX6_init wsX6_init ({ frames := 1, cells := 0, slots := 0, locals := 14 } : Room) (RW D cI cJ cZ cM [.ref h0] [(h0, .inr (6, [.int 0, .int 0, .int 0, .int 0, .int 0, .int 0]))] sz) (va_Qv (S := Unit) (fun u => True) (BB D (fun _ => [(h0, .inr (6, [.int 0, .int 0, .int 0, .int 0, .int 0, .int 0]))]) (va_A [(h0, .inr (6, [.int 0, .int 0, .int 0, .int 0, .int 0, .int 0]))] sz)) (va_A [(h0, .inr (6, [.int 0, .int 0, .int 0, .int 0, .int 0, .int 0]))] sz)) 0 0 (va_A [(h0, .inr (6, [.int 0, .int 0, .int 0, .int 0, .int 0, .int 0]))] sz) := by
  refine Met.ofW (cc := cX6_init) (maxL := 1) (ret := none) (by decide) rfl ?_
  intro p e s m args below meth c s₁ B hml hv
  obtain ⟨rfl, hsz, hG, hP, hD0⟩ := hv
  have hx := B.exec
  have hb := B.bytes
  have hr := B.returns
  have hts := atoms_spec (ws := wsX6_init) B.pre
  have hown : s.vm.findClass RX6 = some m.cls := findClass_of_methodNamed B.named
  have hlocks := B.notSynchronized
  have hin : meth.name = "<init>" := (name_of_methodNamed B.named B.method).1
  have hK := hG.1
  have hN := hG.2
  subst hsz
  have hD := hD0.self (sz := s.heap.size)
  generalize hAe : va_A [(h0, .inr (6, [.int 0, .int 0, .int 0, .int 0, .int 0, .int 0]))] s.heap.size = A at hD ⊢
  have hA : ∀ q : Nat, s.heap.size ≤ q → A q := fun q h => by rw [← hAe]; exact Or.inr h
  have hS : va_S A s.heap s.heap [] := va_S.rf
  have hP : va_P D vwCl [(h0, .inr (6, [.int 0, .int 0, .int 0, .int 0, .int 0, .int 0]))] s.heap := hP
  have hl := lv_entry ([.ref h0]) (n := 1) (Nat.le_of_ble_eq_true rfl)
  rw [lg_entry_eq]
  generalize (lg_sl ([.ref h0]) ++ List.replicate (1 - (lg_sl ([.ref h0])).length) Slot.unset).toArray = ls at hl ⊢
  have hl : lv_has ls 1 [(0, .ref h0)] := hl
  refine lv_aload_n hx hb dX6_init_0 rfl (lv_at hl 0 rfl) ?_
  refine W.objInit hx hb hown (hts (.methodLink RX6 3 objectInit) (by decide +kernel)) (hts (.instanceMethod objectInit) (by decide +kernel)) (hts (.code objectInit ⟨#[0xb1]⟩ 1 none) (by decide +kernel)) rfl (by rw [hml]; exact hl.1) rfl dX6_init_1 (Nat.le_of_ble_eq_true rfl) (Nat.le_of_ble_eq_true rfl) ?_
  refine W.eq (g2 := F0 m 4 ls []) rfl ?_
  have hP9 := hP.sub (ws' := [(h0, .inr (6, [.int 0, .int 0, .int 0, .int 0, .int 0, .int 0]))]) [0] rfl
  have hD9 := hD.sub (ws' := [(h0, .inr (6, [.int 0, .int 0, .int 0, .int 0, .int 0, .int 0]))]) [0] (by decide) rfl
  exact W.vret hx hb hr (fun t ht hW => ⟨⟨(), rfl, trivial, ⟨by rw [ht]; exact hP9, hD9⟩⟩, hS.F ht⟩) hS.2.2 dX6_init_4
set_option maxHeartbeats 4000000 in
set_option maxRecDepth 100000 in
/-- Warnings() -/
theorem k_X7_init (l : Launch) (D : va_G) (cI cJ cZ cM : Nat) (h0 : Nat) (sz : Nat) : Met l yX7_init wsX7_init ({ frames := 1, cells := 4, slots := 400, locals := 14 } : Room) (RW D cI cJ cZ cM [.ref h0] [(h0, .inr (7, [.null, .null, .null, .null, .int 0]))] sz) (va_Qv (S := Nat × Nat × Nat × Nat) (fun u => True) (BB D (fun u => [(h0, .inr (7, [.ref u.1, .ref u.2.1, .ref u.2.2.1, .ref u.2.2.2, .int 0])), (u.1, .inl (cI, 100, .inl (fun _ => 0))), (u.2.1, .inl (cI, 100, .inl (fun _ => 0))), (u.2.2.1, .inl (cI, 100, .inl (fun _ => 0))), (u.2.2.2, .inl (cI, 100, .inl (fun _ => 0)))]) (va_A [(h0, .inr (7, [.null, .null, .null, .null, .int 0]))] sz)) (va_A [(h0, .inr (7, [.null, .null, .null, .null, .int 0]))] sz)) 4 400 (va_A [(h0, .inr (7, [.null, .null, .null, .null, .int 0]))] sz) := by
  refine Met.ofW (cc := cX7_init) (maxL := 1) (ret := none) (by decide) rfl ?_
  intro p e s m args below meth c s₁ B hml hv
  obtain ⟨rfl, hsz, hG, hP, hD0⟩ := hv
  have hx := B.exec
  have hb := B.bytes
  have hr := B.returns
  have hts := atoms_spec (ws := wsX7_init) B.pre
  have hown : s.vm.findClass RX7 = some m.cls := findClass_of_methodNamed B.named
  have hlocks := B.notSynchronized
  have hin : meth.name = "<init>" := (name_of_methodNamed B.named B.method).1
  have hK := hG.1
  have hN := hG.2
  subst hsz
  have hD := hD0.self (sz := s.heap.size)
  generalize hAe : va_A [(h0, .inr (7, [.null, .null, .null, .null, .int 0]))] s.heap.size = A at hD ⊢
  have hA : ∀ q : Nat, s.heap.size ≤ q → A q := fun q h => by rw [← hAe]; exact Or.inr h
  have hS : va_S A s.heap s.heap [] := va_S.rf
  have hP : va_P D vwCl [(h0, .inr (7, [.null, .null, .null, .null, .int 0]))] s.heap := hP
  have hl := lv_entry ([.ref h0]) (n := 1) (Nat.le_of_ble_eq_true rfl)
  rw [lg_entry_eq]
  generalize (lg_sl ([.ref h0]) ++ List.replicate (1 - (lg_sl ([.ref h0])).length) Slot.unset).toArray = ls at hl ⊢
  have hl : lv_has ls 1 [(0, .ref h0)] := hl
  refine lv_aload_n hx hb dX7_init_0 rfl (lv_at hl 0 rfl) ?_
  refine W.objInit hx hb hown (hts (.methodLink RX7 3 objectInit) (by decide +kernel)) (hts (.instanceMethod objectInit) (by decide +kernel)) (hts (.code objectInit ⟨#[0xb1]⟩ 1 none) (by decide +kernel)) rfl (by rw [hml]; exact hl.1) rfl dX7_init_1 (Nat.le_of_ble_eq_true rfl) (Nat.le_of_ble_eq_true rfl) ?_
  refine W.eq (g2 := F0 m 4 ls []) rfl ?_
  refine lv_aload_n hx hb dX7_init_4 rfl (lv_at hl 0 rfl) ?_
  refine lv_bipush (v := 100) hx hb dX7_init_5 (by decide) ?_
  refine my_newi hx hb (hts (.arrayClass .int) (by decide +kernel)) hK hP hD hS hA (N' := 100) (by decide) (by decide) (by decide) (Nat.le_of_ble_eq_true rfl) (Nat.le_of_ble_eq_true rfl) dX7_init_7 (fun q1 H hP hD hS => ?_)
  have hP : va_P D vwCl [(h0, .inr (7, [.null, .null, .null, .null, .int 0])), (q1, .inl (cI, 100, .inl (fun _ => 0)))] H := hP
  have hD : va_D A [(h0, .inr (7, [.null, .null, .null, .null, .int 0])), (q1, .inl (cI, 100, .inl (fun _ => 0)))] := hD
  refine W.widen (k := 1) (n := 100) (by decide) (by decide) ?_
  refine va_putF (D := D) (ci := 7) (v := .ref q1) (ty := (tyX7 0)) (C := RX7) (T := TX7) (N := 5) hx hb hts (fun _ h9 => List.mem_cons_of_mem _ (List.mem_append_right _ h9)) tyX7 tyX7_ok nmX7 hown hK hP hD hS 0 rfl rfl 0 (by decide) (hts (.fieldLink RX7 9 "BuoyTender$Warnings" "markOf" "[I") (by decide +kernel)) (fun _ h9 => h9) rfl hin rfl (by decide +kernel) rfl rfl (Nat.le_of_ble_eq_true rfl) dX7_init_9 (fun H locs hP hD hS => ?_)
  have hP : va_P D vwCl [(h0, .inr (7, [.ref q1, .null, .null, .null, .int 0])), (q1, .inl (cI, 100, .inl (fun _ => 0)))] H := hP
  have hD : va_D A [(h0, .inr (7, [.ref q1, .null, .null, .null, .int 0])), (q1, .inl (cI, 100, .inl (fun _ => 0)))] := hD
  refine lv_aload_n hx hb dX7_init_12 rfl (lv_at hl 0 rfl) ?_
  refine lv_bipush (v := 100) hx hb dX7_init_13 (by decide) ?_
  refine my_newi hx hb (hts (.arrayClass .int) (by decide +kernel)) hK hP hD hS hA (N' := 100) (by decide) (by decide) (by decide) (Nat.le_of_ble_eq_true rfl) (Nat.le_of_ble_eq_true rfl) dX7_init_15 (fun q2 H hP hD hS => ?_)
  have hP : va_P D vwCl [(h0, .inr (7, [.ref q1, .null, .null, .null, .int 0])), (q1, .inl (cI, 100, .inl (fun _ => 0))), (q2, .inl (cI, 100, .inl (fun _ => 0)))] H := hP
  have hD : va_D A [(h0, .inr (7, [.ref q1, .null, .null, .null, .int 0])), (q1, .inl (cI, 100, .inl (fun _ => 0))), (q2, .inl (cI, 100, .inl (fun _ => 0)))] := hD
  refine W.widen (k := 2) (n := 200) (by decide) (by decide) ?_
  refine va_putF (D := D) (ci := 7) (v := .ref q2) (ty := (tyX7 1)) (C := RX7) (T := TX7) (N := 5) hx hb hts (fun _ h9 => List.mem_cons_of_mem _ (List.mem_append_right _ h9)) tyX7 tyX7_ok nmX7 hown hK hP hD hS 0 rfl rfl 1 (by decide) (hts (.fieldLink RX7 15 "BuoyTender$Warnings" "reasonOf" "[I") (by decide +kernel)) (fun _ h9 => h9) rfl hin rfl (by decide +kernel) rfl rfl (Nat.le_of_ble_eq_true rfl) dX7_init_17 (fun H locs hP hD hS => ?_)
  have hP : va_P D vwCl [(h0, .inr (7, [.ref q1, .ref q2, .null, .null, .int 0])), (q1, .inl (cI, 100, .inl (fun _ => 0))), (q2, .inl (cI, 100, .inl (fun _ => 0)))] H := hP
  have hD : va_D A [(h0, .inr (7, [.ref q1, .ref q2, .null, .null, .int 0])), (q1, .inl (cI, 100, .inl (fun _ => 0))), (q2, .inl (cI, 100, .inl (fun _ => 0)))] := hD
  refine lv_aload_n hx hb dX7_init_20 rfl (lv_at hl 0 rfl) ?_
  refine lv_bipush (v := 100) hx hb dX7_init_21 (by decide) ?_
  refine my_newi hx hb (hts (.arrayClass .int) (by decide +kernel)) hK hP hD hS hA (N' := 100) (by decide) (by decide) (by decide) (Nat.le_of_ble_eq_true rfl) (Nat.le_of_ble_eq_true rfl) dX7_init_23 (fun q3 H hP hD hS => ?_)
  have hP : va_P D vwCl [(h0, .inr (7, [.ref q1, .ref q2, .null, .null, .int 0])), (q1, .inl (cI, 100, .inl (fun _ => 0))), (q2, .inl (cI, 100, .inl (fun _ => 0))), (q3, .inl (cI, 100, .inl (fun _ => 0)))] H := hP
  have hD : va_D A [(h0, .inr (7, [.ref q1, .ref q2, .null, .null, .int 0])), (q1, .inl (cI, 100, .inl (fun _ => 0))), (q2, .inl (cI, 100, .inl (fun _ => 0))), (q3, .inl (cI, 100, .inl (fun _ => 0)))] := hD
  refine W.widen (k := 3) (n := 300) (by decide) (by decide) ?_
  refine va_putF (D := D) (ci := 7) (v := .ref q3) (ty := (tyX7 2)) (C := RX7) (T := TX7) (N := 5) hx hb hts (fun _ h9 => List.mem_cons_of_mem _ (List.mem_append_right _ h9)) tyX7 tyX7_ok nmX7 hown hK hP hD hS 0 rfl rfl 2 (by decide) (hts (.fieldLink RX7 18 "BuoyTender$Warnings" "toldOn" "[I") (by decide +kernel)) (fun _ h9 => h9) rfl hin rfl (by decide +kernel) rfl rfl (Nat.le_of_ble_eq_true rfl) dX7_init_25 (fun H locs hP hD hS => ?_)
  have hP : va_P D vwCl [(h0, .inr (7, [.ref q1, .ref q2, .ref q3, .null, .int 0])), (q1, .inl (cI, 100, .inl (fun _ => 0))), (q2, .inl (cI, 100, .inl (fun _ => 0))), (q3, .inl (cI, 100, .inl (fun _ => 0)))] H := hP
  have hD : va_D A [(h0, .inr (7, [.ref q1, .ref q2, .ref q3, .null, .int 0])), (q1, .inl (cI, 100, .inl (fun _ => 0))), (q2, .inl (cI, 100, .inl (fun _ => 0))), (q3, .inl (cI, 100, .inl (fun _ => 0)))] := hD
  refine lv_aload_n hx hb dX7_init_28 rfl (lv_at hl 0 rfl) ?_
  refine lv_bipush (v := 100) hx hb dX7_init_29 (by decide) ?_
  refine my_newi hx hb (hts (.arrayClass .int) (by decide +kernel)) hK hP hD hS hA (N' := 100) (by decide) (by decide) (by decide) (Nat.le_of_ble_eq_true rfl) (Nat.le_of_ble_eq_true rfl) dX7_init_31 (fun q4 H hP hD hS => ?_)
  have hP : va_P D vwCl [(h0, .inr (7, [.ref q1, .ref q2, .ref q3, .null, .int 0])), (q1, .inl (cI, 100, .inl (fun _ => 0))), (q2, .inl (cI, 100, .inl (fun _ => 0))), (q3, .inl (cI, 100, .inl (fun _ => 0))), (q4, .inl (cI, 100, .inl (fun _ => 0)))] H := hP
  have hD : va_D A [(h0, .inr (7, [.ref q1, .ref q2, .ref q3, .null, .int 0])), (q1, .inl (cI, 100, .inl (fun _ => 0))), (q2, .inl (cI, 100, .inl (fun _ => 0))), (q3, .inl (cI, 100, .inl (fun _ => 0))), (q4, .inl (cI, 100, .inl (fun _ => 0)))] := hD
  refine W.widen (k := 4) (n := 400) (by decide) (by decide) ?_
  refine va_putF (D := D) (ci := 7) (v := .ref q4) (ty := (tyX7 3)) (C := RX7) (T := TX7) (N := 5) hx hb hts (fun _ h9 => List.mem_cons_of_mem _ (List.mem_append_right _ h9)) tyX7 tyX7_ok nmX7 hown hK hP hD hS 0 rfl rfl 3 (by decide) (hts (.fieldLink RX7 21 "BuoyTender$Warnings" "cancelledOn" "[I") (by decide +kernel)) (fun _ h9 => h9) rfl hin rfl (by decide +kernel) rfl rfl (Nat.le_of_ble_eq_true rfl) dX7_init_33 (fun H locs hP hD hS => ?_)
  have hP : va_P D vwCl [(h0, .inr (7, [.ref q1, .ref q2, .ref q3, .ref q4, .int 0])), (q1, .inl (cI, 100, .inl (fun _ => 0))), (q2, .inl (cI, 100, .inl (fun _ => 0))), (q3, .inl (cI, 100, .inl (fun _ => 0))), (q4, .inl (cI, 100, .inl (fun _ => 0)))] H := hP
  have hD : va_D A [(h0, .inr (7, [.ref q1, .ref q2, .ref q3, .ref q4, .int 0])), (q1, .inl (cI, 100, .inl (fun _ => 0))), (q2, .inl (cI, 100, .inl (fun _ => 0))), (q3, .inl (cI, 100, .inl (fun _ => 0))), (q4, .inl (cI, 100, .inl (fun _ => 0)))] := hD
  have hP9 := hP.sub (ws' := [(h0, .inr (7, [.ref q1, .ref q2, .ref q3, .ref q4, .int 0])), (q1, .inl (cI, 100, .inl (fun _ => 0))), (q2, .inl (cI, 100, .inl (fun _ => 0))), (q3, .inl (cI, 100, .inl (fun _ => 0))), (q4, .inl (cI, 100, .inl (fun _ => 0)))]) [0, 1, 2, 3, 4] rfl
  have hD9 := hD.sub (ws' := [(h0, .inr (7, [.ref q1, .ref q2, .ref q3, .ref q4, .int 0])), (q1, .inl (cI, 100, .inl (fun _ => 0))), (q2, .inl (cI, 100, .inl (fun _ => 0))), (q3, .inl (cI, 100, .inl (fun _ => 0))), (q4, .inl (cI, 100, .inl (fun _ => 0)))]) [0, 1, 2, 3, 4] (by decide) rfl
  exact W.vret hx hb hr (fun t ht hW => ⟨⟨(q1, q2, q3, q4), rfl, trivial, ⟨by rw [ht]; exact hP9, hD9⟩⟩, hS.F ht⟩) hS.2.2 dX7_init_36
set_option maxHeartbeats 4000000 in
set_option maxRecDepth 100000 in
/-- Ship() -/
theorem k_X4_init (l : Launch) (D : va_G) (cI cJ cZ cM : Nat) (h0 : Nat) (sz : Nat) : Met l yX4_init wsX4_init ({ frames := 1, cells := 2, slots := 48, locals := 14 } : Room) (RW D cI cJ cZ cM [.ref h0] [(h0, .inr (4, [.null, .null, .int 0, .int 0, .int 0, .int 0, .int 0, .int 0, .int 0, .int 0]))] sz) (va_Qv (S := Nat × Nat) (fun u => True) (BB D (fun u => [(h0, .inr (4, [.ref u.1, .ref u.2, .int 0, .int 0, .int 0, .int 1440, .int 1, .int 0, .int 12, .int 0])), (u.1, .inl (cI, 24, .inl (fun _ => 0))), (u.2, .inl (cI, 24, .inl (fun _ => 0)))]) (va_A [(h0, .inr (4, [.null, .null, .int 0, .int 0, .int 0, .int 0, .int 0, .int 0, .int 0, .int 0]))] sz)) (va_A [(h0, .inr (4, [.null, .null, .int 0, .int 0, .int 0, .int 0, .int 0, .int 0, .int 0, .int 0]))] sz)) 2 48 (va_A [(h0, .inr (4, [.null, .null, .int 0, .int 0, .int 0, .int 0, .int 0, .int 0, .int 0, .int 0]))] sz) := by
  refine Met.ofW (cc := cX4_init) (maxL := 1) (ret := none) (by decide) rfl ?_
  intro p e s m args below meth c s₁ B hml hv
  obtain ⟨rfl, hsz, hG, hP, hD0⟩ := hv
  have hx := B.exec
  have hb := B.bytes
  have hr := B.returns
  have hts := atoms_spec (ws := wsX4_init) B.pre
  have hown : s.vm.findClass RX4 = some m.cls := findClass_of_methodNamed B.named
  have hlocks := B.notSynchronized
  have hin : meth.name = "<init>" := (name_of_methodNamed B.named B.method).1
  have hK := hG.1
  have hN := hG.2
  subst hsz
  have hD := hD0.self (sz := s.heap.size)
  generalize hAe : va_A [(h0, .inr (4, [.null, .null, .int 0, .int 0, .int 0, .int 0, .int 0, .int 0, .int 0, .int 0]))] s.heap.size = A at hD ⊢
  have hA : ∀ q : Nat, s.heap.size ≤ q → A q := fun q h => by rw [← hAe]; exact Or.inr h
  have hS : va_S A s.heap s.heap [] := va_S.rf
  have hP : va_P D vwCl [(h0, .inr (4, [.null, .null, .int 0, .int 0, .int 0, .int 0, .int 0, .int 0, .int 0, .int 0]))] s.heap := hP
  have hl := lv_entry ([.ref h0]) (n := 1) (Nat.le_of_ble_eq_true rfl)
  rw [lg_entry_eq]
  generalize (lg_sl ([.ref h0]) ++ List.replicate (1 - (lg_sl ([.ref h0])).length) Slot.unset).toArray = ls at hl ⊢
  have hl : lv_has ls 1 [(0, .ref h0)] := hl
  refine lv_aload_n hx hb dX4_init_0 rfl (lv_at hl 0 rfl) ?_
  refine W.objInit hx hb hown (hts (.methodLink RX4 3 objectInit) (by decide +kernel)) (hts (.instanceMethod objectInit) (by decide +kernel)) (hts (.code objectInit ⟨#[0xb1]⟩ 1 none) (by decide +kernel)) rfl (by rw [hml]; exact hl.1) rfl dX4_init_1 (Nat.le_of_ble_eq_true rfl) (Nat.le_of_ble_eq_true rfl) ?_
  refine W.eq (g2 := F0 m 4 ls []) rfl ?_
  refine lv_aload_n hx hb dX4_init_4 rfl (lv_at hl 0 rfl) ?_
  refine lv_bipush (v := 24) hx hb dX4_init_5 (by decide) ?_
  refine my_newi hx hb (hts (.arrayClass .int) (by decide +kernel)) hK hP hD hS hA (N' := 24) (by decide) (by decide) (by decide) (Nat.le_of_ble_eq_true rfl) (Nat.le_of_ble_eq_true rfl) dX4_init_7 (fun q1 H hP hD hS => ?_)
  have hP : va_P D vwCl [(h0, .inr (4, [.null, .null, .int 0, .int 0, .int 0, .int 0, .int 0, .int 0, .int 0, .int 0])), (q1, .inl (cI, 24, .inl (fun _ => 0)))] H := hP
  have hD : va_D A [(h0, .inr (4, [.null, .null, .int 0, .int 0, .int 0, .int 0, .int 0, .int 0, .int 0, .int 0])), (q1, .inl (cI, 24, .inl (fun _ => 0)))] := hD
  refine W.widen (k := 1) (n := 24) (by decide) (by decide) ?_
  refine va_putF (D := D) (ci := 4) (v := .ref q1) (ty := (tyX4 0)) (C := RX4) (T := TX4) (N := 10) hx hb hts (fun _ h9 => List.mem_cons_of_mem _ (List.mem_append_right _ h9)) tyX4 tyX4_ok nmX4 hown hK hP hD hS 0 rfl rfl 0 (by decide) (hts (.fieldLink RX4 9 "BuoyTender$Ship" "tides" "[I") (by decide +kernel)) (fun _ h9 => h9) rfl hin rfl (by decide +kernel) rfl rfl (Nat.le_of_ble_eq_true rfl) dX4_init_9 (fun H locs hP hD hS => ?_)
  have hP : va_P D vwCl [(h0, .inr (4, [.ref q1, .null, .int 0, .int 0, .int 0, .int 0, .int 0, .int 0, .int 0, .int 0])), (q1, .inl (cI, 24, .inl (fun _ => 0)))] H := hP
  have hD : va_D A [(h0, .inr (4, [.ref q1, .null, .int 0, .int 0, .int 0, .int 0, .int 0, .int 0, .int 0, .int 0])), (q1, .inl (cI, 24, .inl (fun _ => 0)))] := hD
  refine lv_aload_n hx hb dX4_init_12 rfl (lv_at hl 0 rfl) ?_
  refine lv_bipush (v := 24) hx hb dX4_init_13 (by decide) ?_
  refine my_newi hx hb (hts (.arrayClass .int) (by decide +kernel)) hK hP hD hS hA (N' := 24) (by decide) (by decide) (by decide) (Nat.le_of_ble_eq_true rfl) (Nat.le_of_ble_eq_true rfl) dX4_init_15 (fun q2 H hP hD hS => ?_)
  have hP : va_P D vwCl [(h0, .inr (4, [.ref q1, .null, .int 0, .int 0, .int 0, .int 0, .int 0, .int 0, .int 0, .int 0])), (q1, .inl (cI, 24, .inl (fun _ => 0))), (q2, .inl (cI, 24, .inl (fun _ => 0)))] H := hP
  have hD : va_D A [(h0, .inr (4, [.ref q1, .null, .int 0, .int 0, .int 0, .int 0, .int 0, .int 0, .int 0, .int 0])), (q1, .inl (cI, 24, .inl (fun _ => 0))), (q2, .inl (cI, 24, .inl (fun _ => 0)))] := hD
  refine W.widen (k := 2) (n := 48) (by decide) (by decide) ?_
  refine va_putF (D := D) (ci := 4) (v := .ref q2) (ty := (tyX4 1)) (C := RX4) (T := TX4) (N := 10) hx hb hts (fun _ h9 => List.mem_cons_of_mem _ (List.mem_append_right _ h9)) tyX4 tyX4_ok nmX4 hown hK hP hD hS 0 rfl rfl 1 (by decide) (hts (.fieldLink RX4 15 "BuoyTender$Ship" "winds" "[I") (by decide +kernel)) (fun _ h9 => h9) rfl hin rfl (by decide +kernel) rfl rfl (Nat.le_of_ble_eq_true rfl) dX4_init_17 (fun H locs hP hD hS => ?_)
  have hP : va_P D vwCl [(h0, .inr (4, [.ref q1, .ref q2, .int 0, .int 0, .int 0, .int 0, .int 0, .int 0, .int 0, .int 0])), (q1, .inl (cI, 24, .inl (fun _ => 0))), (q2, .inl (cI, 24, .inl (fun _ => 0)))] H := hP
  have hD : va_D A [(h0, .inr (4, [.ref q1, .ref q2, .int 0, .int 0, .int 0, .int 0, .int 0, .int 0, .int 0, .int 0])), (q1, .inl (cI, 24, .inl (fun _ => 0))), (q2, .inl (cI, 24, .inl (fun _ => 0)))] := hD
  refine lv_aload_n hx hb dX4_init_20 rfl (lv_at hl 0 rfl) ?_
  refine lv_sipush (v := 1440) hx hb dX4_init_21 (by decide) ?_
  refine va_put (D := D) (ci := 4) (v := .int 1440) (ty := (tyX4 5)) (C := RX4) (T := TX4) (N := 10) hx hb hts (fun _ h9 => List.mem_cons_of_mem _ (List.mem_append_right _ h9)) tyX4 tyX4_ok nmX4 hown hK hP hD hS 0 rfl rfl 5 (by decide) (hts (.fieldLink RX4 18 "BuoyTender$Ship" "end" "I") (by decide +kernel)) (fun _ h9 => h9) rfl (by decide +kernel) rfl rfl (Nat.le_of_ble_eq_true rfl) dX4_init_24 (fun H locs hP hD hS => ?_)
  have hP : va_P D vwCl [(h0, .inr (4, [.ref q1, .ref q2, .int 0, .int 0, .int 0, .int 1440, .int 0, .int 0, .int 0, .int 0])), (q1, .inl (cI, 24, .inl (fun _ => 0))), (q2, .inl (cI, 24, .inl (fun _ => 0)))] H := hP
  have hD : va_D A [(h0, .inr (4, [.ref q1, .ref q2, .int 0, .int 0, .int 0, .int 1440, .int 0, .int 0, .int 0, .int 0])), (q1, .inl (cI, 24, .inl (fun _ => 0))), (q2, .inl (cI, 24, .inl (fun _ => 0)))] := hD
  refine lv_aload_n hx hb dX4_init_27 rfl (lv_at hl 0 rfl) ?_
  refine lv_iconst (v := 1) hx hb dX4_init_28 (by decide) ?_
  refine va_put (D := D) (ci := 4) (v := .int 1) (ty := (tyX4 6)) (C := RX4) (T := TX4) (N := 10) hx hb hts (fun _ h9 => List.mem_cons_of_mem _ (List.mem_append_right _ h9)) tyX4 tyX4_ok nmX4 hown hK hP hD hS 0 rfl rfl 6 (by decide) (hts (.fieldLink RX4 22 "BuoyTender$Ship" "pace" "I") (by decide +kernel)) (fun _ h9 => h9) rfl (by decide +kernel) rfl rfl (Nat.le_of_ble_eq_true rfl) dX4_init_29 (fun H locs hP hD hS => ?_)
  have hP : va_P D vwCl [(h0, .inr (4, [.ref q1, .ref q2, .int 0, .int 0, .int 0, .int 1440, .int 1, .int 0, .int 0, .int 0])), (q1, .inl (cI, 24, .inl (fun _ => 0))), (q2, .inl (cI, 24, .inl (fun _ => 0)))] H := hP
  have hD : va_D A [(h0, .inr (4, [.ref q1, .ref q2, .int 0, .int 0, .int 0, .int 1440, .int 1, .int 0, .int 0, .int 0])), (q1, .inl (cI, 24, .inl (fun _ => 0))), (q2, .inl (cI, 24, .inl (fun _ => 0)))] := hD
  refine lv_aload_n hx hb dX4_init_32 rfl (lv_at hl 0 rfl) ?_
  refine lv_bipush (v := 12) hx hb dX4_init_33 (by decide) ?_
  refine va_put (D := D) (ci := 4) (v := .int 12) (ty := (tyX4 8)) (C := RX4) (T := TX4) (N := 10) hx hb hts (fun _ h9 => List.mem_cons_of_mem _ (List.mem_append_right _ h9)) tyX4 tyX4_ok nmX4 hown hK hP hD hS 0 rfl rfl 8 (by decide) (hts (.fieldLink RX4 25 "BuoyTender$Ship" "mostWind" "I") (by decide +kernel)) (fun _ h9 => h9) rfl (by decide +kernel) rfl rfl (Nat.le_of_ble_eq_true rfl) dX4_init_35 (fun H locs hP hD hS => ?_)
  have hP : va_P D vwCl [(h0, .inr (4, [.ref q1, .ref q2, .int 0, .int 0, .int 0, .int 1440, .int 1, .int 0, .int 12, .int 0])), (q1, .inl (cI, 24, .inl (fun _ => 0))), (q2, .inl (cI, 24, .inl (fun _ => 0)))] H := hP
  have hD : va_D A [(h0, .inr (4, [.ref q1, .ref q2, .int 0, .int 0, .int 0, .int 1440, .int 1, .int 0, .int 12, .int 0])), (q1, .inl (cI, 24, .inl (fun _ => 0))), (q2, .inl (cI, 24, .inl (fun _ => 0)))] := hD
  have hP9 := hP.sub (ws' := [(h0, .inr (4, [.ref q1, .ref q2, .int 0, .int 0, .int 0, .int 1440, .int 1, .int 0, .int 12, .int 0])), (q1, .inl (cI, 24, .inl (fun _ => 0))), (q2, .inl (cI, 24, .inl (fun _ => 0)))]) [0, 1, 2] rfl
  have hD9 := hD.sub (ws' := [(h0, .inr (4, [.ref q1, .ref q2, .int 0, .int 0, .int 0, .int 1440, .int 1, .int 0, .int 12, .int 0])), (q1, .inl (cI, 24, .inl (fun _ => 0))), (q2, .inl (cI, 24, .inl (fun _ => 0)))]) [0, 1, 2] (by decide) rfl
  exact W.vret hx hb hr (fun t ht hW => ⟨⟨(q1, q2), rfl, trivial, ⟨by rw [ht]; exact hP9, hD9⟩⟩, hS.F ht⟩) hS.2.2 dX4_init_38
set_option maxHeartbeats 4000000 in
set_option maxRecDepth 100000 in
/-- Rhythm() -/
theorem k_X3_init (l : Launch) (D : va_G) (cI cJ cZ cM : Nat) (h0 : Nat) (sz : Nat) : Met l yX3_init wsX3_init ({ frames := 1, cells := 1, slots := 8, locals := 14 } : Room) (RW D cI cJ cZ cM [.ref h0] [(h0, .inr (3, [.null, .int 0]))] sz) (va_Qv (S := Nat) (fun u => True) (BB D (fun u => [(h0, .inr (3, [.ref u, .int 0])), (u, .inl (cI, 8, .inl (fun _ => 0)))]) (va_A [(h0, .inr (3, [.null, .int 0]))] sz)) (va_A [(h0, .inr (3, [.null, .int 0]))] sz)) 1 8 (va_A [(h0, .inr (3, [.null, .int 0]))] sz) := by
  refine Met.ofW (cc := cX3_init) (maxL := 1) (ret := none) (by decide) rfl ?_
  intro p e s m args below meth c s₁ B hml hv
  obtain ⟨rfl, hsz, hG, hP, hD0⟩ := hv
  have hx := B.exec
  have hb := B.bytes
  have hr := B.returns
  have hts := atoms_spec (ws := wsX3_init) B.pre
  have hown : s.vm.findClass RX3 = some m.cls := findClass_of_methodNamed B.named
  have hlocks := B.notSynchronized
  have hin : meth.name = "<init>" := (name_of_methodNamed B.named B.method).1
  have hK := hG.1
  have hN := hG.2
  subst hsz
  have hD := hD0.self (sz := s.heap.size)
  generalize hAe : va_A [(h0, .inr (3, [.null, .int 0]))] s.heap.size = A at hD ⊢
  have hA : ∀ q : Nat, s.heap.size ≤ q → A q := fun q h => by rw [← hAe]; exact Or.inr h
  have hS : va_S A s.heap s.heap [] := va_S.rf
  have hP : va_P D vwCl [(h0, .inr (3, [.null, .int 0]))] s.heap := hP
  have hl := lv_entry ([.ref h0]) (n := 1) (Nat.le_of_ble_eq_true rfl)
  rw [lg_entry_eq]
  generalize (lg_sl ([.ref h0]) ++ List.replicate (1 - (lg_sl ([.ref h0])).length) Slot.unset).toArray = ls at hl ⊢
  have hl : lv_has ls 1 [(0, .ref h0)] := hl
  refine lv_aload_n hx hb dX3_init_0 rfl (lv_at hl 0 rfl) ?_
  refine W.objInit hx hb hown (hts (.methodLink RX3 3 objectInit) (by decide +kernel)) (hts (.instanceMethod objectInit) (by decide +kernel)) (hts (.code objectInit ⟨#[0xb1]⟩ 1 none) (by decide +kernel)) rfl (by rw [hml]; exact hl.1) rfl dX3_init_1 (Nat.le_of_ble_eq_true rfl) (Nat.le_of_ble_eq_true rfl) ?_
  refine W.eq (g2 := F0 m 4 ls []) rfl ?_
  refine lv_aload_n hx hb dX3_init_4 rfl (lv_at hl 0 rfl) ?_
  refine lv_bipush (v := 8) hx hb dX3_init_5 (by decide) ?_
  refine my_newi hx hb (hts (.arrayClass .int) (by decide +kernel)) hK hP hD hS hA (N' := 8) (by decide) (by decide) (by decide) (Nat.le_of_ble_eq_true rfl) (Nat.le_of_ble_eq_true rfl) dX3_init_7 (fun q1 H hP hD hS => ?_)
  have hP : va_P D vwCl [(h0, .inr (3, [.null, .int 0])), (q1, .inl (cI, 8, .inl (fun _ => 0)))] H := hP
  have hD : va_D A [(h0, .inr (3, [.null, .int 0])), (q1, .inl (cI, 8, .inl (fun _ => 0)))] := hD
  refine W.widen (k := 1) (n := 8) (by decide) (by decide) ?_
  refine va_putF (D := D) (ci := 3) (v := .ref q1) (ty := (tyX3 0)) (C := RX3) (T := TX3) (N := 2) hx hb hts (fun _ h9 => List.mem_cons_of_mem _ (List.mem_append_right _ h9)) tyX3 tyX3_ok nmX3 hown hK hP hD hS 0 rfl rfl 0 (by decide) (hts (.fieldLink RX3 9 "BuoyTender$Rhythm" "steps" "[I") (by decide +kernel)) (fun _ h9 => h9) rfl hin rfl (by decide +kernel) rfl rfl (Nat.le_of_ble_eq_true rfl) dX3_init_9 (fun H locs hP hD hS => ?_)
  have hP : va_P D vwCl [(h0, .inr (3, [.ref q1, .int 0])), (q1, .inl (cI, 8, .inl (fun _ => 0)))] H := hP
  have hD : va_D A [(h0, .inr (3, [.ref q1, .int 0])), (q1, .inl (cI, 8, .inl (fun _ => 0)))] := hD
  have hP9 := hP.sub (ws' := [(h0, .inr (3, [.ref q1, .int 0])), (q1, .inl (cI, 8, .inl (fun _ => 0)))]) [0, 1] rfl
  have hD9 := hD.sub (ws' := [(h0, .inr (3, [.ref q1, .int 0])), (q1, .inl (cI, 8, .inl (fun _ => 0)))]) [0, 1] (by decide) rfl
  exact W.vret hx hb hr (fun t ht hW => ⟨⟨(q1), rfl, trivial, ⟨by rw [ht]; exact hP9, hD9⟩⟩, hS.F ht⟩) hS.2.2 dX3_init_12
set_option maxHeartbeats 4000000 in
set_option maxRecDepth 100000 in
/-- Sighting() -/
theorem k_X5_init (l : Launch) (D : va_G) (cI cJ cZ cM : Nat) (h0 : Nat) (sz : Nat) : Met l yX5_init wsX5_init ({ frames := 1, cells := 1, slots := 40, locals := 14 } : Room) (RW D cI cJ cZ cM [.ref h0] [(h0, .inr (5, [.null, .int 0, .int 0, .int 0]))] sz) (va_Qv (S := Nat) (fun u => True) (BB D (fun u => [(h0, .inr (5, [.ref u, .int 0, .int 200, .int 0])), (u, .inl (cJ, 40, .inr (.inl (fun _ => 0))))]) (va_A [(h0, .inr (5, [.null, .int 0, .int 0, .int 0]))] sz)) (va_A [(h0, .inr (5, [.null, .int 0, .int 0, .int 0]))] sz)) 1 40 (va_A [(h0, .inr (5, [.null, .int 0, .int 0, .int 0]))] sz) := by
  refine Met.ofW (cc := cX5_init) (maxL := 1) (ret := none) (by decide) rfl ?_
  intro p e s m args below meth c s₁ B hml hv
  obtain ⟨rfl, hsz, hG, hP, hD0⟩ := hv
  have hx := B.exec
  have hb := B.bytes
  have hr := B.returns
  have hts := atoms_spec (ws := wsX5_init) B.pre
  have hown : s.vm.findClass RX5 = some m.cls := findClass_of_methodNamed B.named
  have hlocks := B.notSynchronized
  have hin : meth.name = "<init>" := (name_of_methodNamed B.named B.method).1
  have hK := hG.1
  have hN := hG.2
  subst hsz
  have hD := hD0.self (sz := s.heap.size)
  generalize hAe : va_A [(h0, .inr (5, [.null, .int 0, .int 0, .int 0]))] s.heap.size = A at hD ⊢
  have hA : ∀ q : Nat, s.heap.size ≤ q → A q := fun q h => by rw [← hAe]; exact Or.inr h
  have hS : va_S A s.heap s.heap [] := va_S.rf
  have hP : va_P D vwCl [(h0, .inr (5, [.null, .int 0, .int 0, .int 0]))] s.heap := hP
  have hl := lv_entry ([.ref h0]) (n := 1) (Nat.le_of_ble_eq_true rfl)
  rw [lg_entry_eq]
  generalize (lg_sl ([.ref h0]) ++ List.replicate (1 - (lg_sl ([.ref h0])).length) Slot.unset).toArray = ls at hl ⊢
  have hl : lv_has ls 1 [(0, .ref h0)] := hl
  refine lv_aload_n hx hb dX5_init_0 rfl (lv_at hl 0 rfl) ?_
  refine W.objInit hx hb hown (hts (.methodLink RX5 3 objectInit) (by decide +kernel)) (hts (.instanceMethod objectInit) (by decide +kernel)) (hts (.code objectInit ⟨#[0xb1]⟩ 1 none) (by decide +kernel)) rfl (by rw [hml]; exact hl.1) rfl dX5_init_1 (Nat.le_of_ble_eq_true rfl) (Nat.le_of_ble_eq_true rfl) ?_
  refine W.eq (g2 := F0 m 4 ls []) rfl ?_
  refine lv_aload_n hx hb dX5_init_4 rfl (lv_at hl 0 rfl) ?_
  refine lv_bipush (v := 40) hx hb dX5_init_5 (by decide) ?_
  refine my_newl hx hb (hts (.arrayClass .long) (by decide +kernel)) hK hP hD hS hA (N' := 40) (by decide) (by decide) (by decide) (Nat.le_of_ble_eq_true rfl) (Nat.le_of_ble_eq_true rfl) dX5_init_7 (fun q1 H hP hD hS => ?_)
  have hP : va_P D vwCl [(h0, .inr (5, [.null, .int 0, .int 0, .int 0])), (q1, .inl (cJ, 40, .inr (.inl (fun _ => 0))))] H := hP
  have hD : va_D A [(h0, .inr (5, [.null, .int 0, .int 0, .int 0])), (q1, .inl (cJ, 40, .inr (.inl (fun _ => 0))))] := hD
  refine W.widen (k := 1) (n := 40) (by decide) (by decide) ?_
  refine va_putF (D := D) (ci := 5) (v := .ref q1) (ty := (tyX5 0)) (C := RX5) (T := TX5) (N := 4) hx hb hts (fun _ h9 => List.mem_cons_of_mem _ (List.mem_append_right _ h9)) tyX5 tyX5_ok nmX5 hown hK hP hD hS 0 rfl rfl 0 (by decide) (hts (.fieldLink RX5 9 "BuoyTender$Sighting" "ruledOut" "[J") (by decide +kernel)) (fun _ h9 => h9) rfl hin rfl (by decide +kernel) rfl rfl (Nat.le_of_ble_eq_true rfl) dX5_init_9 (fun H locs hP hD hS => ?_)
  have hP : va_P D vwCl [(h0, .inr (5, [.ref q1, .int 0, .int 0, .int 0])), (q1, .inl (cJ, 40, .inr (.inl (fun _ => 0))))] H := hP
  have hD : va_D A [(h0, .inr (5, [.ref q1, .int 0, .int 0, .int 0])), (q1, .inl (cJ, 40, .inr (.inl (fun _ => 0))))] := hD
  refine lv_aload_n hx hb dX5_init_12 rfl (lv_at hl 0 rfl) ?_
  refine lv_sipush (v := 200) hx hb dX5_init_13 (by decide) ?_
  refine va_put (D := D) (ci := 5) (v := .int 200) (ty := (tyX5 2)) (C := RX5) (T := TX5) (N := 4) hx hb hts (fun _ h9 => List.mem_cons_of_mem _ (List.mem_append_right _ h9)) tyX5 tyX5_ok nmX5 hown hK hP hD hS 0 rfl rfl 2 (by decide) (hts (.fieldLink RX5 15 "BuoyTender$Sighting" "deepest" "I") (by decide +kernel)) (fun _ h9 => h9) rfl (by decide +kernel) rfl rfl (Nat.le_of_ble_eq_true rfl) dX5_init_16 (fun H locs hP hD hS => ?_)
  have hP : va_P D vwCl [(h0, .inr (5, [.ref q1, .int 0, .int 200, .int 0])), (q1, .inl (cJ, 40, .inr (.inl (fun _ => 0))))] H := hP
  have hD : va_D A [(h0, .inr (5, [.ref q1, .int 0, .int 200, .int 0])), (q1, .inl (cJ, 40, .inr (.inl (fun _ => 0))))] := hD
  have hP9 := hP.sub (ws' := [(h0, .inr (5, [.ref q1, .int 0, .int 200, .int 0])), (q1, .inl (cJ, 40, .inr (.inl (fun _ => 0))))]) [0, 1] rfl
  have hD9 := hD.sub (ws' := [(h0, .inr (5, [.ref q1, .int 0, .int 200, .int 0])), (q1, .inl (cJ, 40, .inr (.inl (fun _ => 0))))]) [0, 1] (by decide) rfl
  exact W.vret hx hb hr (fun t ht hW => ⟨⟨(q1), rfl, trivial, ⟨by rw [ht]; exact hP9, hD9⟩⟩, hS.F ht⟩) hS.2.2 dX5_init_19
end
section
set_option maxHeartbeats 4000000 in
set_option maxRecDepth 100000 in
/-- BuoyTender(): the fresh world -/
theorem k_X8_init (l : Launch) (D : va_G) (cI cJ cZ cM : Nat) (h0 : Nat) (sz : Nat) : Met l yX8_init wsX8_init ({ frames := 2, cells := 14, slots := 2137, locals := 40 } : Room) (RW D cI cJ cZ cM [.ref h0] [(h0, .inr (8, [.null, .null, .null, .null, .null, .null, .null, .null, .int 0, .int 0, .int 0, .int 0]))] sz) (va_Qv (S := Nat → Nat) (fun u => True) (BB D (fun u => [(h0, .inr (8, [.ref (u 1), .ref (u 2), .ref (u 3), .ref (u 4), .ref (u 5), .ref (u 6), .ref (u 7), .null, .int 0, .int 0, .int 0, .int 0])), (u 1, .inl (cI, 1600, .inl (fun _ => 0))), (u 2, .inl (cM, 10, .inr (.inr (.inr (.inr (fun _ => none)))))), (u 3, .inl (cI, 48, .inl (fun _ => 0))), (u 4, .inr (7, [.ref (u 8), .ref (u 9), .ref (u 10), .ref (u 11), .int 0])), (u 8, .inl (cI, 100, .inl (fun _ => 0))), (u 9, .inl (cI, 100, .inl (fun _ => 0))), (u 10, .inl (cI, 100, .inl (fun _ => 0))), (u 11, .inl (cI, 100, .inl (fun _ => 0))), (u 5, .inr (4, [.ref (u 12), .ref (u 13), .int 0, .int 0, .int 0, .int 1440, .int 1, .int 0, .int 12, .int 0])), (u 12, .inl (cI, 24, .inl (fun _ => 0))), (u 13, .inl (cI, 24, .inl (fun _ => 0))), (u 6, .inr (6, [.int 0, .int 0, .int 0, .int 0, .int 0, .int 0])), (u 7, .inr (3, [.ref (u 14), .int 0])), (u 14, .inl (cI, 8, .inl (fun _ => 0)))]) (va_A [(h0, .inr (8, [.null, .null, .null, .null, .null, .null, .null, .null, .int 0, .int 0, .int 0, .int 0]))] sz)) (va_A [(h0, .inr (8, [.null, .null, .null, .null, .null, .null, .null, .null, .int 0, .int 0, .int 0, .int 0]))] sz)) 14 2137 (va_A [(h0, .inr (8, [.null, .null, .null, .null, .null, .null, .null, .null, .int 0, .int 0, .int 0, .int 0]))] sz) := by
  refine Met.ofW (cc := cX8_init) (maxL := 1) (ret := none) (by decide) rfl ?_
  intro p e s m args below meth c s₁ B hml hv
  obtain ⟨rfl, hsz, hG, hP, hD0⟩ := hv
  have hx := B.exec
  have hb := B.bytes
  have hr := B.returns
  have hts := atoms_spec (ws := wsX8_init) B.pre
  have hown : s.vm.findClass RX8 = some m.cls := findClass_of_methodNamed B.named
  have hlocks := B.notSynchronized
  have hin : meth.name = "<init>" := (name_of_methodNamed B.named B.method).1
  have hK := hG.1
  have hN := hG.2
  subst hsz
  have hD := hD0.self (sz := s.heap.size)
  generalize hAe : va_A [(h0, .inr (8, [.null, .null, .null, .null, .null, .null, .null, .null, .int 0, .int 0, .int 0, .int 0]))] s.heap.size = A at hD ⊢
  have hA : ∀ q : Nat, s.heap.size ≤ q → A q := fun q h => by rw [← hAe]; exact Or.inr h
  have hS : va_S A s.heap s.heap [] := va_S.rf
  have hP : va_P D vwCl [(h0, .inr (8, [.null, .null, .null, .null, .null, .null, .null, .null, .int 0, .int 0, .int 0, .int 0]))] s.heap := hP
  have hl := lv_entry ([.ref h0]) (n := 1) (Nat.le_of_ble_eq_true rfl)
  rw [lg_entry_eq]
  generalize (lg_sl ([.ref h0]) ++ List.replicate (1 - (lg_sl ([.ref h0])).length) Slot.unset).toArray = ls at hl ⊢
  have hl : lv_has ls 1 [(0, .ref h0)] := hl
  refine lv_aload_n hx hb dX8_init_0 rfl (lv_at hl 0 rfl) ?_
  refine W.objInit hx hb hown (hts (.methodLink RX8 1 objectInit) (by decide +kernel)) (hts (.instanceMethod objectInit) (by decide +kernel)) (hts (.code objectInit ⟨#[0xb1]⟩ 1 none) (by decide +kernel)) rfl (by rw [hml]; exact hl.1) rfl dX8_init_1 (Nat.le_of_ble_eq_true rfl) (Nat.le_of_ble_eq_true rfl) ?_
  refine W.eq (g2 := F0 m 4 ls []) rfl ?_
  refine lv_aload_n hx hb dX8_init_4 rfl (lv_at hl 0 rfl) ?_
  refine lv_sipush (v := 1600) hx hb dX8_init_5 (by decide) ?_
  refine my_newi hx hb (hts (.arrayClass .int) (by decide +kernel)) hK hP hD hS hA (N' := 1600) (by decide) (by decide) (by decide) (Nat.le_of_ble_eq_true rfl) (Nat.le_of_ble_eq_true rfl) dX8_init_8 (fun q1 H hP hD hS => ?_)
  have hP : va_P D vwCl [(h0, .inr (8, [.null, .null, .null, .null, .null, .null, .null, .null, .int 0, .int 0, .int 0, .int 0])), (q1, .inl (cI, 1600, .inl (fun _ => 0)))] H := hP
  have hD : va_D A [(h0, .inr (8, [.null, .null, .null, .null, .null, .null, .null, .null, .int 0, .int 0, .int 0, .int 0])), (q1, .inl (cI, 1600, .inl (fun _ => 0)))] := hD
  refine W.widen (k := 1) (n := 1600) (by decide) (by decide) ?_
  refine va_putF (D := D) (ci := 8) (v := .ref q1) (ty := (tyX8 0)) (C := RX8) (T := TX8) (N := 12) hx hb hts (fun _ h9 => List.mem_cons_of_mem _ (List.mem_append_left _ (List.mem_append_left _ (List.mem_append_left _ (List.mem_append_left _ (List.mem_append_right _ h9)))))) tyX8 tyX8_ok nmX8 hown hK hP hD hS 0 rfl rfl 0 (by decide) (hts (.fieldLink RX8 9 "BuoyTender" "depths" "[I") (by decide +kernel)) (fun _ h9 => h9) rfl hin rfl (by decide +kernel) rfl rfl (Nat.le_of_ble_eq_true rfl) dX8_init_10 (fun H locs hP hD hS => ?_)
  have hP : va_P D vwCl [(h0, .inr (8, [.ref q1, .null, .null, .null, .null, .null, .null, .null, .int 0, .int 0, .int 0, .int 0])), (q1, .inl (cI, 1600, .inl (fun _ => 0)))] H := hP
  have hD : va_D A [(h0, .inr (8, [.ref q1, .null, .null, .null, .null, .null, .null, .null, .int 0, .int 0, .int 0, .int 0])), (q1, .inl (cI, 1600, .inl (fun _ => 0)))] := hD
  refine lv_aload_n hx hb dX8_init_13 rfl (lv_at hl 0 rfl) ?_
  refine lv_bipush (v := 10) hx hb dX8_init_14 (by decide) ?_
  refine my_newq hx hb hown (hts (.classLink RX8 13 RX1) (by decide +kernel)) hN.2.2 hK hP hD hS hA (N' := 10) (by decide) (by decide) (by decide) (Nat.le_of_ble_eq_true rfl) (Nat.le_of_ble_eq_true rfl) dX8_init_16 (fun q2 H hP hD hS => ?_)
  have hP : va_P D vwCl [(h0, .inr (8, [.ref q1, .null, .null, .null, .null, .null, .null, .null, .int 0, .int 0, .int 0, .int 0])), (q1, .inl (cI, 1600, .inl (fun _ => 0))), (q2, .inl (cM, 10, .inr (.inr (.inr (.inr (fun _ => none))))))] H := hP
  have hD : va_D A [(h0, .inr (8, [.ref q1, .null, .null, .null, .null, .null, .null, .null, .int 0, .int 0, .int 0, .int 0])), (q1, .inl (cI, 1600, .inl (fun _ => 0))), (q2, .inl (cM, 10, .inr (.inr (.inr (.inr (fun _ => none))))))] := hD
  refine W.widen (k := 2) (n := 1610) (by decide) (by decide) ?_
  refine va_putF (D := D) (ci := 8) (v := .ref q2) (ty := (tyX8 1)) (C := RX8) (T := TX8) (N := 12) hx hb hts (fun _ h9 => List.mem_cons_of_mem _ (List.mem_append_left _ (List.mem_append_left _ (List.mem_append_left _ (List.mem_append_left _ (List.mem_append_right _ h9)))))) tyX8 tyX8_ok nmX8 hown hK hP hD hS 0 rfl rfl 1 (by decide) (hts (.fieldLink RX8 15 "BuoyTender" "marks" "[LBuoyTender$Mark;") (by decide +kernel)) (fun _ h9 => h9) rfl hin rfl (by decide +kernel) rfl rfl (Nat.le_of_ble_eq_true rfl) dX8_init_19 (fun H locs hP hD hS => ?_)
  have hP : va_P D vwCl [(h0, .inr (8, [.ref q1, .ref q2, .null, .null, .null, .null, .null, .null, .int 0, .int 0, .int 0, .int 0])), (q1, .inl (cI, 1600, .inl (fun _ => 0))), (q2, .inl (cM, 10, .inr (.inr (.inr (.inr (fun _ => none))))))] H := hP
  have hD : va_D A [(h0, .inr (8, [.ref q1, .ref q2, .null, .null, .null, .null, .null, .null, .int 0, .int 0, .int 0, .int 0])), (q1, .inl (cI, 1600, .inl (fun _ => 0))), (q2, .inl (cM, 10, .inr (.inr (.inr (.inr (fun _ => none))))))] := hD
  refine lv_aload_n hx hb dX8_init_22 rfl (lv_at hl 0 rfl) ?_
  refine lv_bipush (v := 48) hx hb dX8_init_23 (by decide) ?_
  refine my_newi hx hb (hts (.arrayClass .int) (by decide +kernel)) hK hP hD hS hA (N' := 48) (by decide) (by decide) (by decide) (Nat.le_of_ble_eq_true rfl) (Nat.le_of_ble_eq_true rfl) dX8_init_25 (fun q3 H hP hD hS => ?_)
  have hP : va_P D vwCl [(h0, .inr (8, [.ref q1, .ref q2, .null, .null, .null, .null, .null, .null, .int 0, .int 0, .int 0, .int 0])), (q1, .inl (cI, 1600, .inl (fun _ => 0))), (q2, .inl (cM, 10, .inr (.inr (.inr (.inr (fun _ => none)))))), (q3, .inl (cI, 48, .inl (fun _ => 0)))] H := hP
  have hD : va_D A [(h0, .inr (8, [.ref q1, .ref q2, .null, .null, .null, .null, .null, .null, .int 0, .int 0, .int 0, .int 0])), (q1, .inl (cI, 1600, .inl (fun _ => 0))), (q2, .inl (cM, 10, .inr (.inr (.inr (.inr (fun _ => none)))))), (q3, .inl (cI, 48, .inl (fun _ => 0)))] := hD
  refine W.widen (k := 3) (n := 1658) (by decide) (by decide) ?_
  refine va_putF (D := D) (ci := 8) (v := .ref q3) (ty := (tyX8 2)) (C := RX8) (T := TX8) (N := 12) hx hb hts (fun _ h9 => List.mem_cons_of_mem _ (List.mem_append_left _ (List.mem_append_left _ (List.mem_append_left _ (List.mem_append_left _ (List.mem_append_right _ h9)))))) tyX8 tyX8_ok nmX8 hown hK hP hD hS 0 rfl rfl 2 (by decide) (hts (.fieldLink RX8 19 "BuoyTender" "wears" "[I") (by decide +kernel)) (fun _ h9 => h9) rfl hin rfl (by decide +kernel) rfl rfl (Nat.le_of_ble_eq_true rfl) dX8_init_27 (fun H locs hP hD hS => ?_)
  have hP : va_P D vwCl [(h0, .inr (8, [.ref q1, .ref q2, .ref q3, .null, .null, .null, .null, .null, .int 0, .int 0, .int 0, .int 0])), (q1, .inl (cI, 1600, .inl (fun _ => 0))), (q2, .inl (cM, 10, .inr (.inr (.inr (.inr (fun _ => none)))))), (q3, .inl (cI, 48, .inl (fun _ => 0)))] H := hP
  have hD : va_D A [(h0, .inr (8, [.ref q1, .ref q2, .ref q3, .null, .null, .null, .null, .null, .int 0, .int 0, .int 0, .int 0])), (q1, .inl (cI, 1600, .inl (fun _ => 0))), (q2, .inl (cM, 10, .inr (.inr (.inr (.inr (fun _ => none)))))), (q3, .inl (cI, 48, .inl (fun _ => 0)))] := hD
  refine lv_aload_n hx hb dX8_init_30 rfl (lv_at hl 0 rfl) ?_
  refine va_new (ci := 7) (fs := [.null, .null, .null, .null, .int 0]) (C := RX7) (T := TX7) (N := 5) hx hb hts (fun _ h9 => List.mem_cons_of_mem _ (List.mem_append_left _ (List.mem_append_left _ (List.mem_append_left _ (List.mem_append_right _ h9))))) tyX7 tyX7_ok hown (hts (.classLink RX8 22 RX7) (by decide +kernel)) (hts (.instantiable RX7 5) (by decide +kernel)) (hts (.initialized RX7) (by decide +kernel)) hK hP hD hS hA rfl (fun j hj => by rcases (show j = 0 ∨ j = 1 ∨ j = 2 ∨ j = 3 ∨ j = 4 by omega) with rfl | rfl | rfl | rfl | rfl <;> rfl) (Nat.le_of_ble_eq_true rfl) (Nat.le_of_ble_eq_true rfl) dX8_init_31 (fun q4 H hP hD hS => ?_)
  have hP : va_P D vwCl [(h0, .inr (8, [.ref q1, .ref q2, .ref q3, .null, .null, .null, .null, .null, .int 0, .int 0, .int 0, .int 0])), (q1, .inl (cI, 1600, .inl (fun _ => 0))), (q2, .inl (cM, 10, .inr (.inr (.inr (.inr (fun _ => none)))))), (q3, .inl (cI, 48, .inl (fun _ => 0))), (q4, .inr (7, [.null, .null, .null, .null, .int 0]))] H := hP
  have hD : va_D A [(h0, .inr (8, [.ref q1, .ref q2, .ref q3, .null, .null, .null, .null, .null, .int 0, .int 0, .int 0, .int 0])), (q1, .inl (cI, 1600, .inl (fun _ => 0))), (q2, .inl (cM, 10, .inr (.inr (.inr (.inr (fun _ => none)))))), (q3, .inl (cI, 48, .inl (fun _ => 0))), (q4, .inr (7, [.null, .null, .null, .null, .int 0]))] := hD
  refine W.widen (k := 4) (n := 1663) (by decide) (by decide) ?_
  refine lv_dup hx hb dX8_init_34 rfl ?_
  have hPc := hP.sub (ws' := [(q4, .inr (7, [.null, .null, .null, .null, .int 0]))]) [4] rfl
  have hDc := hD.sub (ws' := [(q4, .inr (7, [.null, .null, .null, .null, .int 0]))]) [4] (by decide) rfl
  have hFc := va_free (wc := [(q4, .inr (7, [.null, .null, .null, .null, .int 0]))]) hD hS hA [4] rfl
  refine va_callv (va_runIN (As := []) (rest := [.ref q4, .ref h0]) ⟨hx, hb, hml, hown, hts⟩ (k_X7_init l D cI cJ cZ cM q4 _) ⟨(va_cnB 0 hts gX8_init_X7_init_n24 rfl rfl rfl (hN.2.1 (RX8, 24, yX7_init, "BuoyTender") (by decide +kernel)) (hts (.initialized RX7) (by decide +kernel)) (by decide +kernel) ⟨Nat.le_of_ble_eq_true rfl, Nat.le_of_ble_eq_true rfl⟩), rfl, hts (.instanceMethod yX7_init) (by decide +kernel)⟩ (rw_S hG hPc hDc) rfl rfl hl.1 rfl (lv_room (Nat.le_of_ble_eq_true rfl)) dX8_init_35 ⟨Nat.le_of_ble_eq_true rfl, Nat.le_of_ble_eq_true rfl⟩) hS (fun q _ h => hFc q h) hFc (fun u_5 t_5 H1 locs ht hvm hw hB hz1 hk1 hS => ?_)
  obtain ⟨y0_5, y1_5, y2_5, y3_5⟩ := u_5
  obtain ⟨hP1, hD1⟩ := hB
  rw [ht] at hP1
  obtain ⟨hP, hD⟩ := va_join (wr := [(h0, .inr (8, [.ref q1, .ref q2, .ref q3, .null, .null, .null, .null, .null, .int 0, .int 0, .int 0, .int 0])), (q1, .inl (cI, 1600, .inl (fun _ => 0))), (q2, .inl (cM, 10, .inr (.inr (.inr (.inr (fun _ => none)))))), (q3, .inl (cI, 48, .inl (fun _ => 0)))]) (w1 := [(q4, .inr (7, [.ref y0_5, .ref y1_5, .ref y2_5, .ref y3_5, .int 0])), (y0_5, .inl (cI, 100, .inl (fun _ => 0))), (y1_5, .inl (cI, 100, .inl (fun _ => 0))), (y2_5, .inl (cI, 100, .inl (fun _ => 0))), (y3_5, .inl (cI, 100, .inl (fun _ => 0)))]) hP hD [4] [0, 1, 2, 3] rfl rfl (by decide) (by decide) hk1 hFc hP1 hD1
  generalize H1 = H at hP hS ⊢
  have hP : va_P D vwCl [(h0, .inr (8, [.ref q1, .ref q2, .ref q3, .null, .null, .null, .null, .null, .int 0, .int 0, .int 0, .int 0])), (q1, .inl (cI, 1600, .inl (fun _ => 0))), (q2, .inl (cM, 10, .inr (.inr (.inr (.inr (fun _ => none)))))), (q3, .inl (cI, 48, .inl (fun _ => 0))), (q4, .inr (7, [.ref y0_5, .ref y1_5, .ref y2_5, .ref y3_5, .int 0])), (y0_5, .inl (cI, 100, .inl (fun _ => 0))), (y1_5, .inl (cI, 100, .inl (fun _ => 0))), (y2_5, .inl (cI, 100, .inl (fun _ => 0))), (y3_5, .inl (cI, 100, .inl (fun _ => 0)))] H := hP
  have hD : va_D A [(h0, .inr (8, [.ref q1, .ref q2, .ref q3, .null, .null, .null, .null, .null, .int 0, .int 0, .int 0, .int 0])), (q1, .inl (cI, 1600, .inl (fun _ => 0))), (q2, .inl (cM, 10, .inr (.inr (.inr (.inr (fun _ => none)))))), (q3, .inl (cI, 48, .inl (fun _ => 0))), (q4, .inr (7, [.ref y0_5, .ref y1_5, .ref y2_5, .ref y3_5, .int 0])), (y0_5, .inl (cI, 100, .inl (fun _ => 0))), (y1_5, .inl (cI, 100, .inl (fun _ => 0))), (y2_5, .inl (cI, 100, .inl (fun _ => 0))), (y3_5, .inl (cI, 100, .inl (fun _ => 0)))] := hD
  refine W.widen (k := 8) (n := 2063) (by decide) (by decide) ?_
  refine va_putF (D := D) (ci := 8) (v := .ref q4) (ty := (tyX8 3)) (C := RX8) (T := TX8) (N := 12) hx hb hts (fun _ h9 => List.mem_cons_of_mem _ (List.mem_append_left _ (List.mem_append_left _ (List.mem_append_left _ (List.mem_append_left _ (List.mem_append_right _ h9)))))) tyX8 tyX8_ok nmX8 hown hK hP hD hS 0 rfl rfl 3 (by decide) (hts (.fieldLink RX8 25 "BuoyTender" "warnings" "LBuoyTender$Warnings;") (by decide +kernel)) (fun _ h9 => h9) rfl hin rfl (by decide +kernel) rfl rfl (Nat.le_of_ble_eq_true rfl) dX8_init_38 (fun H locs hP hD hS => ?_)
  have hP : va_P D vwCl [(h0, .inr (8, [.ref q1, .ref q2, .ref q3, .ref q4, .null, .null, .null, .null, .int 0, .int 0, .int 0, .int 0])), (q1, .inl (cI, 1600, .inl (fun _ => 0))), (q2, .inl (cM, 10, .inr (.inr (.inr (.inr (fun _ => none)))))), (q3, .inl (cI, 48, .inl (fun _ => 0))), (q4, .inr (7, [.ref y0_5, .ref y1_5, .ref y2_5, .ref y3_5, .int 0])), (y0_5, .inl (cI, 100, .inl (fun _ => 0))), (y1_5, .inl (cI, 100, .inl (fun _ => 0))), (y2_5, .inl (cI, 100, .inl (fun _ => 0))), (y3_5, .inl (cI, 100, .inl (fun _ => 0)))] H := hP
  have hD : va_D A [(h0, .inr (8, [.ref q1, .ref q2, .ref q3, .ref q4, .null, .null, .null, .null, .int 0, .int 0, .int 0, .int 0])), (q1, .inl (cI, 1600, .inl (fun _ => 0))), (q2, .inl (cM, 10, .inr (.inr (.inr (.inr (fun _ => none)))))), (q3, .inl (cI, 48, .inl (fun _ => 0))), (q4, .inr (7, [.ref y0_5, .ref y1_5, .ref y2_5, .ref y3_5, .int 0])), (y0_5, .inl (cI, 100, .inl (fun _ => 0))), (y1_5, .inl (cI, 100, .inl (fun _ => 0))), (y2_5, .inl (cI, 100, .inl (fun _ => 0))), (y3_5, .inl (cI, 100, .inl (fun _ => 0)))] := hD
  refine lv_aload_n hx hb dX8_init_41 rfl (lv_at hl 0 rfl) ?_
  refine va_new (ci := 4) (fs := [.null, .null, .int 0, .int 0, .int 0, .int 0, .int 0, .int 0, .int 0, .int 0]) (C := RX4) (T := TX4) (N := 10) hx hb hts (fun _ h9 => List.mem_cons_of_mem _ (List.mem_append_left _ (List.mem_append_left _ (List.mem_append_right _ h9)))) tyX4 tyX4_ok hown (hts (.classLink RX8 29 RX4) (by decide +kernel)) (hts (.instantiable RX4 10) (by decide +kernel)) (hts (.initialized RX4) (by decide +kernel)) hK hP hD hS hA rfl (fun j hj => by rcases (show j = 0 ∨ j = 1 ∨ j = 2 ∨ j = 3 ∨ j = 4 ∨ j = 5 ∨ j = 6 ∨ j = 7 ∨ j = 8 ∨ j = 9 by omega) with rfl | rfl | rfl | rfl | rfl | rfl | rfl | rfl | rfl | rfl <;> rfl) (Nat.le_of_ble_eq_true rfl) (Nat.le_of_ble_eq_true rfl) dX8_init_42 (fun q6 H hP hD hS => ?_)
  have hP : va_P D vwCl [(h0, .inr (8, [.ref q1, .ref q2, .ref q3, .ref q4, .null, .null, .null, .null, .int 0, .int 0, .int 0, .int 0])), (q1, .inl (cI, 1600, .inl (fun _ => 0))), (q2, .inl (cM, 10, .inr (.inr (.inr (.inr (fun _ => none)))))), (q3, .inl (cI, 48, .inl (fun _ => 0))), (q4, .inr (7, [.ref y0_5, .ref y1_5, .ref y2_5, .ref y3_5, .int 0])), (y0_5, .inl (cI, 100, .inl (fun _ => 0))), (y1_5, .inl (cI, 100, .inl (fun _ => 0))), (y2_5, .inl (cI, 100, .inl (fun _ => 0))), (y3_5, .inl (cI, 100, .inl (fun _ => 0))), (q6, .inr (4, [.null, .null, .int 0, .int 0, .int 0, .int 0, .int 0, .int 0, .int 0, .int 0]))] H := hP
  have hD : va_D A [(h0, .inr (8, [.ref q1, .ref q2, .ref q3, .ref q4, .null, .null, .null, .null, .int 0, .int 0, .int 0, .int 0])), (q1, .inl (cI, 1600, .inl (fun _ => 0))), (q2, .inl (cM, 10, .inr (.inr (.inr (.inr (fun _ => none)))))), (q3, .inl (cI, 48, .inl (fun _ => 0))), (q4, .inr (7, [.ref y0_5, .ref y1_5, .ref y2_5, .ref y3_5, .int 0])), (y0_5, .inl (cI, 100, .inl (fun _ => 0))), (y1_5, .inl (cI, 100, .inl (fun _ => 0))), (y2_5, .inl (cI, 100, .inl (fun _ => 0))), (y3_5, .inl (cI, 100, .inl (fun _ => 0))), (q6, .inr (4, [.null, .null, .int 0, .int 0, .int 0, .int 0, .int 0, .int 0, .int 0, .int 0]))] := hD
  refine W.widen (k := 9) (n := 2073) (by decide) (by decide) ?_
  refine lv_dup hx hb dX8_init_45 rfl ?_
  have hPc := hP.sub (ws' := [(q6, .inr (4, [.null, .null, .int 0, .int 0, .int 0, .int 0, .int 0, .int 0, .int 0, .int 0]))]) [9] rfl
  have hDc := hD.sub (ws' := [(q6, .inr (4, [.null, .null, .int 0, .int 0, .int 0, .int 0, .int 0, .int 0, .int 0, .int 0]))]) [9] (by decide) rfl
  have hFc := va_free (wc := [(q6, .inr (4, [.null, .null, .int 0, .int 0, .int 0, .int 0, .int 0, .int 0, .int 0, .int 0]))]) hD hS hA [9] rfl
  refine va_callv (va_runIN (As := []) (rest := [.ref q6, .ref h0]) ⟨hx, hb, hml, hown, hts⟩ (k_X4_init l D cI cJ cZ cM q6 _) ⟨(va_cnB 0 hts gX8_init_X4_init_n31 rfl rfl rfl (hN.2.1 (RX8, 31, yX4_init, "BuoyTender") (by decide +kernel)) (hts (.initialized RX4) (by decide +kernel)) (by decide +kernel) ⟨Nat.le_of_ble_eq_true rfl, Nat.le_of_ble_eq_true rfl⟩), rfl, hts (.instanceMethod yX4_init) (by decide +kernel)⟩ (rw_S hG hPc hDc) rfl rfl hl.1 rfl (lv_room (Nat.le_of_ble_eq_true rfl)) dX8_init_46 ⟨Nat.le_of_ble_eq_true rfl, Nat.le_of_ble_eq_true rfl⟩) hS (fun q _ h => hFc q h) hFc (fun u_7 t_7 H1 locs ht hvm hw hB hz1 hk1 hS => ?_)
  obtain ⟨y0_7, y1_7⟩ := u_7
  obtain ⟨hP1, hD1⟩ := hB
  rw [ht] at hP1
  obtain ⟨hP, hD⟩ := va_join (wr := [(h0, .inr (8, [.ref q1, .ref q2, .ref q3, .ref q4, .null, .null, .null, .null, .int 0, .int 0, .int 0, .int 0])), (q1, .inl (cI, 1600, .inl (fun _ => 0))), (q2, .inl (cM, 10, .inr (.inr (.inr (.inr (fun _ => none)))))), (q3, .inl (cI, 48, .inl (fun _ => 0))), (q4, .inr (7, [.ref y0_5, .ref y1_5, .ref y2_5, .ref y3_5, .int 0])), (y0_5, .inl (cI, 100, .inl (fun _ => 0))), (y1_5, .inl (cI, 100, .inl (fun _ => 0))), (y2_5, .inl (cI, 100, .inl (fun _ => 0))), (y3_5, .inl (cI, 100, .inl (fun _ => 0)))]) (w1 := [(q6, .inr (4, [.ref y0_7, .ref y1_7, .int 0, .int 0, .int 0, .int 1440, .int 1, .int 0, .int 12, .int 0])), (y0_7, .inl (cI, 24, .inl (fun _ => 0))), (y1_7, .inl (cI, 24, .inl (fun _ => 0)))]) hP hD [9] [0, 1, 2, 3, 4, 5, 6, 7, 8] rfl rfl (by decide) (by decide) hk1 hFc hP1 hD1
  generalize H1 = H at hP hS ⊢
  have hP : va_P D vwCl [(h0, .inr (8, [.ref q1, .ref q2, .ref q3, .ref q4, .null, .null, .null, .null, .int 0, .int 0, .int 0, .int 0])), (q1, .inl (cI, 1600, .inl (fun _ => 0))), (q2, .inl (cM, 10, .inr (.inr (.inr (.inr (fun _ => none)))))), (q3, .inl (cI, 48, .inl (fun _ => 0))), (q4, .inr (7, [.ref y0_5, .ref y1_5, .ref y2_5, .ref y3_5, .int 0])), (y0_5, .inl (cI, 100, .inl (fun _ => 0))), (y1_5, .inl (cI, 100, .inl (fun _ => 0))), (y2_5, .inl (cI, 100, .inl (fun _ => 0))), (y3_5, .inl (cI, 100, .inl (fun _ => 0))), (q6, .inr (4, [.ref y0_7, .ref y1_7, .int 0, .int 0, .int 0, .int 1440, .int 1, .int 0, .int 12, .int 0])), (y0_7, .inl (cI, 24, .inl (fun _ => 0))), (y1_7, .inl (cI, 24, .inl (fun _ => 0)))] H := hP
  have hD : va_D A [(h0, .inr (8, [.ref q1, .ref q2, .ref q3, .ref q4, .null, .null, .null, .null, .int 0, .int 0, .int 0, .int 0])), (q1, .inl (cI, 1600, .inl (fun _ => 0))), (q2, .inl (cM, 10, .inr (.inr (.inr (.inr (fun _ => none)))))), (q3, .inl (cI, 48, .inl (fun _ => 0))), (q4, .inr (7, [.ref y0_5, .ref y1_5, .ref y2_5, .ref y3_5, .int 0])), (y0_5, .inl (cI, 100, .inl (fun _ => 0))), (y1_5, .inl (cI, 100, .inl (fun _ => 0))), (y2_5, .inl (cI, 100, .inl (fun _ => 0))), (y3_5, .inl (cI, 100, .inl (fun _ => 0))), (q6, .inr (4, [.ref y0_7, .ref y1_7, .int 0, .int 0, .int 0, .int 1440, .int 1, .int 0, .int 12, .int 0])), (y0_7, .inl (cI, 24, .inl (fun _ => 0))), (y1_7, .inl (cI, 24, .inl (fun _ => 0)))] := hD
  refine W.widen (k := 11) (n := 2121) (by decide) (by decide) ?_
  refine va_putF (D := D) (ci := 8) (v := .ref q6) (ty := (tyX8 4)) (C := RX8) (T := TX8) (N := 12) hx hb hts (fun _ h9 => List.mem_cons_of_mem _ (List.mem_append_left _ (List.mem_append_left _ (List.mem_append_left _ (List.mem_append_left _ (List.mem_append_right _ h9)))))) tyX8 tyX8_ok nmX8 hown hK hP hD hS 0 rfl rfl 4 (by decide) (hts (.fieldLink RX8 32 "BuoyTender" "vessel" "LBuoyTender$Ship;") (by decide +kernel)) (fun _ h9 => h9) rfl hin rfl (by decide +kernel) rfl rfl (Nat.le_of_ble_eq_true rfl) dX8_init_49 (fun H locs hP hD hS => ?_)
  have hP : va_P D vwCl [(h0, .inr (8, [.ref q1, .ref q2, .ref q3, .ref q4, .ref q6, .null, .null, .null, .int 0, .int 0, .int 0, .int 0])), (q1, .inl (cI, 1600, .inl (fun _ => 0))), (q2, .inl (cM, 10, .inr (.inr (.inr (.inr (fun _ => none)))))), (q3, .inl (cI, 48, .inl (fun _ => 0))), (q4, .inr (7, [.ref y0_5, .ref y1_5, .ref y2_5, .ref y3_5, .int 0])), (y0_5, .inl (cI, 100, .inl (fun _ => 0))), (y1_5, .inl (cI, 100, .inl (fun _ => 0))), (y2_5, .inl (cI, 100, .inl (fun _ => 0))), (y3_5, .inl (cI, 100, .inl (fun _ => 0))), (q6, .inr (4, [.ref y0_7, .ref y1_7, .int 0, .int 0, .int 0, .int 1440, .int 1, .int 0, .int 12, .int 0])), (y0_7, .inl (cI, 24, .inl (fun _ => 0))), (y1_7, .inl (cI, 24, .inl (fun _ => 0)))] H := hP
  have hD : va_D A [(h0, .inr (8, [.ref q1, .ref q2, .ref q3, .ref q4, .ref q6, .null, .null, .null, .int 0, .int 0, .int 0, .int 0])), (q1, .inl (cI, 1600, .inl (fun _ => 0))), (q2, .inl (cM, 10, .inr (.inr (.inr (.inr (fun _ => none)))))), (q3, .inl (cI, 48, .inl (fun _ => 0))), (q4, .inr (7, [.ref y0_5, .ref y1_5, .ref y2_5, .ref y3_5, .int 0])), (y0_5, .inl (cI, 100, .inl (fun _ => 0))), (y1_5, .inl (cI, 100, .inl (fun _ => 0))), (y2_5, .inl (cI, 100, .inl (fun _ => 0))), (y3_5, .inl (cI, 100, .inl (fun _ => 0))), (q6, .inr (4, [.ref y0_7, .ref y1_7, .int 0, .int 0, .int 0, .int 1440, .int 1, .int 0, .int 12, .int 0])), (y0_7, .inl (cI, 24, .inl (fun _ => 0))), (y1_7, .inl (cI, 24, .inl (fun _ => 0)))] := hD
  refine lv_aload_n hx hb dX8_init_52 rfl (lv_at hl 0 rfl) ?_
  refine va_new (ci := 6) (fs := [.int 0, .int 0, .int 0, .int 0, .int 0, .int 0]) (C := RX6) (T := TX6) (N := 6) hx hb hts (fun _ h9 => List.mem_cons_of_mem _ (List.mem_append_left _ (List.mem_append_right _ h9))) tyX6 tyX6_ok hown (hts (.classLink RX8 36 RX6) (by decide +kernel)) (hts (.instantiable RX6 6) (by decide +kernel)) (hts (.initialized RX6) (by decide +kernel)) hK hP hD hS hA rfl (fun j hj => by rcases (show j = 0 ∨ j = 1 ∨ j = 2 ∨ j = 3 ∨ j = 4 ∨ j = 5 by omega) with rfl | rfl | rfl | rfl | rfl | rfl <;> rfl) (Nat.le_of_ble_eq_true rfl) (Nat.le_of_ble_eq_true rfl) dX8_init_53 (fun q8 H hP hD hS => ?_)
  have hP : va_P D vwCl [(h0, .inr (8, [.ref q1, .ref q2, .ref q3, .ref q4, .ref q6, .null, .null, .null, .int 0, .int 0, .int 0, .int 0])), (q1, .inl (cI, 1600, .inl (fun _ => 0))), (q2, .inl (cM, 10, .inr (.inr (.inr (.inr (fun _ => none)))))), (q3, .inl (cI, 48, .inl (fun _ => 0))), (q4, .inr (7, [.ref y0_5, .ref y1_5, .ref y2_5, .ref y3_5, .int 0])), (y0_5, .inl (cI, 100, .inl (fun _ => 0))), (y1_5, .inl (cI, 100, .inl (fun _ => 0))), (y2_5, .inl (cI, 100, .inl (fun _ => 0))), (y3_5, .inl (cI, 100, .inl (fun _ => 0))), (q6, .inr (4, [.ref y0_7, .ref y1_7, .int 0, .int 0, .int 0, .int 1440, .int 1, .int 0, .int 12, .int 0])), (y0_7, .inl (cI, 24, .inl (fun _ => 0))), (y1_7, .inl (cI, 24, .inl (fun _ => 0))), (q8, .inr (6, [.int 0, .int 0, .int 0, .int 0, .int 0, .int 0]))] H := hP
  have hD : va_D A [(h0, .inr (8, [.ref q1, .ref q2, .ref q3, .ref q4, .ref q6, .null, .null, .null, .int 0, .int 0, .int 0, .int 0])), (q1, .inl (cI, 1600, .inl (fun _ => 0))), (q2, .inl (cM, 10, .inr (.inr (.inr (.inr (fun _ => none)))))), (q3, .inl (cI, 48, .inl (fun _ => 0))), (q4, .inr (7, [.ref y0_5, .ref y1_5, .ref y2_5, .ref y3_5, .int 0])), (y0_5, .inl (cI, 100, .inl (fun _ => 0))), (y1_5, .inl (cI, 100, .inl (fun _ => 0))), (y2_5, .inl (cI, 100, .inl (fun _ => 0))), (y3_5, .inl (cI, 100, .inl (fun _ => 0))), (q6, .inr (4, [.ref y0_7, .ref y1_7, .int 0, .int 0, .int 0, .int 1440, .int 1, .int 0, .int 12, .int 0])), (y0_7, .inl (cI, 24, .inl (fun _ => 0))), (y1_7, .inl (cI, 24, .inl (fun _ => 0))), (q8, .inr (6, [.int 0, .int 0, .int 0, .int 0, .int 0, .int 0]))] := hD
  refine W.widen (k := 12) (n := 2127) (by decide) (by decide) ?_
  refine lv_dup hx hb dX8_init_56 rfl ?_
  have hPc := hP.sub (ws' := [(q8, .inr (6, [.int 0, .int 0, .int 0, .int 0, .int 0, .int 0]))]) [12] rfl
  have hDc := hD.sub (ws' := [(q8, .inr (6, [.int 0, .int 0, .int 0, .int 0, .int 0, .int 0]))]) [12] (by decide) rfl
  have hFc := va_free (wc := [(q8, .inr (6, [.int 0, .int 0, .int 0, .int 0, .int 0, .int 0]))]) hD hS hA [12] rfl
  refine va_callv (va_runIN (As := []) (rest := [.ref q8, .ref h0]) ⟨hx, hb, hml, hown, hts⟩ (k_X6_init l D cI cJ cZ cM q8 _) ⟨(va_cnB 0 hts gX8_init_X6_init_n38 rfl rfl rfl (hN.2.1 (RX8, 38, yX6_init, "BuoyTender") (by decide +kernel)) (hts (.initialized RX6) (by decide +kernel)) (by decide +kernel) ⟨Nat.le_of_ble_eq_true rfl, Nat.le_of_ble_eq_true rfl⟩), rfl, hts (.instanceMethod yX6_init) (by decide +kernel)⟩ (rw_S hG hPc hDc) rfl rfl hl.1 rfl (lv_room (Nat.le_of_ble_eq_true rfl)) dX8_init_57 ⟨Nat.le_of_ble_eq_true rfl, Nat.le_of_ble_eq_true rfl⟩) hS (fun q _ h => hFc q h) hFc (fun u_9 t_9 H1 locs ht hvm hw hB hz1 hk1 hS => ?_)
  obtain ⟨hP1, hD1⟩ := hB
  rw [ht] at hP1
  obtain ⟨hP, hD⟩ := va_join (wr := [(h0, .inr (8, [.ref q1, .ref q2, .ref q3, .ref q4, .ref q6, .null, .null, .null, .int 0, .int 0, .int 0, .int 0])), (q1, .inl (cI, 1600, .inl (fun _ => 0))), (q2, .inl (cM, 10, .inr (.inr (.inr (.inr (fun _ => none)))))), (q3, .inl (cI, 48, .inl (fun _ => 0))), (q4, .inr (7, [.ref y0_5, .ref y1_5, .ref y2_5, .ref y3_5, .int 0])), (y0_5, .inl (cI, 100, .inl (fun _ => 0))), (y1_5, .inl (cI, 100, .inl (fun _ => 0))), (y2_5, .inl (cI, 100, .inl (fun _ => 0))), (y3_5, .inl (cI, 100, .inl (fun _ => 0))), (q6, .inr (4, [.ref y0_7, .ref y1_7, .int 0, .int 0, .int 0, .int 1440, .int 1, .int 0, .int 12, .int 0])), (y0_7, .inl (cI, 24, .inl (fun _ => 0))), (y1_7, .inl (cI, 24, .inl (fun _ => 0)))]) (w1 := [(q8, .inr (6, [.int 0, .int 0, .int 0, .int 0, .int 0, .int 0]))]) hP hD [12] [0, 1, 2, 3, 4, 5, 6, 7, 8, 9, 10, 11] rfl rfl (by decide) (by decide) hk1 hFc hP1 hD1
  generalize H1 = H at hP hS ⊢
  have hP : va_P D vwCl [(h0, .inr (8, [.ref q1, .ref q2, .ref q3, .ref q4, .ref q6, .null, .null, .null, .int 0, .int 0, .int 0, .int 0])), (q1, .inl (cI, 1600, .inl (fun _ => 0))), (q2, .inl (cM, 10, .inr (.inr (.inr (.inr (fun _ => none)))))), (q3, .inl (cI, 48, .inl (fun _ => 0))), (q4, .inr (7, [.ref y0_5, .ref y1_5, .ref y2_5, .ref y3_5, .int 0])), (y0_5, .inl (cI, 100, .inl (fun _ => 0))), (y1_5, .inl (cI, 100, .inl (fun _ => 0))), (y2_5, .inl (cI, 100, .inl (fun _ => 0))), (y3_5, .inl (cI, 100, .inl (fun _ => 0))), (q6, .inr (4, [.ref y0_7, .ref y1_7, .int 0, .int 0, .int 0, .int 1440, .int 1, .int 0, .int 12, .int 0])), (y0_7, .inl (cI, 24, .inl (fun _ => 0))), (y1_7, .inl (cI, 24, .inl (fun _ => 0))), (q8, .inr (6, [.int 0, .int 0, .int 0, .int 0, .int 0, .int 0]))] H := hP
  have hD : va_D A [(h0, .inr (8, [.ref q1, .ref q2, .ref q3, .ref q4, .ref q6, .null, .null, .null, .int 0, .int 0, .int 0, .int 0])), (q1, .inl (cI, 1600, .inl (fun _ => 0))), (q2, .inl (cM, 10, .inr (.inr (.inr (.inr (fun _ => none)))))), (q3, .inl (cI, 48, .inl (fun _ => 0))), (q4, .inr (7, [.ref y0_5, .ref y1_5, .ref y2_5, .ref y3_5, .int 0])), (y0_5, .inl (cI, 100, .inl (fun _ => 0))), (y1_5, .inl (cI, 100, .inl (fun _ => 0))), (y2_5, .inl (cI, 100, .inl (fun _ => 0))), (y3_5, .inl (cI, 100, .inl (fun _ => 0))), (q6, .inr (4, [.ref y0_7, .ref y1_7, .int 0, .int 0, .int 0, .int 1440, .int 1, .int 0, .int 12, .int 0])), (y0_7, .inl (cI, 24, .inl (fun _ => 0))), (y1_7, .inl (cI, 24, .inl (fun _ => 0))), (q8, .inr (6, [.int 0, .int 0, .int 0, .int 0, .int 0, .int 0]))] := hD
  refine va_putF (D := D) (ci := 8) (v := .ref q8) (ty := (tyX8 5)) (C := RX8) (T := TX8) (N := 12) hx hb hts (fun _ h9 => List.mem_cons_of_mem _ (List.mem_append_left _ (List.mem_append_left _ (List.mem_append_left _ (List.mem_append_left _ (List.mem_append_right _ h9)))))) tyX8 tyX8_ok nmX8 hown hK hP hD hS 0 rfl rfl 5 (by decide) (hts (.fieldLink RX8 39 "BuoyTender" "survey" "LBuoyTender$Survey;") (by decide +kernel)) (fun _ h9 => h9) rfl hin rfl (by decide +kernel) rfl rfl (Nat.le_of_ble_eq_true rfl) dX8_init_60 (fun H locs hP hD hS => ?_)
  have hP : va_P D vwCl [(h0, .inr (8, [.ref q1, .ref q2, .ref q3, .ref q4, .ref q6, .ref q8, .null, .null, .int 0, .int 0, .int 0, .int 0])), (q1, .inl (cI, 1600, .inl (fun _ => 0))), (q2, .inl (cM, 10, .inr (.inr (.inr (.inr (fun _ => none)))))), (q3, .inl (cI, 48, .inl (fun _ => 0))), (q4, .inr (7, [.ref y0_5, .ref y1_5, .ref y2_5, .ref y3_5, .int 0])), (y0_5, .inl (cI, 100, .inl (fun _ => 0))), (y1_5, .inl (cI, 100, .inl (fun _ => 0))), (y2_5, .inl (cI, 100, .inl (fun _ => 0))), (y3_5, .inl (cI, 100, .inl (fun _ => 0))), (q6, .inr (4, [.ref y0_7, .ref y1_7, .int 0, .int 0, .int 0, .int 1440, .int 1, .int 0, .int 12, .int 0])), (y0_7, .inl (cI, 24, .inl (fun _ => 0))), (y1_7, .inl (cI, 24, .inl (fun _ => 0))), (q8, .inr (6, [.int 0, .int 0, .int 0, .int 0, .int 0, .int 0]))] H := hP
  have hD : va_D A [(h0, .inr (8, [.ref q1, .ref q2, .ref q3, .ref q4, .ref q6, .ref q8, .null, .null, .int 0, .int 0, .int 0, .int 0])), (q1, .inl (cI, 1600, .inl (fun _ => 0))), (q2, .inl (cM, 10, .inr (.inr (.inr (.inr (fun _ => none)))))), (q3, .inl (cI, 48, .inl (fun _ => 0))), (q4, .inr (7, [.ref y0_5, .ref y1_5, .ref y2_5, .ref y3_5, .int 0])), (y0_5, .inl (cI, 100, .inl (fun _ => 0))), (y1_5, .inl (cI, 100, .inl (fun _ => 0))), (y2_5, .inl (cI, 100, .inl (fun _ => 0))), (y3_5, .inl (cI, 100, .inl (fun _ => 0))), (q6, .inr (4, [.ref y0_7, .ref y1_7, .int 0, .int 0, .int 0, .int 1440, .int 1, .int 0, .int 12, .int 0])), (y0_7, .inl (cI, 24, .inl (fun _ => 0))), (y1_7, .inl (cI, 24, .inl (fun _ => 0))), (q8, .inr (6, [.int 0, .int 0, .int 0, .int 0, .int 0, .int 0]))] := hD
  refine lv_aload_n hx hb dX8_init_63 rfl (lv_at hl 0 rfl) ?_
  refine va_new (ci := 3) (fs := [.null, .int 0]) (C := RX3) (T := TX3) (N := 2) hx hb hts (fun _ h9 => List.mem_cons_of_mem _ (List.mem_append_right _ h9)) tyX3 tyX3_ok hown (hts (.classLink RX8 43 RX3) (by decide +kernel)) (hts (.instantiable RX3 2) (by decide +kernel)) (hts (.initialized RX3) (by decide +kernel)) hK hP hD hS hA rfl (fun j hj => by rcases (show j = 0 ∨ j = 1 by omega) with rfl | rfl <;> rfl) (Nat.le_of_ble_eq_true rfl) (Nat.le_of_ble_eq_true rfl) dX8_init_64 (fun q10 H hP hD hS => ?_)
  have hP : va_P D vwCl [(h0, .inr (8, [.ref q1, .ref q2, .ref q3, .ref q4, .ref q6, .ref q8, .null, .null, .int 0, .int 0, .int 0, .int 0])), (q1, .inl (cI, 1600, .inl (fun _ => 0))), (q2, .inl (cM, 10, .inr (.inr (.inr (.inr (fun _ => none)))))), (q3, .inl (cI, 48, .inl (fun _ => 0))), (q4, .inr (7, [.ref y0_5, .ref y1_5, .ref y2_5, .ref y3_5, .int 0])), (y0_5, .inl (cI, 100, .inl (fun _ => 0))), (y1_5, .inl (cI, 100, .inl (fun _ => 0))), (y2_5, .inl (cI, 100, .inl (fun _ => 0))), (y3_5, .inl (cI, 100, .inl (fun _ => 0))), (q6, .inr (4, [.ref y0_7, .ref y1_7, .int 0, .int 0, .int 0, .int 1440, .int 1, .int 0, .int 12, .int 0])), (y0_7, .inl (cI, 24, .inl (fun _ => 0))), (y1_7, .inl (cI, 24, .inl (fun _ => 0))), (q8, .inr (6, [.int 0, .int 0, .int 0, .int 0, .int 0, .int 0])), (q10, .inr (3, [.null, .int 0]))] H := hP
  have hD : va_D A [(h0, .inr (8, [.ref q1, .ref q2, .ref q3, .ref q4, .ref q6, .ref q8, .null, .null, .int 0, .int 0, .int 0, .int 0])), (q1, .inl (cI, 1600, .inl (fun _ => 0))), (q2, .inl (cM, 10, .inr (.inr (.inr (.inr (fun _ => none)))))), (q3, .inl (cI, 48, .inl (fun _ => 0))), (q4, .inr (7, [.ref y0_5, .ref y1_5, .ref y2_5, .ref y3_5, .int 0])), (y0_5, .inl (cI, 100, .inl (fun _ => 0))), (y1_5, .inl (cI, 100, .inl (fun _ => 0))), (y2_5, .inl (cI, 100, .inl (fun _ => 0))), (y3_5, .inl (cI, 100, .inl (fun _ => 0))), (q6, .inr (4, [.ref y0_7, .ref y1_7, .int 0, .int 0, .int 0, .int 1440, .int 1, .int 0, .int 12, .int 0])), (y0_7, .inl (cI, 24, .inl (fun _ => 0))), (y1_7, .inl (cI, 24, .inl (fun _ => 0))), (q8, .inr (6, [.int 0, .int 0, .int 0, .int 0, .int 0, .int 0])), (q10, .inr (3, [.null, .int 0]))] := hD
  refine W.widen (k := 13) (n := 2129) (by decide) (by decide) ?_
  refine lv_dup hx hb dX8_init_67 rfl ?_
  have hPc := hP.sub (ws' := [(q10, .inr (3, [.null, .int 0]))]) [13] rfl
  have hDc := hD.sub (ws' := [(q10, .inr (3, [.null, .int 0]))]) [13] (by decide) rfl
  have hFc := va_free (wc := [(q10, .inr (3, [.null, .int 0]))]) hD hS hA [13] rfl
  refine va_callv (va_runIN (As := []) (rest := [.ref q10, .ref h0]) ⟨hx, hb, hml, hown, hts⟩ (k_X3_init l D cI cJ cZ cM q10 _) ⟨(va_cnB 0 hts gX8_init_X3_init_n45 rfl rfl rfl (hN.2.1 (RX8, 45, yX3_init, "BuoyTender") (by decide +kernel)) (hts (.initialized RX3) (by decide +kernel)) (by decide +kernel) ⟨Nat.le_of_ble_eq_true rfl, Nat.le_of_ble_eq_true rfl⟩), rfl, hts (.instanceMethod yX3_init) (by decide +kernel)⟩ (rw_S hG hPc hDc) rfl rfl hl.1 rfl (lv_room (Nat.le_of_ble_eq_true rfl)) dX8_init_68 ⟨Nat.le_of_ble_eq_true rfl, Nat.le_of_ble_eq_true rfl⟩) hS (fun q _ h => hFc q h) hFc (fun u_11 t_11 H1 locs ht hvm hw hB hz1 hk1 hS => ?_)
  obtain ⟨y0_11, rfl⟩ : ∃ z, z = u_11 := ⟨_, rfl⟩
  obtain ⟨hP1, hD1⟩ := hB
  rw [ht] at hP1
  obtain ⟨hP, hD⟩ := va_join (wr := [(h0, .inr (8, [.ref q1, .ref q2, .ref q3, .ref q4, .ref q6, .ref q8, .null, .null, .int 0, .int 0, .int 0, .int 0])), (q1, .inl (cI, 1600, .inl (fun _ => 0))), (q2, .inl (cM, 10, .inr (.inr (.inr (.inr (fun _ => none)))))), (q3, .inl (cI, 48, .inl (fun _ => 0))), (q4, .inr (7, [.ref y0_5, .ref y1_5, .ref y2_5, .ref y3_5, .int 0])), (y0_5, .inl (cI, 100, .inl (fun _ => 0))), (y1_5, .inl (cI, 100, .inl (fun _ => 0))), (y2_5, .inl (cI, 100, .inl (fun _ => 0))), (y3_5, .inl (cI, 100, .inl (fun _ => 0))), (q6, .inr (4, [.ref y0_7, .ref y1_7, .int 0, .int 0, .int 0, .int 1440, .int 1, .int 0, .int 12, .int 0])), (y0_7, .inl (cI, 24, .inl (fun _ => 0))), (y1_7, .inl (cI, 24, .inl (fun _ => 0))), (q8, .inr (6, [.int 0, .int 0, .int 0, .int 0, .int 0, .int 0]))]) (w1 := [(q10, .inr (3, [.ref y0_11, .int 0])), (y0_11, .inl (cI, 8, .inl (fun _ => 0)))]) hP hD [13] [0, 1, 2, 3, 4, 5, 6, 7, 8, 9, 10, 11, 12] rfl rfl (by decide) (by decide) hk1 hFc hP1 hD1
  generalize H1 = H at hP hS ⊢
  have hP : va_P D vwCl [(h0, .inr (8, [.ref q1, .ref q2, .ref q3, .ref q4, .ref q6, .ref q8, .null, .null, .int 0, .int 0, .int 0, .int 0])), (q1, .inl (cI, 1600, .inl (fun _ => 0))), (q2, .inl (cM, 10, .inr (.inr (.inr (.inr (fun _ => none)))))), (q3, .inl (cI, 48, .inl (fun _ => 0))), (q4, .inr (7, [.ref y0_5, .ref y1_5, .ref y2_5, .ref y3_5, .int 0])), (y0_5, .inl (cI, 100, .inl (fun _ => 0))), (y1_5, .inl (cI, 100, .inl (fun _ => 0))), (y2_5, .inl (cI, 100, .inl (fun _ => 0))), (y3_5, .inl (cI, 100, .inl (fun _ => 0))), (q6, .inr (4, [.ref y0_7, .ref y1_7, .int 0, .int 0, .int 0, .int 1440, .int 1, .int 0, .int 12, .int 0])), (y0_7, .inl (cI, 24, .inl (fun _ => 0))), (y1_7, .inl (cI, 24, .inl (fun _ => 0))), (q8, .inr (6, [.int 0, .int 0, .int 0, .int 0, .int 0, .int 0])), (q10, .inr (3, [.ref y0_11, .int 0])), (y0_11, .inl (cI, 8, .inl (fun _ => 0)))] H := hP
  have hD : va_D A [(h0, .inr (8, [.ref q1, .ref q2, .ref q3, .ref q4, .ref q6, .ref q8, .null, .null, .int 0, .int 0, .int 0, .int 0])), (q1, .inl (cI, 1600, .inl (fun _ => 0))), (q2, .inl (cM, 10, .inr (.inr (.inr (.inr (fun _ => none)))))), (q3, .inl (cI, 48, .inl (fun _ => 0))), (q4, .inr (7, [.ref y0_5, .ref y1_5, .ref y2_5, .ref y3_5, .int 0])), (y0_5, .inl (cI, 100, .inl (fun _ => 0))), (y1_5, .inl (cI, 100, .inl (fun _ => 0))), (y2_5, .inl (cI, 100, .inl (fun _ => 0))), (y3_5, .inl (cI, 100, .inl (fun _ => 0))), (q6, .inr (4, [.ref y0_7, .ref y1_7, .int 0, .int 0, .int 0, .int 1440, .int 1, .int 0, .int 12, .int 0])), (y0_7, .inl (cI, 24, .inl (fun _ => 0))), (y1_7, .inl (cI, 24, .inl (fun _ => 0))), (q8, .inr (6, [.int 0, .int 0, .int 0, .int 0, .int 0, .int 0])), (q10, .inr (3, [.ref y0_11, .int 0])), (y0_11, .inl (cI, 8, .inl (fun _ => 0)))] := hD
  refine W.widen (k := 14) (n := 2137) (by decide) (by decide) ?_
  refine va_putF (D := D) (ci := 8) (v := .ref q10) (ty := (tyX8 6)) (C := RX8) (T := TX8) (N := 12) hx hb hts (fun _ h9 => List.mem_cons_of_mem _ (List.mem_append_left _ (List.mem_append_left _ (List.mem_append_left _ (List.mem_append_left _ (List.mem_append_right _ h9)))))) tyX8 tyX8_ok nmX8 hown hK hP hD hS 0 rfl rfl 6 (by decide) (hts (.fieldLink RX8 46 "BuoyTender" "proposed" "LBuoyTender$Rhythm;") (by decide +kernel)) (fun _ h9 => h9) rfl hin rfl (by decide +kernel) rfl rfl (Nat.le_of_ble_eq_true rfl) dX8_init_71 (fun H locs hP hD hS => ?_)
  have hP : va_P D vwCl [(h0, .inr (8, [.ref q1, .ref q2, .ref q3, .ref q4, .ref q6, .ref q8, .ref q10, .null, .int 0, .int 0, .int 0, .int 0])), (q1, .inl (cI, 1600, .inl (fun _ => 0))), (q2, .inl (cM, 10, .inr (.inr (.inr (.inr (fun _ => none)))))), (q3, .inl (cI, 48, .inl (fun _ => 0))), (q4, .inr (7, [.ref y0_5, .ref y1_5, .ref y2_5, .ref y3_5, .int 0])), (y0_5, .inl (cI, 100, .inl (fun _ => 0))), (y1_5, .inl (cI, 100, .inl (fun _ => 0))), (y2_5, .inl (cI, 100, .inl (fun _ => 0))), (y3_5, .inl (cI, 100, .inl (fun _ => 0))), (q6, .inr (4, [.ref y0_7, .ref y1_7, .int 0, .int 0, .int 0, .int 1440, .int 1, .int 0, .int 12, .int 0])), (y0_7, .inl (cI, 24, .inl (fun _ => 0))), (y1_7, .inl (cI, 24, .inl (fun _ => 0))), (q8, .inr (6, [.int 0, .int 0, .int 0, .int 0, .int 0, .int 0])), (q10, .inr (3, [.ref y0_11, .int 0])), (y0_11, .inl (cI, 8, .inl (fun _ => 0)))] H := hP
  have hD : va_D A [(h0, .inr (8, [.ref q1, .ref q2, .ref q3, .ref q4, .ref q6, .ref q8, .ref q10, .null, .int 0, .int 0, .int 0, .int 0])), (q1, .inl (cI, 1600, .inl (fun _ => 0))), (q2, .inl (cM, 10, .inr (.inr (.inr (.inr (fun _ => none)))))), (q3, .inl (cI, 48, .inl (fun _ => 0))), (q4, .inr (7, [.ref y0_5, .ref y1_5, .ref y2_5, .ref y3_5, .int 0])), (y0_5, .inl (cI, 100, .inl (fun _ => 0))), (y1_5, .inl (cI, 100, .inl (fun _ => 0))), (y2_5, .inl (cI, 100, .inl (fun _ => 0))), (y3_5, .inl (cI, 100, .inl (fun _ => 0))), (q6, .inr (4, [.ref y0_7, .ref y1_7, .int 0, .int 0, .int 0, .int 1440, .int 1, .int 0, .int 12, .int 0])), (y0_7, .inl (cI, 24, .inl (fun _ => 0))), (y1_7, .inl (cI, 24, .inl (fun _ => 0))), (q8, .inr (6, [.int 0, .int 0, .int 0, .int 0, .int 0, .int 0])), (q10, .inr (3, [.ref y0_11, .int 0])), (y0_11, .inl (cI, 8, .inl (fun _ => 0)))] := hD
  have hP9 := hP.sub (ws' := [(h0, .inr (8, [.ref q1, .ref q2, .ref q3, .ref q4, .ref q6, .ref q8, .ref q10, .null, .int 0, .int 0, .int 0, .int 0])), (q1, .inl (cI, 1600, .inl (fun _ => 0))), (q2, .inl (cM, 10, .inr (.inr (.inr (.inr (fun _ => none)))))), (q3, .inl (cI, 48, .inl (fun _ => 0))), (q4, .inr (7, [.ref y0_5, .ref y1_5, .ref y2_5, .ref y3_5, .int 0])), (y0_5, .inl (cI, 100, .inl (fun _ => 0))), (y1_5, .inl (cI, 100, .inl (fun _ => 0))), (y2_5, .inl (cI, 100, .inl (fun _ => 0))), (y3_5, .inl (cI, 100, .inl (fun _ => 0))), (q6, .inr (4, [.ref y0_7, .ref y1_7, .int 0, .int 0, .int 0, .int 1440, .int 1, .int 0, .int 12, .int 0])), (y0_7, .inl (cI, 24, .inl (fun _ => 0))), (y1_7, .inl (cI, 24, .inl (fun _ => 0))), (q8, .inr (6, [.int 0, .int 0, .int 0, .int 0, .int 0, .int 0])), (q10, .inr (3, [.ref y0_11, .int 0])), (y0_11, .inl (cI, 8, .inl (fun _ => 0)))]) [0, 1, 2, 3, 4, 5, 6, 7, 8, 9, 10, 11, 12, 13, 14] rfl
  have hD9 := hD.sub (ws' := [(h0, .inr (8, [.ref q1, .ref q2, .ref q3, .ref q4, .ref q6, .ref q8, .ref q10, .null, .int 0, .int 0, .int 0, .int 0])), (q1, .inl (cI, 1600, .inl (fun _ => 0))), (q2, .inl (cM, 10, .inr (.inr (.inr (.inr (fun _ => none)))))), (q3, .inl (cI, 48, .inl (fun _ => 0))), (q4, .inr (7, [.ref y0_5, .ref y1_5, .ref y2_5, .ref y3_5, .int 0])), (y0_5, .inl (cI, 100, .inl (fun _ => 0))), (y1_5, .inl (cI, 100, .inl (fun _ => 0))), (y2_5, .inl (cI, 100, .inl (fun _ => 0))), (y3_5, .inl (cI, 100, .inl (fun _ => 0))), (q6, .inr (4, [.ref y0_7, .ref y1_7, .int 0, .int 0, .int 0, .int 1440, .int 1, .int 0, .int 12, .int 0])), (y0_7, .inl (cI, 24, .inl (fun _ => 0))), (y1_7, .inl (cI, 24, .inl (fun _ => 0))), (q8, .inr (6, [.int 0, .int 0, .int 0, .int 0, .int 0, .int 0])), (q10, .inr (3, [.ref y0_11, .int 0])), (y0_11, .inl (cI, 8, .inl (fun _ => 0)))]) [0, 1, 2, 3, 4, 5, 6, 7, 8, 9, 10, 11, 12, 13, 14] (by decide) rfl
  exact W.vret hx hb hr (fun t ht hW => ⟨⟨(fun k => ([0, q1, q2, q3, q4, q6, q8, q10, y0_5, y1_5, y2_5, y3_5, y0_7, y1_7, y0_11] : List Nat).getD k 0), rfl, trivial, ⟨by rw [ht]; exact hP9, hD9⟩⟩, hS.F ht⟩) hS.2.2 dX8_init_74
end
section
def aboutF (x : Int32) : Int32 := if x = 0 then 0 else if x = 1 then 0 else if x = 2 then 0 else if x = 3 then 0 else if x = 4 then 0 else if x = 5 then 1440 else -1
set_option maxHeartbeats 4000000 in
set_option maxRecDepth 100000 in
/-- sight on a fresh object -/
theorem k_X8_sight (l : Launch) (D : va_G) (cI cJ cZ cM : Nat) (h0 : Nat) (a : Nat → Nat) (x1 : Int32) : Met l yX8_sight wsX8_sight ({ frames := 1, cells := 0, slots := 0, locals := 21 } : Room) (RO D cI cJ cZ cM [.ref h0, .int x1] [(h0, .inr (8, [.ref (a 1), .ref (a 2), .ref (a 3), .ref (a 4), .ref (a 5), .ref (a 6), .ref (a 7), .null, .int 0, .int 0, .int 0, .int 0])), (a 1, .inl (cI, 1600, .inl (fun _ => 0))), (a 2, .inl (cM, 10, .inr (.inr (.inr (.inr (fun _ => none)))))), (a 3, .inl (cI, 48, .inl (fun _ => 0))), (a 4, .inr (7, [.ref (a 8), .ref (a 9), .ref (a 10), .ref (a 11), .int 0])), (a 8, .inl (cI, 100, .inl (fun _ => 0))), (a 9, .inl (cI, 100, .inl (fun _ => 0))), (a 10, .inl (cI, 100, .inl (fun _ => 0))), (a 11, .inl (cI, 100, .inl (fun _ => 0))), (a 5, .inr (4, [.ref (a 12), .ref (a 13), .int 0, .int 0, .int 0, .int 1440, .int 1, .int 0, .int 12, .int 0])), (a 12, .inl (cI, 24, .inl (fun _ => 0))), (a 13, .inl (cI, 24, .inl (fun _ => 0))), (a 6, .inr (6, [.int 0, .int 0, .int 0, .int 0, .int 0, .int 0])), (a 7, .inr (3, [.ref (a 14), .int 0])), (a 14, .inl (cI, 8, .inl (fun _ => 0)))]) (vp_Si (fun r => r = 0)) 0 0 (fun _ => False) := by
  refine Met.ofW (cc := cX8_sight) (maxL := 3) (ret := (some .boolean)) (by decide) rfl ?_
  intro p e s m args below meth c s₁ B hml hv
  obtain ⟨rfl, hG, hP⟩ := hv
  have hx := B.exec
  have hb := B.bytes
  have hr := B.returns
  have hts := atoms_spec (ws := wsX8_sight) B.pre
  have hown : s.vm.findClass RX8 = some m.cls := findClass_of_methodNamed B.named
  have hlocks := B.notSynchronized
  have hK := hG.1
  have hN := hG.2
  have hl := lv_entry ([.ref h0, .int x1]) (n := 3) (Nat.le_of_ble_eq_true rfl)
  rw [lg_entry_eq]
  generalize (lg_sl ([.ref h0, .int x1]) ++ List.replicate (3 - (lg_sl ([.ref h0, .int x1])).length) Slot.unset).toArray = ls at hl ⊢
  have hl : lv_has ls 3 [(0, .ref h0), (1, .int x1)] := hl
  refine lv_aload_n hx hb dX8_sight_0 rfl (lv_at hl 0 rfl) ?_
  refine lv_iload_n hx hb dX8_sight_1 rfl (lv_at hl 1 rfl) ?_
  have hPc := hP.sub (ws' := [(h0, .inr (8, [.ref (a 1), .ref (a 2), .ref (a 3), .ref (a 4), .ref (a 5), .ref (a 6), .ref (a 7), .null, .int 0, .int 0, .int 0, .int 0])), (a 2, .inl (cM, 10, .inr (.inr (.inr (.inr (fun _ => none))))))]) [0, 2] rfl
  refine va_csq (va_Run.run (va_runV (As := [.int x1]) (rest := []) ⟨hx, hb, hml, hown, hts⟩ (k_X8_known l D cI cJ cZ cM h0 a x1) (cwV 1 hts gX8_sight_X8_known rfl rfl rfl (by decide +kernel) ⟨Nat.le_of_ble_eq_true rfl, Nat.le_of_ble_eq_true rfl⟩) (ro_V hG hPc (va_recv hK hPc (ci := 8) (q0 := 0) rfl rfl)) rfl rfl hl.1 rfl (lv_room (Nat.le_of_ble_eq_true rfl)) dX8_sight_2 ⟨Nat.le_of_ble_eq_true rfl, Nat.le_of_ble_eq_true rfl⟩)) (fun r_1 h_1 => ?_)
  obtain rfl : r_1 = none := h_1
  refine W.eq (g2 := F0 m 5 ls [.null]) rfl ?_
  refine lv_astore_nN (lv' := [(2, .null), (0, .ref h0), (1, .int x1)]) hx hb dX8_sight_5 rfl hl (by decide) rfl (fun ls hl => ?_)
  refine lv_aload_nN hx hb dX8_sight_6 rfl (lv_at hl 0 rfl) ?_
  refine lv_ifnonnullN hx hb dX8_sight_7 ?_
  refine lv_iconst (v := 0) hx hb dX8_sight_10 (by decide) ?_
  exact W.zret (v := 0) hx hb hr rfl (fun t ht hW => ⟨0, rfl, rfl, ht⟩) (fun _ h => by cases h) dX8_sight_11
set_option maxHeartbeats 4000000 in
set_option maxRecDepth 100000 in
/-- bearing on a fresh object -/
theorem k_X8_bearing (l : Launch) (D : va_G) (cI cJ cZ cM : Nat) (h0 : Nat) (a : Nat → Nat) (x1 : Int32) (x2 : Int32) (x3 : Int32) (x4 : Int32) (x5 : Int32) (x6 : Int32) : Met l yX8_bearing wsX8_bearing ({ frames := 1, cells := 0, slots := 0, locals := 21 } : Room) (RO D cI cJ cZ cM [.ref h0, .int x1, .int x2, .int x3, .int x4, .int x5, .int x6] [(h0, .inr (8, [.ref (a 1), .ref (a 2), .ref (a 3), .ref (a 4), .ref (a 5), .ref (a 6), .ref (a 7), .null, .int 0, .int 0, .int 0, .int 0])), (a 1, .inl (cI, 1600, .inl (fun _ => 0))), (a 2, .inl (cM, 10, .inr (.inr (.inr (.inr (fun _ => none)))))), (a 3, .inl (cI, 48, .inl (fun _ => 0))), (a 4, .inr (7, [.ref (a 8), .ref (a 9), .ref (a 10), .ref (a 11), .int 0])), (a 8, .inl (cI, 100, .inl (fun _ => 0))), (a 9, .inl (cI, 100, .inl (fun _ => 0))), (a 10, .inl (cI, 100, .inl (fun _ => 0))), (a 11, .inl (cI, 100, .inl (fun _ => 0))), (a 5, .inr (4, [.ref (a 12), .ref (a 13), .int 0, .int 0, .int 0, .int 1440, .int 1, .int 0, .int 12, .int 0])), (a 12, .inl (cI, 24, .inl (fun _ => 0))), (a 13, .inl (cI, 24, .inl (fun _ => 0))), (a 6, .inr (6, [.int 0, .int 0, .int 0, .int 0, .int 0, .int 0])), (a 7, .inr (3, [.ref (a 14), .int 0])), (a 14, .inl (cI, 8, .inl (fun _ => 0)))]) (vp_Si (fun r => r = 0)) 0 0 (fun _ => False) := by
  refine Met.ofW (cc := cX8_bearing) (maxL := 9) (ret := (some .boolean)) (by decide) rfl ?_
  intro p e s m args below meth c s₁ B hml hv
  obtain ⟨rfl, hG, hP⟩ := hv
  have hx := B.exec
  have hb := B.bytes
  have hr := B.returns
  have hts := atoms_spec (ws := wsX8_bearing) B.pre
  have hown : s.vm.findClass RX8 = some m.cls := findClass_of_methodNamed B.named
  have hlocks := B.notSynchronized
  have hK := hG.1
  have hN := hG.2
  have hl := lv_entry ([.ref h0, .int x1, .int x2, .int x3, .int x4, .int x5, .int x6]) (n := 9) (Nat.le_of_ble_eq_true rfl)
  rw [lg_entry_eq]
  generalize (lg_sl ([.ref h0, .int x1, .int x2, .int x3, .int x4, .int x5, .int x6]) ++ List.replicate (9 - (lg_sl ([.ref h0, .int x1, .int x2, .int x3, .int x4, .int x5, .int x6])).length) Slot.unset).toArray = ls at hl ⊢
  have hl : lv_has ls 9 [(0, .ref h0), (1, .int x1), (2, .int x2), (3, .int x3), (4, .int x4), (5, .int x5), (6, .int x6)] := hl
  refine lv_aload_n hx hb dX8_bearing_0 rfl (lv_at hl 0 rfl) ?_
  refine lv_iload_n hx hb dX8_bearing_1 rfl (lv_at hl 1 rfl) ?_
  have hPc := hP.sub (ws' := [(h0, .inr (8, [.ref (a 1), .ref (a 2), .ref (a 3), .ref (a 4), .ref (a 5), .ref (a 6), .ref (a 7), .null, .int 0, .int 0, .int 0, .int 0])), (a 2, .inl (cM, 10, .inr (.inr (.inr (.inr (fun _ => none))))))]) [0, 2] rfl
  refine va_csq (va_Run.run (va_runV (As := [.int x1]) (rest := []) ⟨hx, hb, hml, hown, hts⟩ (k_X8_known l D cI cJ cZ cM h0 a x1) (cwV 1 hts gX8_bearing_X8_known rfl rfl rfl (by decide +kernel) ⟨Nat.le_of_ble_eq_true rfl, Nat.le_of_ble_eq_true rfl⟩) (ro_V hG hPc (va_recv hK hPc (ci := 8) (q0 := 0) rfl rfl)) rfl rfl hl.1 rfl (lv_room (Nat.le_of_ble_eq_true rfl)) dX8_bearing_2 ⟨Nat.le_of_ble_eq_true rfl, Nat.le_of_ble_eq_true rfl⟩)) (fun r_1 h_1 => ?_)
  obtain rfl : r_1 = none := h_1
  refine W.eq (g2 := F0 m 5 ls [.null]) rfl ?_
  refine lv_astoreN (lv' := [(7, .null), (0, .ref h0), (1, .int x1), (2, .int x2), (3, .int x3), (4, .int x4), (5, .int x5), (6, .int x6)]) hx hb dX8_bearing_5 hl (by decide) rfl (fun ls hl => ?_)
  refine lv_aload_n hx hb dX8_bearing_7 rfl (lv_at hl 1 rfl) ?_
  refine lv_iload_n hx hb dX8_bearing_8 rfl (lv_at hl 3 rfl) ?_
  have hPc := hP.sub (ws' := [(h0, .inr (8, [.ref (a 1), .ref (a 2), .ref (a 3), .ref (a 4), .ref (a 5), .ref (a 6), .ref (a 7), .null, .int 0, .int 0, .int 0, .int 0])), (a 2, .inl (cM, 10, .inr (.inr (.inr (.inr (fun _ => none))))))]) [0, 2] rfl
  refine va_csq (va_Run.run (va_runV (As := [.int x2]) (rest := []) ⟨hx, hb, hml, hown, hts⟩ (k_X8_known l D cI cJ cZ cM h0 a x2) (cwV 1 hts gX8_bearing_X8_known rfl rfl rfl (by decide +kernel) ⟨Nat.le_of_ble_eq_true rfl, Nat.le_of_ble_eq_true rfl⟩) (ro_V hG hPc (va_recv hK hPc (ci := 8) (q0 := 0) rfl rfl)) rfl rfl hl.1 rfl (lv_room (Nat.le_of_ble_eq_true rfl)) dX8_bearing_9 ⟨Nat.le_of_ble_eq_true rfl, Nat.le_of_ble_eq_true rfl⟩)) (fun r_2 h_2 => ?_)
  obtain rfl : r_2 = none := h_2
  refine W.eq (g2 := F0 m 12 ls [.null]) rfl ?_
  refine lv_astoreN (lv' := [(8, .null), (7, .null), (0, .ref h0), (1, .int x1), (2, .int x2), (3, .int x3), (4, .int x4), (5, .int x5), (6, .int x6)]) hx hb dX8_bearing_12 hl (by decide) rfl (fun ls hl => ?_)
  refine lv_aloadN hx hb dX8_bearing_14 (lv_at hl 1 rfl) ?_
  refine lv_ifnullN (tgt := 48) hx hb dX8_bearing_16 (by decide) ?_
  refine lv_iconst (v := 0) hx hb dX8_bearing_48 (by decide) ?_
  exact W.zret (v := 0) hx hb hr rfl (fun t ht hW => ⟨0, rfl, rfl, ht⟩) (fun _ h => by cases h) dX8_bearing_49
set_option maxHeartbeats 4000000 in
set_option maxRecDepth 100000 in
/-- sounding on a fresh object -/
theorem k_X8_sounding (l : Launch) (D : va_G) (cI cJ cZ cM : Nat) (h0 : Nat) (a : Nat → Nat) (x1 : Int32) (x2 : Int32) (x3 : Int32) : Met l yX8_sounding wsX8_sounding ({ frames := 1, cells := 0, slots := 0, locals := 21 } : Room) (RO D cI cJ cZ cM [.ref h0, .int x1, .int x2, .int x3] [(h0, .inr (8, [.ref (a 1), .ref (a 2), .ref (a 3), .ref (a 4), .ref (a 5), .ref (a 6), .ref (a 7), .null, .int 0, .int 0, .int 0, .int 0])), (a 1, .inl (cI, 1600, .inl (fun _ => 0))), (a 2, .inl (cM, 10, .inr (.inr (.inr (.inr (fun _ => none)))))), (a 3, .inl (cI, 48, .inl (fun _ => 0))), (a 4, .inr (7, [.ref (a 8), .ref (a 9), .ref (a 10), .ref (a 11), .int 0])), (a 8, .inl (cI, 100, .inl (fun _ => 0))), (a 9, .inl (cI, 100, .inl (fun _ => 0))), (a 10, .inl (cI, 100, .inl (fun _ => 0))), (a 11, .inl (cI, 100, .inl (fun _ => 0))), (a 5, .inr (4, [.ref (a 12), .ref (a 13), .int 0, .int 0, .int 0, .int 1440, .int 1, .int 0, .int 12, .int 0])), (a 12, .inl (cI, 24, .inl (fun _ => 0))), (a 13, .inl (cI, 24, .inl (fun _ => 0))), (a 6, .inr (6, [.int 0, .int 0, .int 0, .int 0, .int 0, .int 0])), (a 7, .inr (3, [.ref (a 14), .int 0])), (a 14, .inl (cI, 8, .inl (fun _ => 0)))]) (vp_Si (fun r => r = 0)) 0 0 (fun _ => False) := by
  refine Met.ofW (cc := cX8_sounding) (maxL := 5) (ret := (some .boolean)) (by decide) rfl ?_
  intro p e s m args below meth c s₁ B hml hv
  obtain ⟨rfl, hG, hP⟩ := hv
  have hx := B.exec
  have hb := B.bytes
  have hr := B.returns
  have hts := atoms_spec (ws := wsX8_sounding) B.pre
  have hown : s.vm.findClass RX8 = some m.cls := findClass_of_methodNamed B.named
  have hlocks := B.notSynchronized
  have hK := hG.1
  have hN := hG.2
  have hl := lv_entry ([.ref h0, .int x1, .int x2, .int x3]) (n := 5) (Nat.le_of_ble_eq_true rfl)
  rw [lg_entry_eq]
  generalize (lg_sl ([.ref h0, .int x1, .int x2, .int x3]) ++ List.replicate (5 - (lg_sl ([.ref h0, .int x1, .int x2, .int x3])).length) Slot.unset).toArray = ls at hl ⊢
  have hl : lv_has ls 5 [(0, .ref h0), (1, .int x1), (2, .int x2), (3, .int x3)] := hl
  refine lv_aload_n hx hb dX8_sounding_0 rfl (lv_at hl 0 rfl) ?_
  refine lv_iload_n hx hb dX8_sounding_1 rfl (lv_at hl 1 rfl) ?_
  have hPc := hP.sub (ws' := [(h0, .inr (8, [.ref (a 1), .ref (a 2), .ref (a 3), .ref (a 4), .ref (a 5), .ref (a 6), .ref (a 7), .null, .int 0, .int 0, .int 0, .int 0])), (a 2, .inl (cM, 10, .inr (.inr (.inr (.inr (fun _ => none))))))]) [0, 2] rfl
  refine va_csq (va_Run.run (va_runV (As := [.int x1]) (rest := []) ⟨hx, hb, hml, hown, hts⟩ (k_X8_known l D cI cJ cZ cM h0 a x1) (cwV 1 hts gX8_sounding_X8_known rfl rfl rfl (by decide +kernel) ⟨Nat.le_of_ble_eq_true rfl, Nat.le_of_ble_eq_true rfl⟩) (ro_V hG hPc (va_recv hK hPc (ci := 8) (q0 := 0) rfl rfl)) rfl rfl hl.1 rfl (lv_room (Nat.le_of_ble_eq_true rfl)) dX8_sounding_2 ⟨Nat.le_of_ble_eq_true rfl, Nat.le_of_ble_eq_true rfl⟩)) (fun r_1 h_1 => ?_)
  obtain rfl : r_1 = none := h_1
  refine W.eq (g2 := F0 m 5 ls [.null]) rfl ?_
  refine lv_astoreN (lv' := [(4, .null), (0, .ref h0), (1, .int x1), (2, .int x2), (3, .int x3)]) hx hb dX8_sounding_5 hl (by decide) rfl (fun ls hl => ?_)
  refine lv_aloadN hx hb dX8_sounding_7 (lv_at hl 0 rfl) ?_
  refine lv_ifnullN (tgt := 34) hx hb dX8_sounding_9 (by decide) ?_
  refine lv_iconst (v := 0) hx hb dX8_sounding_34 (by decide) ?_
  exact W.zret (v := 0) hx hb hr rfl (fun t ht hW => ⟨0, rfl, rfl, ht⟩) (fun _ h => by cases h) dX8_sounding_35
set_option maxHeartbeats 4000000 in
set_option maxRecDepth 100000 in
/-- lies on a fresh object -/
theorem k_X8_lies (l : Launch) (D : va_G) (cI cJ cZ cM : Nat) (h0 : Nat) (a : Nat → Nat) (x1 : Int32) (x2 : Int32) : Met l yX8_lies wsX8_lies ({ frames := 1, cells := 0, slots := 0, locals := 21 } : Room) (RO D cI cJ cZ cM [.ref h0, .int x1, .int x2] [(h0, .inr (8, [.ref (a 1), .ref (a 2), .ref (a 3), .ref (a 4), .ref (a 5), .ref (a 6), .ref (a 7), .null, .int 0, .int 0, .int 0, .int 0])), (a 1, .inl (cI, 1600, .inl (fun _ => 0))), (a 2, .inl (cM, 10, .inr (.inr (.inr (.inr (fun _ => none)))))), (a 3, .inl (cI, 48, .inl (fun _ => 0))), (a 4, .inr (7, [.ref (a 8), .ref (a 9), .ref (a 10), .ref (a 11), .int 0])), (a 8, .inl (cI, 100, .inl (fun _ => 0))), (a 9, .inl (cI, 100, .inl (fun _ => 0))), (a 10, .inl (cI, 100, .inl (fun _ => 0))), (a 11, .inl (cI, 100, .inl (fun _ => 0))), (a 5, .inr (4, [.ref (a 12), .ref (a 13), .int 0, .int 0, .int 0, .int 1440, .int 1, .int 0, .int 12, .int 0])), (a 12, .inl (cI, 24, .inl (fun _ => 0))), (a 13, .inl (cI, 24, .inl (fun _ => 0))), (a 6, .inr (6, [.int 0, .int 0, .int 0, .int 0, .int 0, .int 0])), (a 7, .inr (3, [.ref (a 14), .int 0])), (a 14, .inl (cI, 8, .inl (fun _ => 0)))]) (vp_Si (fun r => r = -1)) 0 0 (fun _ => False) := by
  refine Met.ofW (cc := cX8_lies) (maxL := 4) (ret := (some .int)) (by decide) rfl ?_
  intro p e s m args below meth c s₁ B hml hv
  obtain ⟨rfl, hG, hP⟩ := hv
  have hx := B.exec
  have hb := B.bytes
  have hr := B.returns
  have hts := atoms_spec (ws := wsX8_lies) B.pre
  have hown : s.vm.findClass RX8 = some m.cls := findClass_of_methodNamed B.named
  have hlocks := B.notSynchronized
  have hK := hG.1
  have hN := hG.2
  have hl := lv_entry ([.ref h0, .int x1, .int x2]) (n := 4) (Nat.le_of_ble_eq_true rfl)
  rw [lg_entry_eq]
  generalize (lg_sl ([.ref h0, .int x1, .int x2]) ++ List.replicate (4 - (lg_sl ([.ref h0, .int x1, .int x2])).length) Slot.unset).toArray = ls at hl ⊢
  have hl : lv_has ls 4 [(0, .ref h0), (1, .int x1), (2, .int x2)] := hl
  refine lv_aload_n hx hb dX8_lies_0 rfl (lv_at hl 0 rfl) ?_
  refine lv_iload_n hx hb dX8_lies_1 rfl (lv_at hl 1 rfl) ?_
  have hPc := hP.sub (ws' := [(h0, .inr (8, [.ref (a 1), .ref (a 2), .ref (a 3), .ref (a 4), .ref (a 5), .ref (a 6), .ref (a 7), .null, .int 0, .int 0, .int 0, .int 0])), (a 2, .inl (cM, 10, .inr (.inr (.inr (.inr (fun _ => none))))))]) [0, 2] rfl
  refine va_csq (va_Run.run (va_runV (As := [.int x1]) (rest := []) ⟨hx, hb, hml, hown, hts⟩ (k_X8_known l D cI cJ cZ cM h0 a x1) (cwV 1 hts gX8_lies_X8_known rfl rfl rfl (by decide +kernel) ⟨Nat.le_of_ble_eq_true rfl, Nat.le_of_ble_eq_true rfl⟩) (ro_V hG hPc (va_recv hK hPc (ci := 8) (q0 := 0) rfl rfl)) rfl rfl hl.1 rfl (lv_room (Nat.le_of_ble_eq_true rfl)) dX8_lies_2 ⟨Nat.le_of_ble_eq_true rfl, Nat.le_of_ble_eq_true rfl⟩)) (fun r_1 h_1 => ?_)
  obtain rfl : r_1 = none := h_1
  refine W.eq (g2 := F0 m 5 ls [.null]) rfl ?_
  refine lv_astore_nN (lv' := [(3, .null), (0, .ref h0), (1, .int x1), (2, .int x2)]) hx hb dX8_lies_5 rfl hl (by decide) rfl (fun ls hl => ?_)
  refine lv_aload_nN hx hb dX8_lies_6 rfl (lv_at hl 0 rfl) ?_
  refine lv_ifnonnullN hx hb dX8_lies_7 ?_
  refine lv_iconst (v := (-1)) hx hb dX8_lies_10 (by decide) ?_
  exact W.iret (v := (-1)) hx hb hr (fun t ht hW => ⟨(-1), rfl, rfl, ht⟩) (fun _ h => by cases h) dX8_lies_11
set_option maxHeartbeats 4000000 in
set_option maxRecDepth 100000 in
/-- chain on a fresh object -/
theorem k_X8_chain (l : Launch) (D : va_G) (cI cJ cZ cM : Nat) (h0 : Nat) (a : Nat → Nat) (x1 : Int32) (x2 : Int32) (x3 : Int32) (x4 : Int32) : Met l yX8_chain wsX8_chain ({ frames := 1, cells := 0, slots := 0, locals := 21 } : Room) (RO D cI cJ cZ cM [.ref h0, .int x1, .int x2, .int x3, .int x4] [(h0, .inr (8, [.ref (a 1), .ref (a 2), .ref (a 3), .ref (a 4), .ref (a 5), .ref (a 6), .ref (a 7), .null, .int 0, .int 0, .int 0, .int 0])), (a 1, .inl (cI, 1600, .inl (fun _ => 0))), (a 2, .inl (cM, 10, .inr (.inr (.inr (.inr (fun _ => none)))))), (a 3, .inl (cI, 48, .inl (fun _ => 0))), (a 4, .inr (7, [.ref (a 8), .ref (a 9), .ref (a 10), .ref (a 11), .int 0])), (a 8, .inl (cI, 100, .inl (fun _ => 0))), (a 9, .inl (cI, 100, .inl (fun _ => 0))), (a 10, .inl (cI, 100, .inl (fun _ => 0))), (a 11, .inl (cI, 100, .inl (fun _ => 0))), (a 5, .inr (4, [.ref (a 12), .ref (a 13), .int 0, .int 0, .int 0, .int 1440, .int 1, .int 0, .int 12, .int 0])), (a 12, .inl (cI, 24, .inl (fun _ => 0))), (a 13, .inl (cI, 24, .inl (fun _ => 0))), (a 6, .inr (6, [.int 0, .int 0, .int 0, .int 0, .int 0, .int 0])), (a 7, .inr (3, [.ref (a 14), .int 0])), (a 14, .inl (cI, 8, .inl (fun _ => 0)))]) (vp_Si (fun r => r = 0)) 0 0 (fun _ => False) := by
  refine Met.ofW (cc := cX8_chain) (maxL := 6) (ret := (some .boolean)) (by decide) rfl ?_
  intro p e s m args below meth c s₁ B hml hv
  obtain ⟨rfl, hG, hP⟩ := hv
  have hx := B.exec
  have hb := B.bytes
  have hr := B.returns
  have hts := atoms_spec (ws := wsX8_chain) B.pre
  have hown : s.vm.findClass RX8 = some m.cls := findClass_of_methodNamed B.named
  have hlocks := B.notSynchronized
  have hK := hG.1
  have hN := hG.2
  have hl := lv_entry ([.ref h0, .int x1, .int x2, .int x3, .int x4]) (n := 6) (Nat.le_of_ble_eq_true rfl)
  rw [lg_entry_eq]
  generalize (lg_sl ([.ref h0, .int x1, .int x2, .int x3, .int x4]) ++ List.replicate (6 - (lg_sl ([.ref h0, .int x1, .int x2, .int x3, .int x4])).length) Slot.unset).toArray = ls at hl ⊢
  have hl : lv_has ls 6 [(0, .ref h0), (1, .int x1), (2, .int x2), (3, .int x3), (4, .int x4)] := hl
  refine lv_aload_n hx hb dX8_chain_0 rfl (lv_at hl 0 rfl) ?_
  refine lv_iload_n hx hb dX8_chain_1 rfl (lv_at hl 1 rfl) ?_
  have hPc := hP.sub (ws' := [(h0, .inr (8, [.ref (a 1), .ref (a 2), .ref (a 3), .ref (a 4), .ref (a 5), .ref (a 6), .ref (a 7), .null, .int 0, .int 0, .int 0, .int 0])), (a 2, .inl (cM, 10, .inr (.inr (.inr (.inr (fun _ => none))))))]) [0, 2] rfl
  refine va_csq (va_Run.run (va_runV (As := [.int x1]) (rest := []) ⟨hx, hb, hml, hown, hts⟩ (k_X8_known l D cI cJ cZ cM h0 a x1) (cwV 1 hts gX8_chain_X8_known rfl rfl rfl (by decide +kernel) ⟨Nat.le_of_ble_eq_true rfl, Nat.le_of_ble_eq_true rfl⟩) (ro_V hG hPc (va_recv hK hPc (ci := 8) (q0 := 0) rfl rfl)) rfl rfl hl.1 rfl (lv_room (Nat.le_of_ble_eq_true rfl)) dX8_chain_2 ⟨Nat.le_of_ble_eq_true rfl, Nat.le_of_ble_eq_true rfl⟩)) (fun r_1 h_1 => ?_)
  obtain rfl : r_1 = none := h_1
  refine W.eq (g2 := F0 m 5 ls [.null]) rfl ?_
  refine lv_astoreN (lv' := [(5, .null), (0, .ref h0), (1, .int x1), (2, .int x2), (3, .int x3), (4, .int x4)]) hx hb dX8_chain_5 hl (by decide) rfl (fun ls hl => ?_)
  refine lv_aloadN hx hb dX8_chain_7 (lv_at hl 0 rfl) ?_
  refine lv_ifnullN (tgt := 42) hx hb dX8_chain_9 (by decide) ?_
  refine lv_iconst (v := 0) hx hb dX8_chain_42 (by decide) ?_
  exact W.zret (v := 0) hx hb hr rfl (fun t ht hW => ⟨0, rfl, rfl, ht⟩) (fun _ h => by cases h) dX8_chain_43
set_option maxHeartbeats 4000000 in
set_option maxRecDepth 100000 in
/-- chainOf on a fresh object -/
theorem k_X8_chainOf (l : Launch) (D : va_G) (cI cJ cZ cM : Nat) (h0 : Nat) (a : Nat → Nat) (x1 : Int32) (x2 : Int32) : Met l yX8_chainOf wsX8_chainOf ({ frames := 1, cells := 0, slots := 0, locals := 21 } : Room) (RO D cI cJ cZ cM [.ref h0, .int x1, .int x2] [(h0, .inr (8, [.ref (a 1), .ref (a 2), .ref (a 3), .ref (a 4), .ref (a 5), .ref (a 6), .ref (a 7), .null, .int 0, .int 0, .int 0, .int 0])), (a 1, .inl (cI, 1600, .inl (fun _ => 0))), (a 2, .inl (cM, 10, .inr (.inr (.inr (.inr (fun _ => none)))))), (a 3, .inl (cI, 48, .inl (fun _ => 0))), (a 4, .inr (7, [.ref (a 8), .ref (a 9), .ref (a 10), .ref (a 11), .int 0])), (a 8, .inl (cI, 100, .inl (fun _ => 0))), (a 9, .inl (cI, 100, .inl (fun _ => 0))), (a 10, .inl (cI, 100, .inl (fun _ => 0))), (a 11, .inl (cI, 100, .inl (fun _ => 0))), (a 5, .inr (4, [.ref (a 12), .ref (a 13), .int 0, .int 0, .int 0, .int 1440, .int 1, .int 0, .int 12, .int 0])), (a 12, .inl (cI, 24, .inl (fun _ => 0))), (a 13, .inl (cI, 24, .inl (fun _ => 0))), (a 6, .inr (6, [.int 0, .int 0, .int 0, .int 0, .int 0, .int 0])), (a 7, .inr (3, [.ref (a 14), .int 0])), (a 14, .inl (cI, 8, .inl (fun _ => 0)))]) (vp_Si (fun r => r = -1)) 0 0 (fun _ => False) := by
  refine Met.ofW (cc := cX8_chainOf) (maxL := 4) (ret := (some .int)) (by decide) rfl ?_
  intro p e s m args below meth c s₁ B hml hv
  obtain ⟨rfl, hG, hP⟩ := hv
  have hx := B.exec
  have hb := B.bytes
  have hr := B.returns
  have hts := atoms_spec (ws := wsX8_chainOf) B.pre
  have hown : s.vm.findClass RX8 = some m.cls := findClass_of_methodNamed B.named
  have hlocks := B.notSynchronized
  have hK := hG.1
  have hN := hG.2
  have hl := lv_entry ([.ref h0, .int x1, .int x2]) (n := 4) (Nat.le_of_ble_eq_true rfl)
  rw [lg_entry_eq]
  generalize (lg_sl ([.ref h0, .int x1, .int x2]) ++ List.replicate (4 - (lg_sl ([.ref h0, .int x1, .int x2])).length) Slot.unset).toArray = ls at hl ⊢
  have hl : lv_has ls 4 [(0, .ref h0), (1, .int x1), (2, .int x2)] := hl
  refine lv_aload_n hx hb dX8_chainOf_0 rfl (lv_at hl 0 rfl) ?_
  refine lv_iload_n hx hb dX8_chainOf_1 rfl (lv_at hl 1 rfl) ?_
  have hPc := hP.sub (ws' := [(h0, .inr (8, [.ref (a 1), .ref (a 2), .ref (a 3), .ref (a 4), .ref (a 5), .ref (a 6), .ref (a 7), .null, .int 0, .int 0, .int 0, .int 0])), (a 2, .inl (cM, 10, .inr (.inr (.inr (.inr (fun _ => none))))))]) [0, 2] rfl
  refine va_csq (va_Run.run (va_runV (As := [.int x1]) (rest := []) ⟨hx, hb, hml, hown, hts⟩ (k_X8_known l D cI cJ cZ cM h0 a x1) (cwV 1 hts gX8_chainOf_X8_known rfl rfl rfl (by decide +kernel) ⟨Nat.le_of_ble_eq_true rfl, Nat.le_of_ble_eq_true rfl⟩) (ro_V hG hPc (va_recv hK hPc (ci := 8) (q0 := 0) rfl rfl)) rfl rfl hl.1 rfl (lv_room (Nat.le_of_ble_eq_true rfl)) dX8_chainOf_2 ⟨Nat.le_of_ble_eq_true rfl, Nat.le_of_ble_eq_true rfl⟩)) (fun r_1 h_1 => ?_)
  obtain rfl : r_1 = none := h_1
  refine W.eq (g2 := F0 m 5 ls [.null]) rfl ?_
  refine lv_astore_nN (lv' := [(3, .null), (0, .ref h0), (1, .int x1), (2, .int x2)]) hx hb dX8_chainOf_5 rfl hl (by decide) rfl (fun ls hl => ?_)
  refine lv_aload_nN hx hb dX8_chainOf_6 rfl (lv_at hl 0 rfl) ?_
  refine lv_ifnullN (tgt := 20) hx hb dX8_chainOf_7 (by decide) ?_
  refine lv_iconst (v := (-1)) hx hb dX8_chainOf_20 (by decide) ?_
  exact W.iret (v := (-1)) hx hb hr (fun t ht hW => ⟨(-1), rfl, rfl, ht⟩) (fun _ h => by cases h) dX8_chainOf_21
set_option maxHeartbeats 4000000 in
set_option maxRecDepth 100000 in
/-- light on a fresh object -/
theorem k_X8_light (l : Launch) (D : va_G) (cI cJ cZ cM : Nat) (h0 : Nat) (a : Nat → Nat) (x1 : Int32) (x2 : Int32) (x3 : Int32) : Met l yX8_light wsX8_light ({ frames := 1, cells := 0, slots := 0, locals := 21 } : Room) (RO D cI cJ cZ cM [.ref h0, .int x1, .int x2, .int x3] [(h0, .inr (8, [.ref (a 1), .ref (a 2), .ref (a 3), .ref (a 4), .ref (a 5), .ref (a 6), .ref (a 7), .null, .int 0, .int 0, .int 0, .int 0])), (a 1, .inl (cI, 1600, .inl (fun _ => 0))), (a 2, .inl (cM, 10, .inr (.inr (.inr (.inr (fun _ => none)))))), (a 3, .inl (cI, 48, .inl (fun _ => 0))), (a 4, .inr (7, [.ref (a 8), .ref (a 9), .ref (a 10), .ref (a 11), .int 0])), (a 8, .inl (cI, 100, .inl (fun _ => 0))), (a 9, .inl (cI, 100, .inl (fun _ => 0))), (a 10, .inl (cI, 100, .inl (fun _ => 0))), (a 11, .inl (cI, 100, .inl (fun _ => 0))), (a 5, .inr (4, [.ref (a 12), .ref (a 13), .int 0, .int 0, .int 0, .int 1440, .int 1, .int 0, .int 12, .int 0])), (a 12, .inl (cI, 24, .inl (fun _ => 0))), (a 13, .inl (cI, 24, .inl (fun _ => 0))), (a 6, .inr (6, [.int 0, .int 0, .int 0, .int 0, .int 0, .int 0])), (a 7, .inr (3, [.ref (a 14), .int 0])), (a 14, .inl (cI, 8, .inl (fun _ => 0)))]) (vp_Si (fun r => r = 0)) 0 0 (fun _ => False) := by
  refine Met.ofW (cc := cX8_light) (maxL := 5) (ret := (some .boolean)) (by decide) rfl ?_
  intro p e s m args below meth c s₁ B hml hv
  obtain ⟨rfl, hG, hP⟩ := hv
  have hx := B.exec
  have hb := B.bytes
  have hr := B.returns
  have hts := atoms_spec (ws := wsX8_light) B.pre
  have hown : s.vm.findClass RX8 = some m.cls := findClass_of_methodNamed B.named
  have hlocks := B.notSynchronized
  have hK := hG.1
  have hN := hG.2
  have hl := lv_entry ([.ref h0, .int x1, .int x2, .int x3]) (n := 5) (Nat.le_of_ble_eq_true rfl)
  rw [lg_entry_eq]
  generalize (lg_sl ([.ref h0, .int x1, .int x2, .int x3]) ++ List.replicate (5 - (lg_sl ([.ref h0, .int x1, .int x2, .int x3])).length) Slot.unset).toArray = ls at hl ⊢
  have hl : lv_has ls 5 [(0, .ref h0), (1, .int x1), (2, .int x2), (3, .int x3)] := hl
  refine lv_aload_n hx hb dX8_light_0 rfl (lv_at hl 0 rfl) ?_
  refine lv_iload_n hx hb dX8_light_1 rfl (lv_at hl 1 rfl) ?_
  have hPc := hP.sub (ws' := [(h0, .inr (8, [.ref (a 1), .ref (a 2), .ref (a 3), .ref (a 4), .ref (a 5), .ref (a 6), .ref (a 7), .null, .int 0, .int 0, .int 0, .int 0])), (a 2, .inl (cM, 10, .inr (.inr (.inr (.inr (fun _ => none))))))]) [0, 2] rfl
  refine va_csq (va_Run.run (va_runV (As := [.int x1]) (rest := []) ⟨hx, hb, hml, hown, hts⟩ (k_X8_known l D cI cJ cZ cM h0 a x1) (cwV 1 hts gX8_light_X8_known rfl rfl rfl (by decide +kernel) ⟨Nat.le_of_ble_eq_true rfl, Nat.le_of_ble_eq_true rfl⟩) (ro_V hG hPc (va_recv hK hPc (ci := 8) (q0 := 0) rfl rfl)) rfl rfl hl.1 rfl (lv_room (Nat.le_of_ble_eq_true rfl)) dX8_light_2 ⟨Nat.le_of_ble_eq_true rfl, Nat.le_of_ble_eq_true rfl⟩)) (fun r_1 h_1 => ?_)
  obtain rfl : r_1 = none := h_1
  refine W.eq (g2 := F0 m 5 ls [.null]) rfl ?_
  refine lv_astoreN (lv' := [(4, .null), (0, .ref h0), (1, .int x1), (2, .int x2), (3, .int x3)]) hx hb dX8_light_5 hl (by decide) rfl (fun ls hl => ?_)
  refine lv_aloadN hx hb dX8_light_7 (lv_at hl 0 rfl) ?_
  refine lv_ifnonnullN hx hb dX8_light_9 ?_
  refine lv_iconst (v := 0) hx hb dX8_light_12 (by decide) ?_
  exact W.zret (v := 0) hx hb hr rfl (fun t ht hW => ⟨0, rfl, rfl, ht⟩) (fun _ h => by cases h) dX8_light_13
set_option maxHeartbeats 4000000 in
set_option maxRecDepth 100000 in
/-- alike on a fresh object -/
theorem k_X8_alike (l : Launch) (D : va_G) (cI cJ cZ cM : Nat) (h0 : Nat) (a : Nat → Nat) (x1 : Int32) (x2 : Int32) : Met l yX8_alike wsX8_alike ({ frames := 1, cells := 0, slots := 0, locals := 21 } : Room) (RO D cI cJ cZ cM [.ref h0, .int x1, .int x2] [(h0, .inr (8, [.ref (a 1), .ref (a 2), .ref (a 3), .ref (a 4), .ref (a 5), .ref (a 6), .ref (a 7), .null, .int 0, .int 0, .int 0, .int 0])), (a 1, .inl (cI, 1600, .inl (fun _ => 0))), (a 2, .inl (cM, 10, .inr (.inr (.inr (.inr (fun _ => none)))))), (a 3, .inl (cI, 48, .inl (fun _ => 0))), (a 4, .inr (7, [.ref (a 8), .ref (a 9), .ref (a 10), .ref (a 11), .int 0])), (a 8, .inl (cI, 100, .inl (fun _ => 0))), (a 9, .inl (cI, 100, .inl (fun _ => 0))), (a 10, .inl (cI, 100, .inl (fun _ => 0))), (a 11, .inl (cI, 100, .inl (fun _ => 0))), (a 5, .inr (4, [.ref (a 12), .ref (a 13), .int 0, .int 0, .int 0, .int 1440, .int 1, .int 0, .int 12, .int 0])), (a 12, .inl (cI, 24, .inl (fun _ => 0))), (a 13, .inl (cI, 24, .inl (fun _ => 0))), (a 6, .inr (6, [.int 0, .int 0, .int 0, .int 0, .int 0, .int 0])), (a 7, .inr (3, [.ref (a 14), .int 0])), (a 14, .inl (cI, 8, .inl (fun _ => 0)))]) (vp_Si (fun r => r = -1)) 0 0 (fun _ => False) := by
  refine Met.ofW (cc := cX8_alike) (maxL := 5) (ret := (some .int)) (by decide) rfl ?_
  intro p e s m args below meth c s₁ B hml hv
  obtain ⟨rfl, hG, hP⟩ := hv
  have hx := B.exec
  have hb := B.bytes
  have hr := B.returns
  have hts := atoms_spec (ws := wsX8_alike) B.pre
  have hown : s.vm.findClass RX8 = some m.cls := findClass_of_methodNamed B.named
  have hlocks := B.notSynchronized
  have hK := hG.1
  have hN := hG.2
  have hl := lv_entry ([.ref h0, .int x1, .int x2]) (n := 5) (Nat.le_of_ble_eq_true rfl)
  rw [lg_entry_eq]
  generalize (lg_sl ([.ref h0, .int x1, .int x2]) ++ List.replicate (5 - (lg_sl ([.ref h0, .int x1, .int x2])).length) Slot.unset).toArray = ls at hl ⊢
  have hl : lv_has ls 5 [(0, .ref h0), (1, .int x1), (2, .int x2)] := hl
  refine lv_aload_n hx hb dX8_alike_0 rfl (lv_at hl 0 rfl) ?_
  refine lv_iload_n hx hb dX8_alike_1 rfl (lv_at hl 1 rfl) ?_
  have hPc := hP.sub (ws' := [(h0, .inr (8, [.ref (a 1), .ref (a 2), .ref (a 3), .ref (a 4), .ref (a 5), .ref (a 6), .ref (a 7), .null, .int 0, .int 0, .int 0, .int 0])), (a 2, .inl (cM, 10, .inr (.inr (.inr (.inr (fun _ => none))))))]) [0, 2] rfl
  refine va_csq (va_Run.run (va_runV (As := [.int x1]) (rest := []) ⟨hx, hb, hml, hown, hts⟩ (k_X8_known l D cI cJ cZ cM h0 a x1) (cwV 1 hts gX8_alike_X8_known rfl rfl rfl (by decide +kernel) ⟨Nat.le_of_ble_eq_true rfl, Nat.le_of_ble_eq_true rfl⟩) (ro_V hG hPc (va_recv hK hPc (ci := 8) (q0 := 0) rfl rfl)) rfl rfl hl.1 rfl (lv_room (Nat.le_of_ble_eq_true rfl)) dX8_alike_2 ⟨Nat.le_of_ble_eq_true rfl, Nat.le_of_ble_eq_true rfl⟩)) (fun r_1 h_1 => ?_)
  obtain rfl : r_1 = none := h_1
  refine W.eq (g2 := F0 m 5 ls [.null]) rfl ?_
  refine lv_astore_nN (lv' := [(3, .null), (0, .ref h0), (1, .int x1), (2, .int x2)]) hx hb dX8_alike_5 rfl hl (by decide) rfl (fun ls hl => ?_)
  refine lv_aload_n hx hb dX8_alike_6 rfl (lv_at hl 1 rfl) ?_
  refine lv_iload_n hx hb dX8_alike_7 rfl (lv_at hl 3 rfl) ?_
  have hPc := hP.sub (ws' := [(h0, .inr (8, [.ref (a 1), .ref (a 2), .ref (a 3), .ref (a 4), .ref (a 5), .ref (a 6), .ref (a 7), .null, .int 0, .int 0, .int 0, .int 0])), (a 2, .inl (cM, 10, .inr (.inr (.inr (.inr (fun _ => none))))))]) [0, 2] rfl
  refine va_csq (va_Run.run (va_runV (As := [.int x2]) (rest := []) ⟨hx, hb, hml, hown, hts⟩ (k_X8_known l D cI cJ cZ cM h0 a x2) (cwV 1 hts gX8_alike_X8_known rfl rfl rfl (by decide +kernel) ⟨Nat.le_of_ble_eq_true rfl, Nat.le_of_ble_eq_true rfl⟩) (ro_V hG hPc (va_recv hK hPc (ci := 8) (q0 := 0) rfl rfl)) rfl rfl hl.1 rfl (lv_room (Nat.le_of_ble_eq_true rfl)) dX8_alike_8 ⟨Nat.le_of_ble_eq_true rfl, Nat.le_of_ble_eq_true rfl⟩)) (fun r_2 h_2 => ?_)
  obtain rfl : r_2 = none := h_2
  refine W.eq (g2 := F0 m 11 ls [.null]) rfl ?_
  refine lv_astoreN (lv' := [(4, .null), (3, .null), (0, .ref h0), (1, .int x1), (2, .int x2)]) hx hb dX8_alike_11 hl (by decide) rfl (fun ls hl => ?_)
  refine lv_aload_nN hx hb dX8_alike_13 rfl (lv_at hl 1 rfl) ?_
  refine lv_ifnullN (tgt := 48) hx hb dX8_alike_14 (by decide) ?_
  refine lv_iconst (v := (-1)) hx hb dX8_alike_48 (by decide) ?_
  exact W.iret (v := (-1)) hx hb hr (fun t ht hW => ⟨(-1), rfl, rfl, ht⟩) (fun _ h => by cases h) dX8_alike_49
set_option maxHeartbeats 4000000 in
set_option maxRecDepth 100000 in
/-- warn on a fresh object -/
theorem k_X8_warn (l : Launch) (D : va_G) (cI cJ cZ cM : Nat) (h0 : Nat) (a : Nat → Nat) (x1 : Int32) (x2 : Int32) : Met l yX8_warn wsX8_warn ({ frames := 1, cells := 0, slots := 0, locals := 21 } : Room) (RO D cI cJ cZ cM [.ref h0, .int x1, .int x2] [(h0, .inr (8, [.ref (a 1), .ref (a 2), .ref (a 3), .ref (a 4), .ref (a 5), .ref (a 6), .ref (a 7), .null, .int 0, .int 0, .int 0, .int 0])), (a 1, .inl (cI, 1600, .inl (fun _ => 0))), (a 2, .inl (cM, 10, .inr (.inr (.inr (.inr (fun _ => none)))))), (a 3, .inl (cI, 48, .inl (fun _ => 0))), (a 4, .inr (7, [.ref (a 8), .ref (a 9), .ref (a 10), .ref (a 11), .int 0])), (a 8, .inl (cI, 100, .inl (fun _ => 0))), (a 9, .inl (cI, 100, .inl (fun _ => 0))), (a 10, .inl (cI, 100, .inl (fun _ => 0))), (a 11, .inl (cI, 100, .inl (fun _ => 0))), (a 5, .inr (4, [.ref (a 12), .ref (a 13), .int 0, .int 0, .int 0, .int 1440, .int 1, .int 0, .int 12, .int 0])), (a 12, .inl (cI, 24, .inl (fun _ => 0))), (a 13, .inl (cI, 24, .inl (fun _ => 0))), (a 6, .inr (6, [.int 0, .int 0, .int 0, .int 0, .int 0, .int 0])), (a 7, .inr (3, [.ref (a 14), .int 0])), (a 14, .inl (cI, 8, .inl (fun _ => 0)))]) (vp_Si (fun r => r = -1)) 0 0 (fun _ => False) := by
  refine Met.ofW (cc := cX8_warn) (maxL := 3) (ret := (some .int)) (by decide) rfl ?_
  intro p e s m args below meth c s₁ B hml hv
  obtain ⟨rfl, hG, hP⟩ := hv
  have hx := B.exec
  have hb := B.bytes
  have hr := B.returns
  have hts := atoms_spec (ws := wsX8_warn) B.pre
  have hown : s.vm.findClass RX8 = some m.cls := findClass_of_methodNamed B.named
  have hlocks := B.notSynchronized
  have hK := hG.1
  have hN := hG.2
  have hl := lv_entry ([.ref h0, .int x1, .int x2]) (n := 3) (Nat.le_of_ble_eq_true rfl)
  rw [lg_entry_eq]
  generalize (lg_sl ([.ref h0, .int x1, .int x2]) ++ List.replicate (3 - (lg_sl ([.ref h0, .int x1, .int x2])).length) Slot.unset).toArray = ls at hl ⊢
  have hl : lv_has ls 3 [(0, .ref h0), (1, .int x1), (2, .int x2)] := hl
  refine lv_aload_n hx hb dX8_warn_0 rfl (lv_at hl 0 rfl) ?_
  refine lv_iload_n hx hb dX8_warn_1 rfl (lv_at hl 1 rfl) ?_
  have hPc := hP.sub (ws' := [(h0, .inr (8, [.ref (a 1), .ref (a 2), .ref (a 3), .ref (a 4), .ref (a 5), .ref (a 6), .ref (a 7), .null, .int 0, .int 0, .int 0, .int 0])), (a 2, .inl (cM, 10, .inr (.inr (.inr (.inr (fun _ => none))))))]) [0, 2] rfl
  refine va_csq (va_Run.run (va_runV (As := [.int x1]) (rest := []) ⟨hx, hb, hml, hown, hts⟩ (k_X8_known l D cI cJ cZ cM h0 a x1) (cwV 1 hts gX8_warn_X8_known rfl rfl rfl (by decide +kernel) ⟨Nat.le_of_ble_eq_true rfl, Nat.le_of_ble_eq_true rfl⟩) (ro_V hG hPc (va_recv hK hPc (ci := 8) (q0 := 0) rfl rfl)) rfl rfl hl.1 rfl (lv_room (Nat.le_of_ble_eq_true rfl)) dX8_warn_2 ⟨Nat.le_of_ble_eq_true rfl, Nat.le_of_ble_eq_true rfl⟩)) (fun r_1 h_1 => ?_)
  obtain rfl : r_1 = none := h_1
  refine W.eq (g2 := F0 m 5 ls [.null]) rfl ?_
  refine lv_ifnullN (tgt := 18) hx hb dX8_warn_5 (by decide) ?_
  refine lv_iconst (v := (-1)) hx hb dX8_warn_18 (by decide) ?_
  exact W.iret (v := (-1)) hx hb hr (fun t ht hW => ⟨(-1), rfl, rfl, ht⟩) (fun _ h => by cases h) dX8_warn_19
set_option maxHeartbeats 4000000 in
set_option maxRecDepth 100000 in
/-- job on a fresh object -/
theorem k_X8_job (l : Launch) (D : va_G) (cI cJ cZ cM : Nat) (h0 : Nat) (a : Nat → Nat) (x1 : Int32) (x2 : Int32) (x3 : Int32) (x4 : Int32) : Met l yX8_job wsX8_job ({ frames := 1, cells := 0, slots := 0, locals := 21 } : Room) (RO D cI cJ cZ cM [.ref h0, .int x1, .int x2, .int x3, .int x4] [(h0, .inr (8, [.ref (a 1), .ref (a 2), .ref (a 3), .ref (a 4), .ref (a 5), .ref (a 6), .ref (a 7), .null, .int 0, .int 0, .int 0, .int 0])), (a 1, .inl (cI, 1600, .inl (fun _ => 0))), (a 2, .inl (cM, 10, .inr (.inr (.inr (.inr (fun _ => none)))))), (a 3, .inl (cI, 48, .inl (fun _ => 0))), (a 4, .inr (7, [.ref (a 8), .ref (a 9), .ref (a 10), .ref (a 11), .int 0])), (a 8, .inl (cI, 100, .inl (fun _ => 0))), (a 9, .inl (cI, 100, .inl (fun _ => 0))), (a 10, .inl (cI, 100, .inl (fun _ => 0))), (a 11, .inl (cI, 100, .inl (fun _ => 0))), (a 5, .inr (4, [.ref (a 12), .ref (a 13), .int 0, .int 0, .int 0, .int 1440, .int 1, .int 0, .int 12, .int 0])), (a 12, .inl (cI, 24, .inl (fun _ => 0))), (a 13, .inl (cI, 24, .inl (fun _ => 0))), (a 6, .inr (6, [.int 0, .int 0, .int 0, .int 0, .int 0, .int 0])), (a 7, .inr (3, [.ref (a 14), .int 0])), (a 14, .inl (cI, 8, .inl (fun _ => 0)))]) (vp_Si (fun r => r = 0)) 0 0 (fun _ => False) := by
  refine Met.ofW (cc := cX8_job) (maxL := 6) (ret := (some .boolean)) (by decide) rfl ?_
  intro p e s m args below meth c s₁ B hml hv
  obtain ⟨rfl, hG, hP⟩ := hv
  have hx := B.exec
  have hb := B.bytes
  have hr := B.returns
  have hts := atoms_spec (ws := wsX8_job) B.pre
  have hown : s.vm.findClass RX8 = some m.cls := findClass_of_methodNamed B.named
  have hlocks := B.notSynchronized
  have hK := hG.1
  have hN := hG.2
  have hl := lv_entry ([.ref h0, .int x1, .int x2, .int x3, .int x4]) (n := 6) (Nat.le_of_ble_eq_true rfl)
  rw [lg_entry_eq]
  generalize (lg_sl ([.ref h0, .int x1, .int x2, .int x3, .int x4]) ++ List.replicate (6 - (lg_sl ([.ref h0, .int x1, .int x2, .int x3, .int x4])).length) Slot.unset).toArray = ls at hl ⊢
  have hl : lv_has ls 6 [(0, .ref h0), (1, .int x1), (2, .int x2), (3, .int x3), (4, .int x4)] := hl
  refine lv_aload_n hx hb dX8_job_0 rfl (lv_at hl 0 rfl) ?_
  refine lv_iload_n hx hb dX8_job_1 rfl (lv_at hl 1 rfl) ?_
  have hPc := hP.sub (ws' := [(h0, .inr (8, [.ref (a 1), .ref (a 2), .ref (a 3), .ref (a 4), .ref (a 5), .ref (a 6), .ref (a 7), .null, .int 0, .int 0, .int 0, .int 0])), (a 2, .inl (cM, 10, .inr (.inr (.inr (.inr (fun _ => none))))))]) [0, 2] rfl
  refine va_csq (va_Run.run (va_runV (As := [.int x1]) (rest := []) ⟨hx, hb, hml, hown, hts⟩ (k_X8_known l D cI cJ cZ cM h0 a x1) (cwV 1 hts gX8_job_X8_known rfl rfl rfl (by decide +kernel) ⟨Nat.le_of_ble_eq_true rfl, Nat.le_of_ble_eq_true rfl⟩) (ro_V hG hPc (va_recv hK hPc (ci := 8) (q0 := 0) rfl rfl)) rfl rfl hl.1 rfl (lv_room (Nat.le_of_ble_eq_true rfl)) dX8_job_2 ⟨Nat.le_of_ble_eq_true rfl, Nat.le_of_ble_eq_true rfl⟩)) (fun r_1 h_1 => ?_)
  obtain rfl : r_1 = none := h_1
  refine W.eq (g2 := F0 m 5 ls [.null]) rfl ?_
  refine lv_astoreN (lv' := [(5, .null), (0, .ref h0), (1, .int x1), (2, .int x2), (3, .int x3), (4, .int x4)]) hx hb dX8_job_5 hl (by decide) rfl (fun ls hl => ?_)
  refine lv_aloadN hx hb dX8_job_7 (lv_at hl 0 rfl) ?_
  refine lv_ifnullN (tgt := 46) hx hb dX8_job_9 (by decide) ?_
  refine lv_iconst (v := 0) hx hb dX8_job_46 (by decide) ?_
  exact W.zret (v := 0) hx hb hr rfl (fun t ht hW => ⟨0, rfl, rfl, ht⟩) (fun _ h => by cases h) dX8_job_47
set_option maxHeartbeats 4000000 in
set_option maxRecDepth 100000 in
/-- cancel on a fresh object -/
theorem k_X8_cancel (l : Launch) (D : va_G) (cI cJ cZ cM : Nat) (h0 : Nat) (a : Nat → Nat) (x1 : Int32) : Met l yX8_cancel wsX8_cancel ({ frames := 2, cells := 0, slots := 0, locals := 43 } : Room) (RO D cI cJ cZ cM [.ref h0, .int x1] [(h0, .inr (8, [.ref (a 1), .ref (a 2), .ref (a 3), .ref (a 4), .ref (a 5), .ref (a 6), .ref (a 7), .null, .int 0, .int 0, .int 0, .int 0])), (a 1, .inl (cI, 1600, .inl (fun _ => 0))), (a 2, .inl (cM, 10, .inr (.inr (.inr (.inr (fun _ => none)))))), (a 3, .inl (cI, 48, .inl (fun _ => 0))), (a 4, .inr (7, [.ref (a 8), .ref (a 9), .ref (a 10), .ref (a 11), .int 0])), (a 8, .inl (cI, 100, .inl (fun _ => 0))), (a 9, .inl (cI, 100, .inl (fun _ => 0))), (a 10, .inl (cI, 100, .inl (fun _ => 0))), (a 11, .inl (cI, 100, .inl (fun _ => 0))), (a 5, .inr (4, [.ref (a 12), .ref (a 13), .int 0, .int 0, .int 0, .int 1440, .int 1, .int 0, .int 12, .int 0])), (a 12, .inl (cI, 24, .inl (fun _ => 0))), (a 13, .inl (cI, 24, .inl (fun _ => 0))), (a 6, .inr (6, [.int 0, .int 0, .int 0, .int 0, .int 0, .int 0])), (a 7, .inr (3, [.ref (a 14), .int 0])), (a 14, .inl (cI, 8, .inl (fun _ => 0)))]) (vp_Si (fun r => r = 0)) 0 0 (fun _ => False) := by
  refine Met.ofW (cc := cX8_cancel) (maxL := 2) (ret := (some .boolean)) (by decide) rfl ?_
  intro p e s m args below meth c s₁ B hml hv
  obtain ⟨rfl, hG, hP⟩ := hv
  have hx := B.exec
  have hb := B.bytes
  have hr := B.returns
  have hts := atoms_spec (ws := wsX8_cancel) B.pre
  have hown : s.vm.findClass RX8 = some m.cls := findClass_of_methodNamed B.named
  have hlocks := B.notSynchronized
  have hK := hG.1
  have hN := hG.2
  have hl := lv_entry ([.ref h0, .int x1]) (n := 2) (Nat.le_of_ble_eq_true rfl)
  rw [lg_entry_eq]
  generalize (lg_sl ([.ref h0, .int x1]) ++ List.replicate (2 - (lg_sl ([.ref h0, .int x1])).length) Slot.unset).toArray = ls at hl ⊢
  have hl : lv_has ls 2 [(0, .ref h0), (1, .int x1)] := hl
  refine lv_aload_n hx hb dX8_cancel_0 rfl (lv_at hl 0 rfl) ?_
  refine va_get (D := D) (ci := 8) (v := .ref (a 4)) (C := RX8) (T := TX8) (N := 12) hx hb hts (fun _ h9 => List.mem_cons_of_mem _ (List.mem_append_left _ (List.mem_append_right _ h9))) hown hK hP 0 rfl rfl 3 (by decide) (hts (.fieldLink RX8 25 "BuoyTender" "warnings" "LBuoyTender$Warnings;") (by decide +kernel)) (fun _ h9 => h9) rfl dX8_cancel_1 ?_
  refine lv_iload_n hx hb dX8_cancel_4 rfl (lv_at hl 1 rfl) ?_
  refine lv_aload_n hx hb dX8_cancel_5 rfl (lv_at hl 0 rfl) ?_
  refine va_get (D := D) (ci := 8) (v := .int 0) (C := RX8) (T := TX8) (N := 12) hx hb hts (fun _ h9 => List.mem_cons_of_mem _ (List.mem_append_left _ (List.mem_append_right _ h9))) hown hK hP 0 rfl rfl 9 (by decide) (hts (.fieldLink RX8 113 "BuoyTender" "today" "I") (by decide +kernel)) (fun _ h9 => h9) rfl dX8_cancel_6 ?_
  have hPc := hP.sub (ws' := [(a 4, .inr (7, [.ref (a 8), .ref (a 9), .ref (a 10), .ref (a 11), .int 0]))]) [4] rfl
  refine vp_callSi (va_Run.run (va_runVN (As := [.int x1, .int 0]) (rest := []) ⟨hx, hb, hml, hown, hts⟩ (k_X7_end l D cI cJ cZ cM (a 4) (a 8) (a 9) (a 10) (a 11) x1 0) ⟨(va_cnB 2 hts gX8_cancel_X7_end_n186 rfl rfl rfl (hN.2.1 (RX8, 186, yX7_end, "BuoyTender") (by decide +kernel)) (hts (.initialized RX7) (by decide +kernel)) (by decide +kernel) ⟨Nat.le_of_ble_eq_true rfl, Nat.le_of_ble_eq_true rfl⟩), hts (.instanceMethod yX7_end) (by decide +kernel), hts (.selects RX7 yX7_end yX7_end) (by decide +kernel)⟩ (ro_V hG hPc (va_recv hK hPc (ci := 7) (q0 := 0) rfl rfl)) rfl rfl hl.1 rfl (lv_room (Nat.le_of_ble_eq_true rfl)) dX8_cancel_9 ⟨Nat.le_of_ble_eq_true rfl, Nat.le_of_ble_eq_true rfl⟩)) (fun r_1 h_1 => ?_)
  obtain rfl : r_1 = 0 := h_1
  exact W.zret (v := 0) hx hb hr rfl (fun t ht hW => ⟨0, rfl, rfl, ht⟩) (fun _ h => by cases h) dX8_cancel_12
set_option maxHeartbeats 4000000 in
set_option maxRecDepth 100000 in
/-- warning on a fresh object -/
theorem k_X8_warning (l : Launch) (D : va_G) (cI cJ cZ cM : Nat) (h0 : Nat) (a : Nat → Nat) (x1 : Int32) (x2 : Int32) : Met l yX8_warning wsX8_warning ({ frames := 1, cells := 0, slots := 0, locals := 21 } : Room) (RO D cI cJ cZ cM [.ref h0, .int x1, .int x2] [(h0, .inr (8, [.ref (a 1), .ref (a 2), .ref (a 3), .ref (a 4), .ref (a 5), .ref (a 6), .ref (a 7), .null, .int 0, .int 0, .int 0, .int 0])), (a 1, .inl (cI, 1600, .inl (fun _ => 0))), (a 2, .inl (cM, 10, .inr (.inr (.inr (.inr (fun _ => none)))))), (a 3, .inl (cI, 48, .inl (fun _ => 0))), (a 4, .inr (7, [.ref (a 8), .ref (a 9), .ref (a 10), .ref (a 11), .int 0])), (a 8, .inl (cI, 100, .inl (fun _ => 0))), (a 9, .inl (cI, 100, .inl (fun _ => 0))), (a 10, .inl (cI, 100, .inl (fun _ => 0))), (a 11, .inl (cI, 100, .inl (fun _ => 0))), (a 5, .inr (4, [.ref (a 12), .ref (a 13), .int 0, .int 0, .int 0, .int 1440, .int 1, .int 0, .int 12, .int 0])), (a 12, .inl (cI, 24, .inl (fun _ => 0))), (a 13, .inl (cI, 24, .inl (fun _ => 0))), (a 6, .inr (6, [.int 0, .int 0, .int 0, .int 0, .int 0, .int 0])), (a 7, .inr (3, [.ref (a 14), .int 0])), (a 14, .inl (cI, 8, .inl (fun _ => 0)))]) (vp_Si (fun r => r = -1)) 0 0 (fun _ => False) := by
  refine Met.ofW (cc := cX8_warning) (maxL := 3) (ret := (some .int)) (by decide) rfl ?_
  intro p e s m args below meth c s₁ B hml hv
  obtain ⟨rfl, hG, hP⟩ := hv
  have hx := B.exec
  have hb := B.bytes
  have hr := B.returns
  have hts := atoms_spec (ws := wsX8_warning) B.pre
  have hown : s.vm.findClass RX8 = some m.cls := findClass_of_methodNamed B.named
  have hlocks := B.notSynchronized
  have hK := hG.1
  have hN := hG.2
  have hl := lv_entry ([.ref h0, .int x1, .int x2]) (n := 3) (Nat.le_of_ble_eq_true rfl)
  rw [lg_entry_eq]
  generalize (lg_sl ([.ref h0, .int x1, .int x2]) ++ List.replicate (3 - (lg_sl ([.ref h0, .int x1, .int x2])).length) Slot.unset).toArray = ls at hl ⊢
  have hl : lv_has ls 3 [(0, .ref h0), (1, .int x1), (2, .int x2)] := hl
  refine lv_aload_n hx hb dX8_warning_0 rfl (lv_at hl 0 rfl) ?_
  refine va_get (D := D) (ci := 8) (v := .ref (a 4)) (C := RX8) (T := TX8) (N := 12) hx hb hts (fun _ h9 => List.mem_cons_of_mem _ (List.mem_append_left _ (List.mem_append_right _ h9))) hown hK hP 0 rfl rfl 3 (by decide) (hts (.fieldLink RX8 25 "BuoyTender" "warnings" "LBuoyTender$Warnings;") (by decide +kernel)) (fun _ h9 => h9) rfl dX8_warning_1 ?_
  refine lv_iload_n hx hb dX8_warning_4 rfl (lv_at hl 1 rfl) ?_
  have hPc := hP.sub (ws' := [(a 4, .inr (7, [.ref (a 8), .ref (a 9), .ref (a 10), .ref (a 11), .int 0]))]) [4] rfl
  refine vp_callSi (va_Run.run (va_runVN (As := [.int x1]) (rest := []) ⟨hx, hb, hml, hown, hts⟩ (k_X7_has l D cI cJ cZ cM (a 4) (a 8) (a 9) (a 10) (a 11) x1) ⟨(va_cnB 1 hts gX8_warning_X7_has_n196 rfl rfl rfl (hN.2.1 (RX8, 196, yX7_has, "BuoyTender") (by decide +kernel)) (hts (.initialized RX7) (by decide +kernel)) (by decide +kernel) ⟨Nat.le_of_ble_eq_true rfl, Nat.le_of_ble_eq_true rfl⟩), hts (.instanceMethod yX7_has) (by decide +kernel), hts (.selects RX7 yX7_has yX7_has) (by decide +kernel)⟩ (ro_V hG hPc (va_recv hK hPc (ci := 7) (q0 := 0) rfl rfl)) rfl rfl hl.1 rfl (lv_room (Nat.le_of_ble_eq_true rfl)) dX8_warning_5 ⟨Nat.le_of_ble_eq_true rfl, Nat.le_of_ble_eq_true rfl⟩)) (fun r_1 h_1 => ?_)
  obtain rfl : r_1 = 0 := h_1
  refine lv_if_ne (tgt := 13) hx hb dX8_warning_8 (by decide) (fun c_2 => False.elim (by revert c_2; decide)) (fun _ => ?_)
  refine lv_iconst (v := (-1)) hx hb dX8_warning_11 (by decide) ?_
  exact W.iret (v := (-1)) hx hb hr (fun t ht hW => ⟨(-1), rfl, rfl, ht⟩) (fun _ h => by cases h) dX8_warning_12
set_option maxHeartbeats 4000000 in
set_option maxRecDepth 100000 in
/-- listed on a fresh object -/
theorem k_X8_listed (l : Launch) (D : va_G) (cI cJ cZ cM : Nat) (h0 : Nat) (a : Nat → Nat) (x1 : Int32) (x2 : Int32) : Met l yX8_listed wsX8_listed ({ frames := 1, cells := 0, slots := 0, locals := 24 } : Room) (RO D cI cJ cZ cM [.ref h0, .int x1, .int x2] [(h0, .inr (8, [.ref (a 1), .ref (a 2), .ref (a 3), .ref (a 4), .ref (a 5), .ref (a 6), .ref (a 7), .null, .int 0, .int 0, .int 0, .int 0])), (a 1, .inl (cI, 1600, .inl (fun _ => 0))), (a 2, .inl (cM, 10, .inr (.inr (.inr (.inr (fun _ => none)))))), (a 3, .inl (cI, 48, .inl (fun _ => 0))), (a 4, .inr (7, [.ref (a 8), .ref (a 9), .ref (a 10), .ref (a 11), .int 0])), (a 8, .inl (cI, 100, .inl (fun _ => 0))), (a 9, .inl (cI, 100, .inl (fun _ => 0))), (a 10, .inl (cI, 100, .inl (fun _ => 0))), (a 11, .inl (cI, 100, .inl (fun _ => 0))), (a 5, .inr (4, [.ref (a 12), .ref (a 13), .int 0, .int 0, .int 0, .int 1440, .int 1, .int 0, .int 12, .int 0])), (a 12, .inl (cI, 24, .inl (fun _ => 0))), (a 13, .inl (cI, 24, .inl (fun _ => 0))), (a 6, .inr (6, [.int 0, .int 0, .int 0, .int 0, .int 0, .int 0])), (a 7, .inr (3, [.ref (a 14), .int 0])), (a 14, .inl (cI, 8, .inl (fun _ => 0)))]) (vp_Si (fun r => r = -1)) 0 0 (fun _ => False) := by
  refine Met.ofW (cc := cX8_listed) (maxL := 3) (ret := (some .int)) (by decide) rfl ?_
  intro p e s m args below meth c s₁ B hml hv
  obtain ⟨rfl, hG, hP⟩ := hv
  have hx := B.exec
  have hb := B.bytes
  have hr := B.returns
  have hts := atoms_spec (ws := wsX8_listed) B.pre
  have hown : s.vm.findClass RX8 = some m.cls := findClass_of_methodNamed B.named
  have hlocks := B.notSynchronized
  have hK := hG.1
  have hN := hG.2
  have hl := lv_entry ([.ref h0, .int x1, .int x2]) (n := 3) (Nat.le_of_ble_eq_true rfl)
  rw [lg_entry_eq]
  generalize (lg_sl ([.ref h0, .int x1, .int x2]) ++ List.replicate (3 - (lg_sl ([.ref h0, .int x1, .int x2])).length) Slot.unset).toArray = ls at hl ⊢
  have hl : lv_has ls 3 [(0, .ref h0), (1, .int x1), (2, .int x2)] := hl
  refine lv_iload_n hx hb dX8_listed_0 rfl (lv_at hl 1 rfl) ?_
  refine lv_iconst (v := 0) hx hb dX8_listed_1 (by decide) ?_
  refine lv_aload_n hx hb dX8_listed_2 rfl (lv_at hl 0 rfl) ?_
  refine va_get (D := D) (ci := 8) (v := .int 0) (C := RX8) (T := TX8) (N := 12) hx hb hts (fun _ h9 => List.mem_cons_of_mem _ (List.mem_append_left _ (List.mem_append_right _ h9))) hown hK hP 0 rfl rfl 9 (by decide) (hts (.fieldLink RX8 113 "BuoyTender" "today" "I") (by decide +kernel)) (fun _ h9 => h9) rfl dX8_listed_3 ?_
  refine vp_callSi (va_Run.run (va_runS (As := [.int x1, .int 0, .int 0]) (rest := []) ⟨hx, hb, hml, hown, hts⟩ (k_X8_within l x1 0 0) (va_cwS 3 hts gX8_listed_X8_within rfl rfl rfl (by decide +kernel) ⟨Nat.le_of_ble_eq_true rfl, Nat.le_of_ble_eq_true rfl⟩) preEq rfl rfl hl.1 rfl (lv_room (Nat.le_of_ble_eq_true rfl)) dX8_listed_6 ⟨Nat.le_of_ble_eq_true rfl, Nat.le_of_ble_eq_true rfl⟩)) (fun r_1 h_1 => ?_)
  rcases h_1 with ⟨rfl, h_1⟩ | ⟨rfl, h_1⟩
  · refine lv_if_eq (tgt := 24) hx hb dX8_listed_9 (by decide) (fun c_2 => False.elim (by revert c_2; decide)) (fun _ => ?_)
    refine lv_aload_n hx hb dX8_listed_12 rfl (lv_at hl 0 rfl) ?_
    refine va_get (D := D) (ci := 8) (v := .ref (a 4)) (C := RX8) (T := TX8) (N := 12) hx hb hts (fun _ h9 => List.mem_cons_of_mem _ (List.mem_append_left _ (List.mem_append_right _ h9))) hown hK hP 0 rfl rfl 3 (by decide) (hts (.fieldLink RX8 25 "BuoyTender" "warnings" "LBuoyTender$Warnings;") (by decide +kernel)) (fun _ h9 => h9) rfl dX8_listed_13 ?_
    refine lv_iload_n hx hb dX8_listed_16 rfl (lv_at hl 1 rfl) ?_
    refine lv_iload_n hx hb dX8_listed_17 rfl (lv_at hl 2 rfl) ?_
    have hPc := hP.sub (ws' := [(a 4, .inr (7, [.ref (a 8), .ref (a 9), .ref (a 10), .ref (a 11), .int 0]))]) [4] rfl
    refine vp_callSi (va_Run.run (va_runVN (As := [.int x1, .int x2]) (rest := []) ⟨hx, hb, hml, hown, hts⟩ (k_X7_numberOn l D cI cJ cZ cM (a 4) (a 8) (a 9) (a 10) (a 11) x1 x2) ⟨(va_cnB 2 hts gX8_listed_X7_numberOn_n193 rfl rfl rfl (hN.2.1 (RX8, 193, yX7_numberOn, "BuoyTender") (by decide +kernel)) (hts (.initialized RX7) (by decide +kernel)) (by decide +kernel) ⟨Nat.le_of_ble_eq_true rfl, Nat.le_of_ble_eq_true rfl⟩), hts (.instanceMethod yX7_numberOn) (by decide +kernel), hts (.selects RX7 yX7_numberOn yX7_numberOn) (by decide +kernel)⟩ (ro_V hG hPc (va_recv hK hPc (ci := 7) (q0 := 0) rfl rfl)) rfl rfl hl.1 rfl (lv_room (Nat.le_of_ble_eq_true rfl)) dX8_listed_18 ⟨Nat.le_of_ble_eq_true rfl, Nat.le_of_ble_eq_true rfl⟩)) (fun r_3 h_3 => ?_)
    obtain rfl : r_3 = (-1) := h_3
    refine lv_goto (tgt := 25) hx hb dX8_listed_21 (by decide) ?_
    exact W.iret (v := (-1)) hx hb hr (fun t ht hW => ⟨(-1), rfl, rfl, ht⟩) (fun _ h => by cases h) dX8_listed_25
  refine lv_if_eq (tgt := 24) hx hb dX8_listed_9 (by decide) (fun _ => ?_) (fun c_4 => False.elim (by revert c_4; decide))
  refine lv_iconst (v := (-1)) hx hb dX8_listed_24 (by decide) ?_
  exact W.iret (v := (-1)) hx hb hr (fun t ht hW => ⟨(-1), rfl, rfl, ht⟩) (fun _ h => by cases h) dX8_listed_25
set_option maxHeartbeats 4000000 in
set_option maxRecDepth 100000 in
/-- list on a fresh object -/
theorem k_X8_list (l : Launch) (D : va_G) (cI cJ cZ cM : Nat) (h0 : Nat) (a : Nat → Nat) (x1 : Int32) : Met l yX8_list wsX8_list ({ frames := 1, cells := 0, slots := 0, locals := 23 } : Room) (RO D cI cJ cZ cM [.ref h0, .int x1] [(h0, .inr (8, [.ref (a 1), .ref (a 2), .ref (a 3), .ref (a 4), .ref (a 5), .ref (a 6), .ref (a 7), .null, .int 0, .int 0, .int 0, .int 0])), (a 1, .inl (cI, 1600, .inl (fun _ => 0))), (a 2, .inl (cM, 10, .inr (.inr (.inr (.inr (fun _ => none)))))), (a 3, .inl (cI, 48, .inl (fun _ => 0))), (a 4, .inr (7, [.ref (a 8), .ref (a 9), .ref (a 10), .ref (a 11), .int 0])), (a 8, .inl (cI, 100, .inl (fun _ => 0))), (a 9, .inl (cI, 100, .inl (fun _ => 0))), (a 10, .inl (cI, 100, .inl (fun _ => 0))), (a 11, .inl (cI, 100, .inl (fun _ => 0))), (a 5, .inr (4, [.ref (a 12), .ref (a 13), .int 0, .int 0, .int 0, .int 1440, .int 1, .int 0, .int 12, .int 0])), (a 12, .inl (cI, 24, .inl (fun _ => 0))), (a 13, .inl (cI, 24, .inl (fun _ => 0))), (a 6, .inr (6, [.int 0, .int 0, .int 0, .int 0, .int 0, .int 0])), (a 7, .inr (3, [.ref (a 14), .int 0])), (a 14, .inl (cI, 8, .inl (fun _ => 0)))]) (vp_Si (fun r => okI 0 (-1) (0 ≤ x1 ∧ x1 ≤ 0) r)) 0 0 (fun _ => False) := by
  refine Met.ofW (cc := cX8_list) (maxL := 2) (ret := (some .int)) (by decide) rfl ?_
  intro p e s m args below meth c s₁ B hml hv
  obtain ⟨rfl, hG, hP⟩ := hv
  have hx := B.exec
  have hb := B.bytes
  have hr := B.returns
  have hts := atoms_spec (ws := wsX8_list) B.pre
  have hown : s.vm.findClass RX8 = some m.cls := findClass_of_methodNamed B.named
  have hlocks := B.notSynchronized
  have hK := hG.1
  have hN := hG.2
  have hl := lv_entry ([.ref h0, .int x1]) (n := 2) (Nat.le_of_ble_eq_true rfl)
  rw [lg_entry_eq]
  generalize (lg_sl ([.ref h0, .int x1]) ++ List.replicate (2 - (lg_sl ([.ref h0, .int x1])).length) Slot.unset).toArray = ls at hl ⊢
  have hl : lv_has ls 2 [(0, .ref h0), (1, .int x1)] := hl
  refine lv_iload_n hx hb dX8_list_0 rfl (lv_at hl 1 rfl) ?_
  refine lv_iconst (v := 0) hx hb dX8_list_1 (by decide) ?_
  refine lv_aload_n hx hb dX8_list_2 rfl (lv_at hl 0 rfl) ?_
  refine va_get (D := D) (ci := 8) (v := .int 0) (C := RX8) (T := TX8) (N := 12) hx hb hts (fun _ h9 => List.mem_cons_of_mem _ (List.mem_append_left _ (List.mem_append_right _ h9))) hown hK hP 0 rfl rfl 9 (by decide) (hts (.fieldLink RX8 113 "BuoyTender" "today" "I") (by decide +kernel)) (fun _ h9 => h9) rfl dX8_list_3 ?_
  refine vp_callSi (va_Run.run (va_runS (As := [.int x1, .int 0, .int 0]) (rest := []) ⟨hx, hb, hml, hown, hts⟩ (k_X8_within l x1 0 0) (va_cwS 3 hts gX8_list_X8_within rfl rfl rfl (by decide +kernel) ⟨Nat.le_of_ble_eq_true rfl, Nat.le_of_ble_eq_true rfl⟩) preEq rfl rfl hl.1 rfl (lv_room (Nat.le_of_ble_eq_true rfl)) dX8_list_6 ⟨Nat.le_of_ble_eq_true rfl, Nat.le_of_ble_eq_true rfl⟩)) (fun r_1 h_1 => ?_)
  rcases h_1 with ⟨rfl, h_1⟩ | ⟨rfl, h_1⟩
  · refine lv_if_eq (tgt := 23) hx hb dX8_list_9 (by decide) (fun c_2 => False.elim (by revert c_2; decide)) (fun _ => ?_)
    refine lv_aload_n hx hb dX8_list_12 rfl (lv_at hl 0 rfl) ?_
    refine va_get (D := D) (ci := 8) (v := .ref (a 4)) (C := RX8) (T := TX8) (N := 12) hx hb hts (fun _ h9 => List.mem_cons_of_mem _ (List.mem_append_left _ (List.mem_append_right _ h9))) hown hK hP 0 rfl rfl 3 (by decide) (hts (.fieldLink RX8 25 "BuoyTender" "warnings" "LBuoyTender$Warnings;") (by decide +kernel)) (fun _ h9 => h9) rfl dX8_list_13 ?_
    refine lv_iload_n hx hb dX8_list_16 rfl (lv_at hl 1 rfl) ?_
    have hPc := hP.sub (ws' := [(a 4, .inr (7, [.ref (a 8), .ref (a 9), .ref (a 10), .ref (a 11), .int 0]))]) [4] rfl
    refine vp_callSi (va_Run.run (va_runVN (As := [.int x1]) (rest := []) ⟨hx, hb, hml, hown, hts⟩ (k_X7_countOn l D cI cJ cZ cM (a 4) (a 8) (a 9) (a 10) (a 11) x1) ⟨(va_cnB 1 hts gX8_list_X7_countOn_n189 rfl rfl rfl (hN.2.1 (RX8, 189, yX7_countOn, "BuoyTender") (by decide +kernel)) (hts (.initialized RX7) (by decide +kernel)) (by decide +kernel) ⟨Nat.le_of_ble_eq_true rfl, Nat.le_of_ble_eq_true rfl⟩), hts (.instanceMethod yX7_countOn) (by decide +kernel), hts (.selects RX7 yX7_countOn yX7_countOn) (by decide +kernel)⟩ (ro_V hG hPc (va_recv hK hPc (ci := 7) (q0 := 0) rfl rfl)) rfl rfl hl.1 rfl (lv_room (Nat.le_of_ble_eq_true rfl)) dX8_list_17 ⟨Nat.le_of_ble_eq_true rfl, Nat.le_of_ble_eq_true rfl⟩)) (fun r_3 h_3 => ?_)
    obtain rfl : r_3 = 0 := h_3
    refine lv_goto (tgt := 24) hx hb dX8_list_20 (by decide) ?_
    exact W.iret (v := 0) hx hb hr (fun t ht hW => ⟨0, rfl, (Or.inl ⟨rfl, h_1⟩), ht⟩) (fun _ h => by cases h) dX8_list_24
  refine lv_if_eq (tgt := 23) hx hb dX8_list_9 (by decide) (fun _ => ?_) (fun c_4 => False.elim (by revert c_4; decide))
  refine lv_iconst (v := (-1)) hx hb dX8_list_23 (by decide) ?_
  exact W.iret (v := (-1)) hx hb hr (fun t ht hW => ⟨(-1), rfl, (Or.inr ⟨rfl, fun h9 => h_1 (h9)⟩), ht⟩) (fun _ h => by cases h) dX8_list_24
set_option maxHeartbeats 4000000 in
set_option maxRecDepth 100000 in
/-- about on a fresh object -/
theorem k_X8_about (l : Launch) (D : va_G) (cI cJ cZ cM : Nat) (h0 : Nat) (a : Nat → Nat) (x1 : Int32) : Met l yX8_about wsX8_about ({ frames := 1, cells := 0, slots := 0, locals := 23 } : Room) (RO D cI cJ cZ cM [.ref h0, .int x1] [(h0, .inr (8, [.ref (a 1), .ref (a 2), .ref (a 3), .ref (a 4), .ref (a 5), .ref (a 6), .ref (a 7), .null, .int 0, .int 0, .int 0, .int 0])), (a 1, .inl (cI, 1600, .inl (fun _ => 0))), (a 2, .inl (cM, 10, .inr (.inr (.inr (.inr (fun _ => none)))))), (a 3, .inl (cI, 48, .inl (fun _ => 0))), (a 4, .inr (7, [.ref (a 8), .ref (a 9), .ref (a 10), .ref (a 11), .int 0])), (a 8, .inl (cI, 100, .inl (fun _ => 0))), (a 9, .inl (cI, 100, .inl (fun _ => 0))), (a 10, .inl (cI, 100, .inl (fun _ => 0))), (a 11, .inl (cI, 100, .inl (fun _ => 0))), (a 5, .inr (4, [.ref (a 12), .ref (a 13), .int 0, .int 0, .int 0, .int 1440, .int 1, .int 0, .int 12, .int 0])), (a 12, .inl (cI, 24, .inl (fun _ => 0))), (a 13, .inl (cI, 24, .inl (fun _ => 0))), (a 6, .inr (6, [.int 0, .int 0, .int 0, .int 0, .int 0, .int 0])), (a 7, .inr (3, [.ref (a 14), .int 0])), (a 14, .inl (cI, 8, .inl (fun _ => 0)))]) (vp_Si (fun r => r = aboutF x1)) 0 0 (fun _ => False) := by
  refine Met.ofW (cc := cX8_about) (maxL := 2) (ret := (some .int)) (by decide) rfl ?_
  intro p e s m args below meth c s₁ B hml hv
  obtain ⟨rfl, hG, hP⟩ := hv
  have hx := B.exec
  have hb := B.bytes
  have hr := B.returns
  have hts := atoms_spec (ws := wsX8_about) B.pre
  have hown : s.vm.findClass RX8 = some m.cls := findClass_of_methodNamed B.named
  have hlocks := B.notSynchronized
  have hK := hG.1
  have hN := hG.2
  have hl := lv_entry ([.ref h0, .int x1]) (n := 2) (Nat.le_of_ble_eq_true rfl)
  rw [lg_entry_eq]
  generalize (lg_sl ([.ref h0, .int x1]) ++ List.replicate (2 - (lg_sl ([.ref h0, .int x1])).length) Slot.unset).toArray = ls at hl ⊢
  have hl : lv_has ls 2 [(0, .ref h0), (1, .int x1)] := hl
  refine lv_iload_n hx hb dX8_about_0 rfl (lv_at hl 1 rfl) ?_
  by_cases s_1 : x1 = 0
  · refine lv_tableIn (off := 39) (tgt := 40) hx hb dX8_about_1 (by rw [s_1]; decide) (by rw [s_1]; decide) (by rw [s_1]; decide) (by decide) ?_
    refine lv_aload_n hx hb dX8_about_40 rfl (lv_at hl 0 rfl) ?_
    refine va_get (D := D) (ci := 8) (v := .int 0) (C := RX8) (T := TX8) (N := 12) hx hb hts (fun _ h9 => List.mem_cons_of_mem _ (List.mem_append_left _ (List.mem_append_left _ (List.mem_append_left _ (List.mem_append_right _ h9))))) hown hK hP 0 rfl rfl 8 (by decide) (hts (.fieldLink RX8 62 "BuoyTender" "markCount" "I") (by decide +kernel)) (fun _ h9 => h9) rfl dX8_about_41 ?_
    exact W.iret (v := 0) hx hb hr (fun t ht hW => ⟨0, rfl, (by simp only [aboutF, s_1]; decide), ht⟩) (fun _ h => by cases h) dX8_about_44
  by_cases s_2 : x1 = 1
  · refine lv_tableIn (off := 44) (tgt := 45) hx hb dX8_about_1 (by rw [s_2]; decide) (by rw [s_2]; decide) (by rw [s_2]; decide) (by decide) ?_
    refine lv_aload_n hx hb dX8_about_45 rfl (lv_at hl 0 rfl) ?_
    refine va_get (D := D) (ci := 8) (v := .int 0) (C := RX8) (T := TX8) (N := 12) hx hb hts (fun _ h9 => List.mem_cons_of_mem _ (List.mem_append_left _ (List.mem_append_left _ (List.mem_append_left _ (List.mem_append_right _ h9))))) hown hK hP 0 rfl rfl 9 (by decide) (hts (.fieldLink RX8 113 "BuoyTender" "today" "I") (by decide +kernel)) (fun _ h9 => h9) rfl dX8_about_46 ?_
    exact W.iret (v := 0) hx hb hr (fun t ht hW => ⟨0, rfl, (by simp only [aboutF, s_1, s_2]; decide), ht⟩) (fun _ h => by cases h) dX8_about_49
  by_cases s_3 : x1 = 2
  · refine lv_tableIn (off := 49) (tgt := 50) hx hb dX8_about_1 (by rw [s_3]; decide) (by rw [s_3]; decide) (by rw [s_3]; decide) (by decide) ?_
    refine lv_aload_n hx hb dX8_about_50 rfl (lv_at hl 0 rfl) ?_
    refine va_get (D := D) (ci := 8) (v := .ref (a 4)) (C := RX8) (T := TX8) (N := 12) hx hb hts (fun _ h9 => List.mem_cons_of_mem _ (List.mem_append_left _ (List.mem_append_left _ (List.mem_append_left _ (List.mem_append_right _ h9))))) hown hK hP 0 rfl rfl 3 (by decide) (hts (.fieldLink RX8 25 "BuoyTender" "warnings" "LBuoyTender$Warnings;") (by decide +kernel)) (fun _ h9 => h9) rfl dX8_about_51 ?_
    refine va_getN (D := D) (ci := 7) (v := .int 0) (C := RX7) (T := TX7) (N := 5) hx hb hts (fun _ h9 => List.mem_cons_of_mem _ (List.mem_append_left _ (List.mem_append_left _ (List.mem_append_right _ h9)))) hown hK hP 4 rfl rfl 4 (by decide) (va_Nw.use rfl (hN.1 (RX8, 271, "BuoyTender$Warnings", "count", "I", "BuoyTender") (by decide +kernel))) (fun _ h9 => h9) rfl dX8_about_54 ?_
    exact W.iret (v := 0) hx hb hr (fun t ht hW => ⟨0, rfl, (by simp only [aboutF, s_1, s_2, s_3]; decide), ht⟩) (fun _ h => by cases h) dX8_about_57
  by_cases s_4 : x1 = 3
  · refine lv_tableIn (off := 57) (tgt := 58) hx hb dX8_about_1 (by rw [s_4]; decide) (by rw [s_4]; decide) (by rw [s_4]; decide) (by decide) ?_
    refine lv_aload_n hx hb dX8_about_58 rfl (lv_at hl 0 rfl) ?_
    refine va_get (D := D) (ci := 8) (v := .int 0) (C := RX8) (T := TX8) (N := 12) hx hb hts (fun _ h9 => List.mem_cons_of_mem _ (List.mem_append_left _ (List.mem_append_left _ (List.mem_append_left _ (List.mem_append_right _ h9))))) hown hK hP 0 rfl rfl 10 (by decide) (hts (.fieldLink RX8 171 "BuoyTender" "nearness" "I") (by decide +kernel)) (fun _ h9 => h9) rfl dX8_about_59 ?_
    exact W.iret (v := 0) hx hb hr (fun t ht hW => ⟨0, rfl, (by simp only [aboutF, s_1, s_2, s_3, s_4]; decide), ht⟩) (fun _ h => by cases h) dX8_about_62
  by_cases s_5 : x1 = 4
  · refine lv_tableIn (off := 62) (tgt := 63) hx hb dX8_about_1 (by rw [s_5]; decide) (by rw [s_5]; decide) (by rw [s_5]; decide) (by decide) ?_
    refine lv_aload_n hx hb dX8_about_63 rfl (lv_at hl 0 rfl) ?_
    have hPc := hP.sub (ws' := [(h0, .inr (8, [.ref (a 1), .ref (a 2), .ref (a 3), .ref (a 4), .ref (a 5), .ref (a 6), .ref (a 7), .null, .int 0, .int 0, .int 0, .int 0]))]) [0] rfl
    refine vp_callSi (va_Run.run (va_runV (As := []) (rest := []) ⟨hx, hb, hml, hown, hts⟩ (k_X8_jobCount l D cI cJ cZ cM h0 a) (cwV 0 hts gX8_about_X8_jobCount rfl rfl rfl (by decide +kernel) ⟨Nat.le_of_ble_eq_true rfl, Nat.le_of_ble_eq_true rfl⟩) (ro_V hG hPc (va_recv hK hPc (ci := 8) (q0 := 0) rfl rfl)) rfl rfl hl.1 rfl (lv_room (Nat.le_of_ble_eq_true rfl)) dX8_about_64 ⟨Nat.le_of_ble_eq_true rfl, Nat.le_of_ble_eq_true rfl⟩)) (fun r_6 h_6 => ?_)
    obtain rfl : r_6 = 0 := h_6
    exact W.iret (v := 0) hx hb hr (fun t ht hW => ⟨0, rfl, (by simp only [aboutF, s_1, s_2, s_3, s_4, s_5]; decide), ht⟩) (fun _ h => by cases h) dX8_about_67
  by_cases s_7 : x1 = 5
  · refine lv_tableIn (off := 67) (tgt := 68) hx hb dX8_about_1 (by rw [s_7]; decide) (by rw [s_7]; decide) (by rw [s_7]; decide) (by decide) ?_
    refine lv_aload_n hx hb dX8_about_68 rfl (lv_at hl 0 rfl) ?_
    refine va_get (D := D) (ci := 8) (v := .ref (a 5)) (C := RX8) (T := TX8) (N := 12) hx hb hts (fun _ h9 => List.mem_cons_of_mem _ (List.mem_append_left _ (List.mem_append_left _ (List.mem_append_left _ (List.mem_append_right _ h9))))) hown hK hP 0 rfl rfl 4 (by decide) (hts (.fieldLink RX8 32 "BuoyTender" "vessel" "LBuoyTender$Ship;") (by decide +kernel)) (fun _ h9 => h9) rfl dX8_about_69 ?_
    refine va_getN (D := D) (ci := 4) (v := .int 1440) (C := RX4) (T := TX4) (N := 10) hx hb hts (fun _ h9 => List.mem_cons_of_mem _ (List.mem_append_left _ (List.mem_append_right _ h9))) hown hK hP 9 rfl rfl 5 (by decide) (va_Nw.use rfl (hN.1 (RX8, 243, "BuoyTender$Ship", "end", "I", "BuoyTender") (by decide +kernel))) (fun _ h9 => h9) rfl dX8_about_72 ?_
    exact W.iret (v := 1440) hx hb hr (fun t ht hW => ⟨1440, rfl, (by simp only [aboutF, s_1, s_2, s_3, s_4, s_5, s_7]; decide), ht⟩) (fun _ h => by cases h) dX8_about_75
  refine lv_tableOut (tgt := 76) hx hb dX8_about_1 (my_out (hi := 5) (fun z hz => by rcases (show z = 0 ∨ z = 1 ∨ z = 2 ∨ z = 3 ∨ z = 4 ∨ z = 5 by omega) with rfl | rfl | rfl | rfl | rfl | rfl <;> assumption) (by decide)) (by decide) ?_
  refine lv_iconst (v := (-1)) hx hb dX8_about_76 (by decide) ?_
  exact W.iret (v := (-1)) hx hb hr (fun t ht hW => ⟨(-1), rfl, (by simp only [aboutF, s_1, s_2, s_3, s_4, s_5, s_7]; decide), ht⟩) (fun _ h => by cases h) dX8_about_77
end
section
theorem ix_kc {x y X Y : Int32} {a b c N : Nat} (hX : X.toInt = a) (hY : Y.toInt = b) (hx : 0 ≤ x ∧ x ≤ X) (hy : 0 ≤ y ∧ y ≤ Y) (hN : a * c + b < N) (hs : N < 2 ^ 31) : vp_in (x * nI c + y) N := by
  obtain ⟨j, hj, rfl⟩ := nI_of2 hX (Int32.not_lt.mpr hx.1) hx.2
  obtain ⟨i, hi, rfl⟩ := nI_of2 hY (Int32.not_lt.mpr hy.1) hy.2
  rw [pk_mul, nI_add]
  have h1 : j * c ≤ a * c := Nat.mul_le_mul_right c hj
  exact vp_in_nI (by omega) hs
theorem ix_ck {x y X Y : Int32} {a b c N : Nat} (hX : X.toInt = a) (hY : Y.toInt = b) (hx : 0 ≤ x ∧ x ≤ X) (hy : 0 ≤ y ∧ y ≤ Y) (hN : a * c + b < N) (hs : N < 2 ^ 31) : vp_in (nI c * x + y) N := by
  obtain ⟨j, hj, rfl⟩ := nI_of2 hX (Int32.not_lt.mpr hx.1) hx.2
  obtain ⟨i, hi, rfl⟩ := nI_of2 hY (Int32.not_lt.mpr hy.1) hy.2
  rw [pk_mul, nI_add]
  have h1 : j * c ≤ a * c := Nat.mul_le_mul_right c hj
  rw [Nat.mul_comm]
  exact vp_in_nI (by omega) hs
theorem ix_1 {x X : Int32} {a N : Nat} (hX : X.toInt = a) (hx : 0 ≤ x ∧ x ≤ X) (hN : a < N) (hs : N < 2 ^ 31) : vp_in x N := by
  obtain ⟨j, hj, rfl⟩ := nI_of2 hX (Int32.not_lt.mpr hx.1) hx.2
  exact vp_in_nI (by omega) hs
theorem ix_rc {i j : Nat} (hi : i ≤ 39) (hj : j ≤ 39) : vp_in (nI i * 40 + nI j) 1600 := by
  have h := vp_in_nI (n := i * 40 + j) (N := 1600) (by omega) (by decide)
  rw [← nI_add, ← pk_mul] at h
  exact h
theorem ix_cr {i j : Nat} (hi : i ≤ 39) (hj : j ≤ 39) : vp_in (40 * nI i + nI j) 1600 := by
  have h := vp_in_nI (n := 40 * i + j) (N := 1600) (by omega) (by decide)
  rw [← nI_add, ← pk_mul] at h
  exact h
set_option maxHeartbeats 4000000 in
set_option maxRecDepth 100000 in
/-- X8_day on a fresh object -/
theorem k_X8_day (l : Launch) (D : va_G) (cI cJ cZ cM : Nat) (h0 : Nat) (a : Nat → Nat) (x1 : Int32) (sz : Nat) : Met l yX8_day wsX8_day ({ frames := 1, cells := 0, slots := 0, locals := 22 } : Room) (RW D cI cJ cZ cM [.ref h0, .int x1] [(h0, .inr (8, [.ref (a 1), .ref (a 2), .ref (a 3), .ref (a 4), .ref (a 5), .ref (a 6), .ref (a 7), .null, .int 0, .int 0, .int 0, .int 0]))] sz) (va_Qi (S := Unit) (fun r u => okI 1 0 ((0 ≤ x1 ∧ x1 ≤ 10000)) r) (fun _ _ => True) (va_A [(h0, .inr (8, [.ref (a 1), .ref (a 2), .ref (a 3), .ref (a 4), .ref (a 5), .ref (a 6), .ref (a 7), .null, .int 0, .int 0, .int 0, .int 0]))] sz)) 0 0 (va_A [(h0, .inr (8, [.ref (a 1), .ref (a 2), .ref (a 3), .ref (a 4), .ref (a 5), .ref (a 6), .ref (a 7), .null, .int 0, .int 0, .int 0, .int 0]))] sz) := by
  refine Met.ofW (cc := cX8_day) (maxL := 2) (ret := (some .boolean)) (by decide) rfl ?_
  intro p e s m args below meth c s₁ B hml hv
  obtain ⟨rfl, hsz, hG, hP, hD0⟩ := hv
  have hx := B.exec
  have hb := B.bytes
  have hr := B.returns
  have hts := atoms_spec (ws := wsX8_day) B.pre
  have hown : s.vm.findClass RX8 = some m.cls := findClass_of_methodNamed B.named
  have hlocks := B.notSynchronized
  have hK := hG.1
  have hN := hG.2
  subst hsz
  have hD := hD0.self (sz := s.heap.size)
  generalize hAe : va_A [(h0, .inr (8, [.ref (a 1), .ref (a 2), .ref (a 3), .ref (a 4), .ref (a 5), .ref (a 6), .ref (a 7), .null, .int 0, .int 0, .int 0, .int 0]))] s.heap.size = A at hD ⊢
  have hA : ∀ q : Nat, s.heap.size ≤ q → A q := fun q h => by rw [← hAe]; exact Or.inr h
  have hS : va_S A s.heap s.heap [] := va_S.rf
  have hP : va_P D vwCl [(h0, .inr (8, [.ref (a 1), .ref (a 2), .ref (a 3), .ref (a 4), .ref (a 5), .ref (a 6), .ref (a 7), .null, .int 0, .int 0, .int 0, .int 0]))] s.heap := hP
  have hl := lv_entry ([.ref h0, .int x1]) (n := 2) (Nat.le_of_ble_eq_true rfl)
  rw [lg_entry_eq]
  generalize (lg_sl ([.ref h0, .int x1]) ++ List.replicate (2 - (lg_sl ([.ref h0, .int x1])).length) Slot.unset).toArray = ls at hl ⊢
  have hl : lv_has ls 2 [(0, .ref h0), (1, .int x1)] := hl
  refine lv_iload_n hx hb dX8_day_0 rfl (lv_at hl 1 rfl) ?_
  refine lv_aload_n hx hb dX8_day_1 rfl (lv_at hl 0 rfl) ?_
  refine va_get (D := D) (ci := 8) (v := .int 0) (C := RX8) (T := TX8) (N := 12) hx hb hts (fun _ h9 => List.mem_cons_of_mem _ (List.mem_append_right _ h9)) hown hK hP 0 rfl rfl 9 (by decide) (hts (.fieldLink RX8 113 "BuoyTender" "today" "I") (by decide +kernel)) (fun _ h9 => h9) rfl dX8_day_2 ?_
  refine lv_sipush (v := 10000) hx hb dX8_day_5 (by decide) ?_
  refine vp_callSi (va_Run.run (va_runS (As := [.int x1, .int 0, .int 10000]) (rest := []) ⟨hx, hb, hml, hown, hts⟩ (k_X8_within l x1 0 10000) (va_cwS 3 hts gX8_day_X8_within rfl rfl rfl (by decide +kernel) ⟨Nat.le_of_ble_eq_true rfl, Nat.le_of_ble_eq_true rfl⟩) preEq rfl rfl hl.1 rfl (lv_room (Nat.le_of_ble_eq_true rfl)) dX8_day_8 ⟨Nat.le_of_ble_eq_true rfl, Nat.le_of_ble_eq_true rfl⟩)) (fun r_1 h_1 => ?_)
  rcases h_1 with ⟨rfl, h_1⟩ | ⟨rfl, h_1⟩
  · refine lv_if_ne (tgt := 16) hx hb dX8_day_11 (by decide) (fun _ => ?_) (fun c_2 => False.elim (by revert c_2; decide))
    refine lv_aload_n hx hb dX8_day_16 rfl (lv_at hl 0 rfl) ?_
    refine lv_iload_n hx hb dX8_day_17 rfl (lv_at hl 1 rfl) ?_
    refine va_put (D := D) (ci := 8) (v := .int x1) (ty := (tyX8 9)) (C := RX8) (T := TX8) (N := 12) hx hb hts (fun _ h9 => List.mem_cons_of_mem _ (List.mem_append_right _ h9)) tyX8 tyX8_ok nmX8 hown hK hP hD hS 0 rfl rfl 9 (by decide) (hts (.fieldLink RX8 113 "BuoyTender" "today" "I") (by decide +kernel)) (fun _ h9 => h9) rfl (by decide +kernel) rfl rfl (Nat.le_of_ble_eq_true rfl) dX8_day_18 (fun H locs hP hD hS => ?_)
    have hP : va_P D vwCl [(h0, .inr (8, [.ref (a 1), .ref (a 2), .ref (a 3), .ref (a 4), .ref (a 5), .ref (a 6), .ref (a 7), .null, .int 0, .int x1, .int 0, .int 0]))] H := hP
    have hD : va_D A [(h0, .inr (8, [.ref (a 1), .ref (a 2), .ref (a 3), .ref (a 4), .ref (a 5), .ref (a 6), .ref (a 7), .null, .int 0, .int x1, .int 0, .int 0]))] := hD
    refine lv_iconst (v := 1) hx hb dX8_day_21 (by decide) ?_
    exact W.zret (v := 1) hx hb hr rfl (fun t ht hW => ⟨⟨1, (), rfl, (Or.inl ⟨rfl, h_1⟩), trivial⟩, hS.F ht⟩) hS.2.2 dX8_day_22
  refine lv_if_ne (tgt := 16) hx hb dX8_day_11 (by decide) (fun c_3 => False.elim (by revert c_3; decide)) (fun _ => ?_)
  refine lv_iconst (v := 0) hx hb dX8_day_14 (by decide) ?_
  exact W.zret (v := 0) hx hb hr rfl (fun t ht hW => ⟨⟨0, (), rfl, (Or.inr ⟨rfl, fun h9 => h_1 (h9)⟩), trivial⟩, hS.F ht⟩) hS.2.2 dX8_day_15
set_option maxHeartbeats 4000000 in
set_option maxRecDepth 100000 in
/-- X8_wear on a fresh object -/
theorem k_X8_wear (l : Launch) (D : va_G) (cI cJ cZ cM : Nat) (h0 : Nat) (a : Nat → Nat) (x1 : Int32) (x2 : Int32) (x3 : Int32) (sz : Nat) : Met l yX8_wear wsX8_wear ({ frames := 1, cells := 0, slots := 0, locals := 22 } : Room) (RW D cI cJ cZ cM [.ref h0, .int x1, .int x2, .int x3] [(h0, .inr (8, [.ref (a 1), .ref (a 2), .ref (a 3), .ref (a 4), .ref (a 5), .ref (a 6), .ref (a 7), .null, .int 0, .int 0, .int 0, .int 0])), (a 3, .inl (cI, 48, .inl (fun _ => 0)))] sz) (va_Qi (S := Unit) (fun r u => okI 1 0 ((0 ≤ x1 ∧ x1 ≤ 3) ∧ (0 ≤ x2 ∧ x2 ≤ 11) ∧ (0 ≤ x3 ∧ x3 ≤ 100)) r) (fun _ _ => True) (va_A [(h0, .inr (8, [.ref (a 1), .ref (a 2), .ref (a 3), .ref (a 4), .ref (a 5), .ref (a 6), .ref (a 7), .null, .int 0, .int 0, .int 0, .int 0])), (a 3, .inl (cI, 48, .inl (fun _ => 0)))] sz)) 0 0 (va_A [(h0, .inr (8, [.ref (a 1), .ref (a 2), .ref (a 3), .ref (a 4), .ref (a 5), .ref (a 6), .ref (a 7), .null, .int 0, .int 0, .int 0, .int 0])), (a 3, .inl (cI, 48, .inl (fun _ => 0)))] sz) := by
  refine Met.ofW (cc := cX8_wear) (maxL := 4) (ret := (some .boolean)) (by decide) rfl ?_
  intro p e s m args below meth c s₁ B hml hv
  obtain ⟨rfl, hsz, hG, hP, hD0⟩ := hv
  have hx := B.exec
  have hb := B.bytes
  have hr := B.returns
  have hts := atoms_spec (ws := wsX8_wear) B.pre
  have hown : s.vm.findClass RX8 = some m.cls := findClass_of_methodNamed B.named
  have hlocks := B.notSynchronized
  have hK := hG.1
  have hN := hG.2
  subst hsz
  have hD := hD0.self (sz := s.heap.size)
  generalize hAe : va_A [(h0, .inr (8, [.ref (a 1), .ref (a 2), .ref (a 3), .ref (a 4), .ref (a 5), .ref (a 6), .ref (a 7), .null, .int 0, .int 0, .int 0, .int 0])), (a 3, .inl (cI, 48, .inl (fun _ => 0)))] s.heap.size = A at hD ⊢
  have hA : ∀ q : Nat, s.heap.size ≤ q → A q := fun q h => by rw [← hAe]; exact Or.inr h
  have hS : va_S A s.heap s.heap [] := va_S.rf
  have hP : va_P D vwCl [(h0, .inr (8, [.ref (a 1), .ref (a 2), .ref (a 3), .ref (a 4), .ref (a 5), .ref (a 6), .ref (a 7), .null, .int 0, .int 0, .int 0, .int 0])), (a 3, .inl (cI, 48, .inl (fun _ => 0)))] s.heap := hP
  have hl := lv_entry ([.ref h0, .int x1, .int x2, .int x3]) (n := 4) (Nat.le_of_ble_eq_true rfl)
  rw [lg_entry_eq]
  generalize (lg_sl ([.ref h0, .int x1, .int x2, .int x3]) ++ List.replicate (4 - (lg_sl ([.ref h0, .int x1, .int x2, .int x3])).length) Slot.unset).toArray = ls at hl ⊢
  have hl : lv_has ls 4 [(0, .ref h0), (1, .int x1), (2, .int x2), (3, .int x3)] := hl
  refine lv_iload_n hx hb dX8_wear_0 rfl (lv_at hl 1 rfl) ?_
  refine lv_iconst (v := 0) hx hb dX8_wear_1 (by decide) ?_
  refine lv_iconst (v := 3) hx hb dX8_wear_2 (by decide) ?_
  refine vp_callSi (va_Run.run (va_runS (As := [.int x1, .int 0, .int 3]) (rest := []) ⟨hx, hb, hml, hown, hts⟩ (k_X8_within l x1 0 3) (va_cwS 3 hts gX8_wear_X8_within rfl rfl rfl (by decide +kernel) ⟨Nat.le_of_ble_eq_true rfl, Nat.le_of_ble_eq_true rfl⟩) preEq rfl rfl hl.1 rfl (lv_room (Nat.le_of_ble_eq_true rfl)) dX8_wear_3 ⟨Nat.le_of_ble_eq_true rfl, Nat.le_of_ble_eq_true rfl⟩)) (fun r_1 h_1 => ?_)
  rcases h_1 with ⟨rfl, h_1⟩ | ⟨rfl, h_1⟩
  · refine lv_if_eq (tgt := 29) hx hb dX8_wear_6 (by decide) (fun c_2 => False.elim (by revert c_2; decide)) (fun _ => ?_)
    refine lv_iload_n hx hb dX8_wear_9 rfl (lv_at hl 2 rfl) ?_
    refine lv_iconst (v := 0) hx hb dX8_wear_10 (by decide) ?_
    refine lv_bipush (v := 11) hx hb dX8_wear_11 (by decide) ?_
    refine vp_callSi (va_Run.run (va_runS (As := [.int x2, .int 0, .int 11]) (rest := []) ⟨hx, hb, hml, hown, hts⟩ (k_X8_within l x2 0 11) (va_cwS 3 hts gX8_wear_X8_within rfl rfl rfl (by decide +kernel) ⟨Nat.le_of_ble_eq_true rfl, Nat.le_of_ble_eq_true rfl⟩) preEq rfl rfl hl.1 rfl (lv_room (Nat.le_of_ble_eq_true rfl)) dX8_wear_13 ⟨Nat.le_of_ble_eq_true rfl, Nat.le_of_ble_eq_true rfl⟩)) (fun r_3 h_3 => ?_)
    rcases h_3 with ⟨rfl, h_3⟩ | ⟨rfl, h_3⟩
    · refine lv_if_eq (tgt := 29) hx hb dX8_wear_16 (by decide) (fun c_4 => False.elim (by revert c_4; decide)) (fun _ => ?_)
      refine lv_iload_n hx hb dX8_wear_19 rfl (lv_at hl 3 rfl) ?_
      refine lv_iconst (v := 0) hx hb dX8_wear_20 (by decide) ?_
      refine lv_bipush (v := 100) hx hb dX8_wear_21 (by decide) ?_
      refine vp_callSi (va_Run.run (va_runS (As := [.int x3, .int 0, .int 100]) (rest := []) ⟨hx, hb, hml, hown, hts⟩ (k_X8_within l x3 0 100) (va_cwS 3 hts gX8_wear_X8_within rfl rfl rfl (by decide +kernel) ⟨Nat.le_of_ble_eq_true rfl, Nat.le_of_ble_eq_true rfl⟩) preEq rfl rfl hl.1 rfl (lv_room (Nat.le_of_ble_eq_true rfl)) dX8_wear_23 ⟨Nat.le_of_ble_eq_true rfl, Nat.le_of_ble_eq_true rfl⟩)) (fun r_5 h_5 => ?_)
      rcases h_5 with ⟨rfl, h_5⟩ | ⟨rfl, h_5⟩
      · refine lv_if_ne (tgt := 31) hx hb dX8_wear_26 (by decide) (fun _ => ?_) (fun c_6 => False.elim (by revert c_6; decide))
        refine lv_aload_n hx hb dX8_wear_31 rfl (lv_at hl 0 rfl) ?_
        refine va_get (D := D) (ci := 8) (v := .ref (a 3)) (C := RX8) (T := TX8) (N := 12) hx hb hts (fun _ h9 => List.mem_cons_of_mem _ (List.mem_append_right _ h9)) hown hK hP 0 rfl rfl 2 (by decide) (hts (.fieldLink RX8 19 "BuoyTender" "wears" "[I") (by decide +kernel)) (fun _ h9 => h9) rfl dX8_wear_32 ?_
        refine lv_iload_n hx hb dX8_wear_35 rfl (lv_at hl 1 rfl) ?_
        refine lv_bipush (v := 12) hx hb dX8_wear_36 (by decide) ?_
        refine lv_imul hx hb dX8_wear_38 ?_
        refine lv_iload_n hx hb dX8_wear_39 rfl (lv_at hl 2 rfl) ?_
        refine lv_iadd hx hb dX8_wear_40 ?_
        refine lv_iload_n hx hb dX8_wear_41 rfl (lv_at hl 3 rfl) ?_
        refine va_iast hx hb hK hP hD hS 1 0 rfl rfl (ix_kc (X := 3) (Y := 11) (a := 3) (b := 11) (c := 12) (by decide) (by decide) h_1 h_3 (by decide) (by decide)) dX8_wear_42 (fun H locs hP hD hS => ?_)
        have hP : va_P D vwCl [(h0, .inr (8, [.ref (a 1), .ref (a 2), .ref (a 3), .ref (a 4), .ref (a 5), .ref (a 6), .ref (a 7), .null, .int 0, .int 0, .int 0, .int 0])), (a 3, .inl (cI, 48, .inl (upd (fun _ => 0) ((x1 * 12) + x2).toNatClampNeg x3)))] H := hP
        have hD : va_D A [(h0, .inr (8, [.ref (a 1), .ref (a 2), .ref (a 3), .ref (a 4), .ref (a 5), .ref (a 6), .ref (a 7), .null, .int 0, .int 0, .int 0, .int 0])), (a 3, .inl (cI, 48, .inl (upd (fun _ => 0) ((x1 * 12) + x2).toNatClampNeg x3)))] := hD
        refine lv_iconst (v := 1) hx hb dX8_wear_43 (by decide) ?_
        exact W.zret (v := 1) hx hb hr rfl (fun t ht hW => ⟨⟨1, (), rfl, (Or.inl ⟨rfl, h_1, h_3, h_5⟩), trivial⟩, hS.F ht⟩) hS.2.2 dX8_wear_44
      refine lv_if_ne (tgt := 31) hx hb dX8_wear_26 (by decide) (fun c_8 => False.elim (by revert c_8; decide)) (fun _ => ?_)
      refine lv_iconst (v := 0) hx hb dX8_wear_29 (by decide) ?_
      exact W.zret (v := 0) hx hb hr rfl (fun t ht hW => ⟨⟨0, (), rfl, (Or.inr ⟨rfl, fun h9 => h_5 (h9.2.2)⟩), trivial⟩, hS.F ht⟩) hS.2.2 dX8_wear_30
    refine lv_if_eq (tgt := 29) hx hb dX8_wear_16 (by decide) (fun _ => ?_) (fun c_9 => False.elim (by revert c_9; decide))
    refine lv_iconst (v := 0) hx hb dX8_wear_29 (by decide) ?_
    exact W.zret (v := 0) hx hb hr rfl (fun t ht hW => ⟨⟨0, (), rfl, (Or.inr ⟨rfl, fun h9 => h_3 (h9.2.1)⟩), trivial⟩, hS.F ht⟩) hS.2.2 dX8_wear_30
  refine lv_if_eq (tgt := 29) hx hb dX8_wear_6 (by decide) (fun _ => ?_) (fun c_10 => False.elim (by revert c_10; decide))
  refine lv_iconst (v := 0) hx hb dX8_wear_29 (by decide) ?_
  exact W.zret (v := 0) hx hb hr rfl (fun t ht hW => ⟨⟨0, (), rfl, (Or.inr ⟨rfl, fun h9 => h_1 (h9.1)⟩), trivial⟩, hS.F ht⟩) hS.2.2 dX8_wear_30
set_option maxHeartbeats 4000000 in
set_option maxRecDepth 100000 in
/-- X8_near on a fresh object -/
theorem k_X8_near (l : Launch) (D : va_G) (cI cJ cZ cM : Nat) (h0 : Nat) (a : Nat → Nat) (x1 : Int32) (sz : Nat) : Met l yX8_near wsX8_near ({ frames := 1, cells := 0, slots := 0, locals := 25 } : Room) (RW D cI cJ cZ cM [.ref h0, .int x1] [(h0, .inr (8, [.ref (a 1), .ref (a 2), .ref (a 3), .ref (a 4), .ref (a 5), .ref (a 6), .ref (a 7), .null, .int 0, .int 0, .int 0, .int 0]))] sz) (va_Qi (S := Unit) (fun r u => okI 1 0 ((0 ≤ x1 ∧ x1 ≤ 5000)) r) (fun _ _ => True) (va_A [(h0, .inr (8, [.ref (a 1), .ref (a 2), .ref (a 3), .ref (a 4), .ref (a 5), .ref (a 6), .ref (a 7), .null, .int 0, .int 0, .int 0, .int 0]))] sz)) 0 0 (va_A [(h0, .inr (8, [.ref (a 1), .ref (a 2), .ref (a 3), .ref (a 4), .ref (a 5), .ref (a 6), .ref (a 7), .null, .int 0, .int 0, .int 0, .int 0]))] sz) := by
  refine Met.ofW (cc := cX8_near) (maxL := 2) (ret := (some .boolean)) (by decide) rfl ?_
  intro p e s m args below meth c s₁ B hml hv
  obtain ⟨rfl, hsz, hG, hP, hD0⟩ := hv
  have hx := B.exec
  have hb := B.bytes
  have hr := B.returns
  have hts := atoms_spec (ws := wsX8_near) B.pre
  have hown : s.vm.findClass RX8 = some m.cls := findClass_of_methodNamed B.named
  have hlocks := B.notSynchronized
  have hK := hG.1
  have hN := hG.2
  subst hsz
  have hD := hD0.self (sz := s.heap.size)
  generalize hAe : va_A [(h0, .inr (8, [.ref (a 1), .ref (a 2), .ref (a 3), .ref (a 4), .ref (a 5), .ref (a 6), .ref (a 7), .null, .int 0, .int 0, .int 0, .int 0]))] s.heap.size = A at hD ⊢
  have hA : ∀ q : Nat, s.heap.size ≤ q → A q := fun q h => by rw [← hAe]; exact Or.inr h
  have hS : va_S A s.heap s.heap [] := va_S.rf
  have hP : va_P D vwCl [(h0, .inr (8, [.ref (a 1), .ref (a 2), .ref (a 3), .ref (a 4), .ref (a 5), .ref (a 6), .ref (a 7), .null, .int 0, .int 0, .int 0, .int 0]))] s.heap := hP
  have hl := lv_entry ([.ref h0, .int x1]) (n := 2) (Nat.le_of_ble_eq_true rfl)
  rw [lg_entry_eq]
  generalize (lg_sl ([.ref h0, .int x1]) ++ List.replicate (2 - (lg_sl ([.ref h0, .int x1])).length) Slot.unset).toArray = ls at hl ⊢
  have hl : lv_has ls 2 [(0, .ref h0), (1, .int x1)] := hl
  refine lv_iload_n hx hb dX8_near_0 rfl (lv_at hl 1 rfl) ?_
  refine lv_iconst (v := 0) hx hb dX8_near_1 (by decide) ?_
  refine lv_sipush (v := 5000) hx hb dX8_near_2 (by decide) ?_
  refine vp_callSi (va_Run.run (va_runS (As := [.int x1, .int 0, .int 5000]) (rest := []) ⟨hx, hb, hml, hown, hts⟩ (k_X8_within l x1 0 5000) (va_cwS 3 hts gX8_near_X8_within rfl rfl rfl (by decide +kernel) ⟨Nat.le_of_ble_eq_true rfl, Nat.le_of_ble_eq_true rfl⟩) preEq rfl rfl hl.1 rfl (lv_room (Nat.le_of_ble_eq_true rfl)) dX8_near_5 ⟨Nat.le_of_ble_eq_true rfl, Nat.le_of_ble_eq_true rfl⟩)) (fun r_1 h_1 => ?_)
  rcases h_1 with ⟨rfl, h_1⟩ | ⟨rfl, h_1⟩
  · refine lv_if_eq (tgt := 19) hx hb dX8_near_8 (by decide) (fun c_2 => False.elim (by revert c_2; decide)) (fun _ => ?_)
    refine lv_aload_n hx hb dX8_near_11 rfl (lv_at hl 0 rfl) ?_
    refine lv_iload_n hx hb dX8_near_12 rfl (lv_at hl 1 rfl) ?_
    have hPc := hP.sub (ws' := [(h0, .inr (8, [.ref (a 1), .ref (a 2), .ref (a 3), .ref (a 4), .ref (a 5), .ref (a 6), .ref (a 7), .null, .int 0, .int 0, .int 0, .int 0]))]) [0] rfl
    refine vp_callSi (va_Run.run (va_runV (As := [.int x1]) (rest := []) ⟨hx, hb, hml, hown, hts⟩ (k_X8_clashesWithin l D cI cJ cZ cM h0 a x1) (cwV 1 hts gX8_near_X8_clashesWithin rfl rfl rfl (by decide +kernel) ⟨Nat.le_of_ble_eq_true rfl, Nat.le_of_ble_eq_true rfl⟩) (ro_V hG hPc (va_recv hK hPc (ci := 8) (q0 := 0) rfl rfl)) rfl rfl hl.1 rfl (lv_room (Nat.le_of_ble_eq_true rfl)) dX8_near_13 ⟨Nat.le_of_ble_eq_true rfl, Nat.le_of_ble_eq_true rfl⟩)) (fun r_3 h_3 => ?_)
    obtain rfl : r_3 = 0 := h_3
    refine lv_if_eq (tgt := 21) hx hb dX8_near_16 (by decide) (fun _ => ?_) (fun c_4 => False.elim (by revert c_4; decide))
    refine lv_aload_n hx hb dX8_near_21 rfl (lv_at hl 0 rfl) ?_
    refine lv_iload_n hx hb dX8_near_22 rfl (lv_at hl 1 rfl) ?_
    refine va_put (D := D) (ci := 8) (v := .int x1) (ty := (tyX8 10)) (C := RX8) (T := TX8) (N := 12) hx hb hts (fun _ h9 => List.mem_cons_of_mem _ (List.mem_append_left _ (List.mem_append_left _ (List.mem_append_right _ h9)))) tyX8 tyX8_ok nmX8 hown hK hP hD hS 0 rfl rfl 10 (by decide) (hts (.fieldLink RX8 171 "BuoyTender" "nearness" "I") (by decide +kernel)) (fun _ h9 => h9) rfl (by decide +kernel) rfl rfl (Nat.le_of_ble_eq_true rfl) dX8_near_23 (fun H locs hP hD hS => ?_)
    have hP : va_P D vwCl [(h0, .inr (8, [.ref (a 1), .ref (a 2), .ref (a 3), .ref (a 4), .ref (a 5), .ref (a 6), .ref (a 7), .null, .int 0, .int 0, .int x1, .int 0]))] H := hP
    have hD : va_D A [(h0, .inr (8, [.ref (a 1), .ref (a 2), .ref (a 3), .ref (a 4), .ref (a 5), .ref (a 6), .ref (a 7), .null, .int 0, .int 0, .int x1, .int 0]))] := hD
    refine lv_iconst (v := 1) hx hb dX8_near_26 (by decide) ?_
    exact W.zret (v := 1) hx hb hr rfl (fun t ht hW => ⟨⟨1, (), rfl, (Or.inl ⟨rfl, h_1⟩), trivial⟩, hS.F ht⟩) hS.2.2 dX8_near_27
  refine lv_if_eq (tgt := 19) hx hb dX8_near_8 (by decide) (fun _ => ?_) (fun c_5 => False.elim (by revert c_5; decide))
  refine lv_iconst (v := 0) hx hb dX8_near_19 (by decide) ?_
  exact W.zret (v := 0) hx hb hr rfl (fun t ht hW => ⟨⟨0, (), rfl, (Or.inr ⟨rfl, fun h9 => h_1 (h9)⟩), trivial⟩, hS.F ht⟩) hS.2.2 dX8_near_20
set_option maxHeartbeats 4000000 in
set_option maxRecDepth 100000 in
/-- X8_weather on a fresh object -/
theorem k_X8_weather (l : Launch) (D : va_G) (cI cJ cZ cM : Nat) (h0 : Nat) (a : Nat → Nat) (x1 : Int32) (x2 : Int32) (x3 : Int32) (sz : Nat) : Met l yX8_weather wsX8_weather ({ frames := 1, cells := 0, slots := 0, locals := 22 } : Room) (RW D cI cJ cZ cM [.ref h0, .int x1, .int x2, .int x3] [(h0, .inr (8, [.ref (a 1), .ref (a 2), .ref (a 3), .ref (a 4), .ref (a 5), .ref (a 6), .ref (a 7), .null, .int 0, .int 0, .int 0, .int 0])), (a 5, .inr (4, [.ref (a 12), .ref (a 13), .int 0, .int 0, .int 0, .int 1440, .int 1, .int 0, .int 12, .int 0])), (a 12, .inl (cI, 24, .inl (fun _ => 0))), (a 13, .inl (cI, 24, .inl (fun _ => 0)))] sz) (va_Qi (S := Unit) (fun r u => okI 1 0 ((0 ≤ x1 ∧ x1 ≤ 23) ∧ ((-50) ≤ x2 ∧ x2 ≤ 50) ∧ (0 ≤ x3 ∧ x3 ≤ 12)) r) (fun _ _ => True) (va_A [(h0, .inr (8, [.ref (a 1), .ref (a 2), .ref (a 3), .ref (a 4), .ref (a 5), .ref (a 6), .ref (a 7), .null, .int 0, .int 0, .int 0, .int 0])), (a 5, .inr (4, [.ref (a 12), .ref (a 13), .int 0, .int 0, .int 0, .int 1440, .int 1, .int 0, .int 12, .int 0])), (a 12, .inl (cI, 24, .inl (fun _ => 0))), (a 13, .inl (cI, 24, .inl (fun _ => 0)))] sz)) 0 0 (va_A [(h0, .inr (8, [.ref (a 1), .ref (a 2), .ref (a 3), .ref (a 4), .ref (a 5), .ref (a 6), .ref (a 7), .null, .int 0, .int 0, .int 0, .int 0])), (a 5, .inr (4, [.ref (a 12), .ref (a 13), .int 0, .int 0, .int 0, .int 1440, .int 1, .int 0, .int 12, .int 0])), (a 12, .inl (cI, 24, .inl (fun _ => 0))), (a 13, .inl (cI, 24, .inl (fun _ => 0)))] sz) := by
  refine Met.ofW (cc := cX8_weather) (maxL := 4) (ret := (some .boolean)) (by decide) rfl ?_
  intro p e s m args below meth c s₁ B hml hv
  obtain ⟨rfl, hsz, hG, hP, hD0⟩ := hv
  have hx := B.exec
  have hb := B.bytes
  have hr := B.returns
  have hts := atoms_spec (ws := wsX8_weather) B.pre
  have hown : s.vm.findClass RX8 = some m.cls := findClass_of_methodNamed B.named
  have hlocks := B.notSynchronized
  have hK := hG.1
  have hN := hG.2
  subst hsz
  have hD := hD0.self (sz := s.heap.size)
  generalize hAe : va_A [(h0, .inr (8, [.ref (a 1), .ref (a 2), .ref (a 3), .ref (a 4), .ref (a 5), .ref (a 6), .ref (a 7), .null, .int 0, .int 0, .int 0, .int 0])), (a 5, .inr (4, [.ref (a 12), .ref (a 13), .int 0, .int 0, .int 0, .int 1440, .int 1, .int 0, .int 12, .int 0])), (a 12, .inl (cI, 24, .inl (fun _ => 0))), (a 13, .inl (cI, 24, .inl (fun _ => 0)))] s.heap.size = A at hD ⊢
  have hA : ∀ q : Nat, s.heap.size ≤ q → A q := fun q h => by rw [← hAe]; exact Or.inr h
  have hS : va_S A s.heap s.heap [] := va_S.rf
  have hP : va_P D vwCl [(h0, .inr (8, [.ref (a 1), .ref (a 2), .ref (a 3), .ref (a 4), .ref (a 5), .ref (a 6), .ref (a 7), .null, .int 0, .int 0, .int 0, .int 0])), (a 5, .inr (4, [.ref (a 12), .ref (a 13), .int 0, .int 0, .int 0, .int 1440, .int 1, .int 0, .int 12, .int 0])), (a 12, .inl (cI, 24, .inl (fun _ => 0))), (a 13, .inl (cI, 24, .inl (fun _ => 0)))] s.heap := hP
  have hl := lv_entry ([.ref h0, .int x1, .int x2, .int x3]) (n := 4) (Nat.le_of_ble_eq_true rfl)
  rw [lg_entry_eq]
  generalize (lg_sl ([.ref h0, .int x1, .int x2, .int x3]) ++ List.replicate (4 - (lg_sl ([.ref h0, .int x1, .int x2, .int x3])).length) Slot.unset).toArray = ls at hl ⊢
  have hl : lv_has ls 4 [(0, .ref h0), (1, .int x1), (2, .int x2), (3, .int x3)] := hl
  refine lv_iload_n hx hb dX8_weather_0 rfl (lv_at hl 1 rfl) ?_
  refine lv_iconst (v := 0) hx hb dX8_weather_1 (by decide) ?_
  refine lv_bipush (v := 23) hx hb dX8_weather_2 (by decide) ?_
  refine vp_callSi (va_Run.run (va_runS (As := [.int x1, .int 0, .int 23]) (rest := []) ⟨hx, hb, hml, hown, hts⟩ (k_X8_within l x1 0 23) (va_cwS 3 hts gX8_weather_X8_within rfl rfl rfl (by decide +kernel) ⟨Nat.le_of_ble_eq_true rfl, Nat.le_of_ble_eq_true rfl⟩) preEq rfl rfl hl.1 rfl (lv_room (Nat.le_of_ble_eq_true rfl)) dX8_weather_4 ⟨Nat.le_of_ble_eq_true rfl, Nat.le_of_ble_eq_true rfl⟩)) (fun r_1 h_1 => ?_)
  rcases h_1 with ⟨rfl, h_1⟩ | ⟨rfl, h_1⟩
  · refine lv_if_eq (tgt := 31) hx hb dX8_weather_7 (by decide) (fun c_2 => False.elim (by revert c_2; decide)) (fun _ => ?_)
    refine lv_iload_n hx hb dX8_weather_10 rfl (lv_at hl 2 rfl) ?_
    refine lv_bipush (v := (-50)) hx hb dX8_weather_11 (by decide) ?_
    refine lv_bipush (v := 50) hx hb dX8_weather_13 (by decide) ?_
    refine vp_callSi (va_Run.run (va_runS (As := [.int x2, .int (-50), .int 50]) (rest := []) ⟨hx, hb, hml, hown, hts⟩ (k_X8_within l x2 (-50) 50) (va_cwS 3 hts gX8_weather_X8_within rfl rfl rfl (by decide +kernel) ⟨Nat.le_of_ble_eq_true rfl, Nat.le_of_ble_eq_true rfl⟩) preEq rfl rfl hl.1 rfl (lv_room (Nat.le_of_ble_eq_true rfl)) dX8_weather_15 ⟨Nat.le_of_ble_eq_true rfl, Nat.le_of_ble_eq_true rfl⟩)) (fun r_3 h_3 => ?_)
    rcases h_3 with ⟨rfl, h_3⟩ | ⟨rfl, h_3⟩
    · refine lv_if_eq (tgt := 31) hx hb dX8_weather_18 (by decide) (fun c_4 => False.elim (by revert c_4; decide)) (fun _ => ?_)
      refine lv_iload_n hx hb dX8_weather_21 rfl (lv_at hl 3 rfl) ?_
      refine lv_iconst (v := 0) hx hb dX8_weather_22 (by decide) ?_
      refine lv_bipush (v := 12) hx hb dX8_weather_23 (by decide) ?_
      refine vp_callSi (va_Run.run (va_runS (As := [.int x3, .int 0, .int 12]) (rest := []) ⟨hx, hb, hml, hown, hts⟩ (k_X8_within l x3 0 12) (va_cwS 3 hts gX8_weather_X8_within rfl rfl rfl (by decide +kernel) ⟨Nat.le_of_ble_eq_true rfl, Nat.le_of_ble_eq_true rfl⟩) preEq rfl rfl hl.1 rfl (lv_room (Nat.le_of_ble_eq_true rfl)) dX8_weather_25 ⟨Nat.le_of_ble_eq_true rfl, Nat.le_of_ble_eq_true rfl⟩)) (fun r_5 h_5 => ?_)
      rcases h_5 with ⟨rfl, h_5⟩ | ⟨rfl, h_5⟩
      · refine lv_if_ne (tgt := 33) hx hb dX8_weather_28 (by decide) (fun _ => ?_) (fun c_6 => False.elim (by revert c_6; decide))
        refine lv_aload_n hx hb dX8_weather_33 rfl (lv_at hl 0 rfl) ?_
        refine va_get (D := D) (ci := 8) (v := .ref (a 5)) (C := RX8) (T := TX8) (N := 12) hx hb hts (fun _ h9 => List.mem_cons_of_mem _ (List.mem_append_left _ (List.mem_append_right _ h9))) hown hK hP 0 rfl rfl 4 (by decide) (hts (.fieldLink RX8 32 "BuoyTender" "vessel" "LBuoyTender$Ship;") (by decide +kernel)) (fun _ h9 => h9) rfl dX8_weather_34 ?_
        refine va_getN (D := D) (ci := 4) (v := .ref (a 12)) (C := RX4) (T := TX4) (N := 10) hx hb hts (fun _ h9 => List.mem_cons_of_mem _ (List.mem_append_right _ h9)) hown hK hP 1 rfl rfl 0 (by decide) (va_Nw.use rfl (hN.1 (RX8, 220, "BuoyTender$Ship", "tides", "[I", "BuoyTender") (by decide +kernel))) (fun _ h9 => h9) rfl dX8_weather_37 ?_
        refine lv_iload_n hx hb dX8_weather_40 rfl (lv_at hl 1 rfl) ?_
        refine lv_iload_n hx hb dX8_weather_41 rfl (lv_at hl 2 rfl) ?_
        refine va_iast hx hb hK hP hD hS 2 0 rfl rfl (ix_1 (X := 23) (a := 23) (by decide) h_1 (by decide) (by decide)) dX8_weather_42 (fun H locs hP hD hS => ?_)
        have hP : va_P D vwCl [(h0, .inr (8, [.ref (a 1), .ref (a 2), .ref (a 3), .ref (a 4), .ref (a 5), .ref (a 6), .ref (a 7), .null, .int 0, .int 0, .int 0, .int 0])), (a 5, .inr (4, [.ref (a 12), .ref (a 13), .int 0, .int 0, .int 0, .int 1440, .int 1, .int 0, .int 12, .int 0])), (a 12, .inl (cI, 24, .inl (upd (fun _ => 0) x1.toNatClampNeg x2))), (a 13, .inl (cI, 24, .inl (fun _ => 0)))] H := hP
        have hD : va_D A [(h0, .inr (8, [.ref (a 1), .ref (a 2), .ref (a 3), .ref (a 4), .ref (a 5), .ref (a 6), .ref (a 7), .null, .int 0, .int 0, .int 0, .int 0])), (a 5, .inr (4, [.ref (a 12), .ref (a 13), .int 0, .int 0, .int 0, .int 1440, .int 1, .int 0, .int 12, .int 0])), (a 12, .inl (cI, 24, .inl (upd (fun _ => 0) x1.toNatClampNeg x2))), (a 13, .inl (cI, 24, .inl (fun _ => 0)))] := hD
        refine lv_aload_n hx hb dX8_weather_43 rfl (lv_at hl 0 rfl) ?_
        refine va_get (D := D) (ci := 8) (v := .ref (a 5)) (C := RX8) (T := TX8) (N := 12) hx hb hts (fun _ h9 => List.mem_cons_of_mem _ (List.mem_append_left _ (List.mem_append_right _ h9))) hown hK hP 0 rfl rfl 4 (by decide) (hts (.fieldLink RX8 32 "BuoyTender" "vessel" "LBuoyTender$Ship;") (by decide +kernel)) (fun _ h9 => h9) rfl dX8_weather_44 ?_
        refine va_getN (D := D) (ci := 4) (v := .ref (a 13)) (C := RX4) (T := TX4) (N := 10) hx hb hts (fun _ h9 => List.mem_cons_of_mem _ (List.mem_append_right _ h9)) hown hK hP 1 rfl rfl 1 (by decide) (va_Nw.use rfl (hN.1 (RX8, 223, "BuoyTender$Ship", "winds", "[I", "BuoyTender") (by decide +kernel))) (fun _ h9 => h9) rfl dX8_weather_47 ?_
        refine lv_iload_n hx hb dX8_weather_50 rfl (lv_at hl 1 rfl) ?_
        refine lv_iload_n hx hb dX8_weather_51 rfl (lv_at hl 3 rfl) ?_
        refine va_iast hx hb hK hP hD hS 3 0 rfl rfl (ix_1 (X := 23) (a := 23) (by decide) h_1 (by decide) (by decide)) dX8_weather_52 (fun H locs hP hD hS => ?_)
        have hP : va_P D vwCl [(h0, .inr (8, [.ref (a 1), .ref (a 2), .ref (a 3), .ref (a 4), .ref (a 5), .ref (a 6), .ref (a 7), .null, .int 0, .int 0, .int 0, .int 0])), (a 5, .inr (4, [.ref (a 12), .ref (a 13), .int 0, .int 0, .int 0, .int 1440, .int 1, .int 0, .int 12, .int 0])), (a 12, .inl (cI, 24, .inl (upd (fun _ => 0) x1.toNatClampNeg x2))), (a 13, .inl (cI, 24, .inl (upd (fun _ => 0) x1.toNatClampNeg x3)))] H := hP
        have hD : va_D A [(h0, .inr (8, [.ref (a 1), .ref (a 2), .ref (a 3), .ref (a 4), .ref (a 5), .ref (a 6), .ref (a 7), .null, .int 0, .int 0, .int 0, .int 0])), (a 5, .inr (4, [.ref (a 12), .ref (a 13), .int 0, .int 0, .int 0, .int 1440, .int 1, .int 0, .int 12, .int 0])), (a 12, .inl (cI, 24, .inl (upd (fun _ => 0) x1.toNatClampNeg x2))), (a 13, .inl (cI, 24, .inl (upd (fun _ => 0) x1.toNatClampNeg x3)))] := hD
        refine lv_aload_n hx hb dX8_weather_53 rfl (lv_at hl 0 rfl) ?_
        refine lv_iconst (v := 0) hx hb dX8_weather_54 (by decide) ?_
        refine va_put (D := D) (ci := 8) (v := .int 0) (ty := (tyX8 11)) (C := RX8) (T := TX8) (N := 12) hx hb hts (fun _ h9 => List.mem_cons_of_mem _ (List.mem_append_left _ (List.mem_append_right _ h9))) tyX8 tyX8_ok nmX8 hown hK hP hD hS 0 rfl rfl 11 (by decide) (hts (.fieldLink RX8 58 "BuoyTender" "planned" "Z") (by decide +kernel)) (fun _ h9 => h9) rfl (by decide +kernel) rfl rfl (Nat.le_of_ble_eq_true rfl) dX8_weather_55 (fun H locs hP hD hS => ?_)
        have hP : va_P D vwCl [(h0, .inr (8, [.ref (a 1), .ref (a 2), .ref (a 3), .ref (a 4), .ref (a 5), .ref (a 6), .ref (a 7), .null, .int 0, .int 0, .int 0, .int 0])), (a 5, .inr (4, [.ref (a 12), .ref (a 13), .int 0, .int 0, .int 0, .int 1440, .int 1, .int 0, .int 12, .int 0])), (a 12, .inl (cI, 24, .inl (upd (fun _ => 0) x1.toNatClampNeg x2))), (a 13, .inl (cI, 24, .inl (upd (fun _ => 0) x1.toNatClampNeg x3)))] H := hP
        have hD : va_D A [(h0, .inr (8, [.ref (a 1), .ref (a 2), .ref (a 3), .ref (a 4), .ref (a 5), .ref (a 6), .ref (a 7), .null, .int 0, .int 0, .int 0, .int 0])), (a 5, .inr (4, [.ref (a 12), .ref (a 13), .int 0, .int 0, .int 0, .int 1440, .int 1, .int 0, .int 12, .int 0])), (a 12, .inl (cI, 24, .inl (upd (fun _ => 0) x1.toNatClampNeg x2))), (a 13, .inl (cI, 24, .inl (upd (fun _ => 0) x1.toNatClampNeg x3)))] := hD
        refine lv_iconst (v := 1) hx hb dX8_weather_58 (by decide) ?_
        exact W.zret (v := 1) hx hb hr rfl (fun t ht hW => ⟨⟨1, (), rfl, (Or.inl ⟨rfl, h_1, h_3, h_5⟩), trivial⟩, hS.F ht⟩) hS.2.2 dX8_weather_59
      refine lv_if_ne (tgt := 33) hx hb dX8_weather_28 (by decide) (fun c_9 => False.elim (by revert c_9; decide)) (fun _ => ?_)
      refine lv_iconst (v := 0) hx hb dX8_weather_31 (by decide) ?_
      exact W.zret (v := 0) hx hb hr rfl (fun t ht hW => ⟨⟨0, (), rfl, (Or.inr ⟨rfl, fun h9 => h_5 (h9.2.2)⟩), trivial⟩, hS.F ht⟩) hS.2.2 dX8_weather_32
    refine lv_if_eq (tgt := 31) hx hb dX8_weather_18 (by decide) (fun _ => ?_) (fun c_10 => False.elim (by revert c_10; decide))
    refine lv_iconst (v := 0) hx hb dX8_weather_31 (by decide) ?_
    exact W.zret (v := 0) hx hb hr rfl (fun t ht hW => ⟨⟨0, (), rfl, (Or.inr ⟨rfl, fun h9 => h_3 (h9.2.1)⟩), trivial⟩, hS.F ht⟩) hS.2.2 dX8_weather_32
  refine lv_if_eq (tgt := 31) hx hb dX8_weather_7 (by decide) (fun _ => ?_) (fun c_11 => False.elim (by revert c_11; decide))
  refine lv_iconst (v := 0) hx hb dX8_weather_31 (by decide) ?_
  exact W.zret (v := 0) hx hb hr rfl (fun t ht hW => ⟨⟨0, (), rfl, (Or.inr ⟨rfl, fun h9 => h_1 (h9.1)⟩), trivial⟩, hS.F ht⟩) hS.2.2 dX8_weather_32
set_option maxHeartbeats 4000000 in
set_option maxRecDepth 100000 in
/-- X8_ship on a fresh object -/
theorem k_X8_ship (l : Launch) (D : va_G) (cI cJ cZ cM : Nat) (h0 : Nat) (a : Nat → Nat) (x1 : Int32) (x2 : Int32) (x3 : Int32) (x4 : Int32) (sz : Nat) : Met l yX8_ship wsX8_ship ({ frames := 1, cells := 0, slots := 0, locals := 22 } : Room) (RW D cI cJ cZ cM [.ref h0, .int x1, .int x2, .int x3, .int x4] [(h0, .inr (8, [.ref (a 1), .ref (a 2), .ref (a 3), .ref (a 4), .ref (a 5), .ref (a 6), .ref (a 7), .null, .int 0, .int 0, .int 0, .int 0])), (a 5, .inr (4, [.ref (a 12), .ref (a 13), .int 0, .int 0, .int 0, .int 1440, .int 1, .int 0, .int 12, .int 0]))] sz) (va_Qi (S := Unit) (fun r u => okI 1 0 ((0 ≤ x1 ∧ x1 ≤ 60) ∧ (0 ≤ x2 ∧ x2 ≤ 100) ∧ (0 ≤ x3 ∧ x3 ≤ 12) ∧ (0 ≤ x4 ∧ x4 ≤ 10000)) r) (fun _ _ => True) (va_A [(h0, .inr (8, [.ref (a 1), .ref (a 2), .ref (a 3), .ref (a 4), .ref (a 5), .ref (a 6), .ref (a 7), .null, .int 0, .int 0, .int 0, .int 0])), (a 5, .inr (4, [.ref (a 12), .ref (a 13), .int 0, .int 0, .int 0, .int 1440, .int 1, .int 0, .int 12, .int 0]))] sz)) 0 0 (va_A [(h0, .inr (8, [.ref (a 1), .ref (a 2), .ref (a 3), .ref (a 4), .ref (a 5), .ref (a 6), .ref (a 7), .null, .int 0, .int 0, .int 0, .int 0])), (a 5, .inr (4, [.ref (a 12), .ref (a 13), .int 0, .int 0, .int 0, .int 1440, .int 1, .int 0, .int 12, .int 0]))] sz) := by
  refine Met.ofW (cc := cX8_ship) (maxL := 5) (ret := (some .boolean)) (by decide) rfl ?_
  intro p e s m args below meth c s₁ B hml hv
  obtain ⟨rfl, hsz, hG, hP, hD0⟩ := hv
  have hx := B.exec
  have hb := B.bytes
  have hr := B.returns
  have hts := atoms_spec (ws := wsX8_ship) B.pre
  have hown : s.vm.findClass RX8 = some m.cls := findClass_of_methodNamed B.named
  have hlocks := B.notSynchronized
  have hK := hG.1
  have hN := hG.2
  subst hsz
  have hD := hD0.self (sz := s.heap.size)
  generalize hAe : va_A [(h0, .inr (8, [.ref (a 1), .ref (a 2), .ref (a 3), .ref (a 4), .ref (a 5), .ref (a 6), .ref (a 7), .null, .int 0, .int 0, .int 0, .int 0])), (a 5, .inr (4, [.ref (a 12), .ref (a 13), .int 0, .int 0, .int 0, .int 1440, .int 1, .int 0, .int 12, .int 0]))] s.heap.size = A at hD ⊢
  have hA : ∀ q : Nat, s.heap.size ≤ q → A q := fun q h => by rw [← hAe]; exact Or.inr h
  have hS : va_S A s.heap s.heap [] := va_S.rf
  have hP : va_P D vwCl [(h0, .inr (8, [.ref (a 1), .ref (a 2), .ref (a 3), .ref (a 4), .ref (a 5), .ref (a 6), .ref (a 7), .null, .int 0, .int 0, .int 0, .int 0])), (a 5, .inr (4, [.ref (a 12), .ref (a 13), .int 0, .int 0, .int 0, .int 1440, .int 1, .int 0, .int 12, .int 0]))] s.heap := hP
  have hl := lv_entry ([.ref h0, .int x1, .int x2, .int x3, .int x4]) (n := 5) (Nat.le_of_ble_eq_true rfl)
  rw [lg_entry_eq]
  generalize (lg_sl ([.ref h0, .int x1, .int x2, .int x3, .int x4]) ++ List.replicate (5 - (lg_sl ([.ref h0, .int x1, .int x2, .int x3, .int x4])).length) Slot.unset).toArray = ls at hl ⊢
  have hl : lv_has ls 5 [(0, .ref h0), (1, .int x1), (2, .int x2), (3, .int x3), (4, .int x4)] := hl
  refine lv_iload_n hx hb dX8_ship_0 rfl (lv_at hl 1 rfl) ?_
  refine lv_iconst (v := 0) hx hb dX8_ship_1 (by decide) ?_
  refine lv_bipush (v := 60) hx hb dX8_ship_2 (by decide) ?_
  refine vp_callSi (va_Run.run (va_runS (As := [.int x1, .int 0, .int 60]) (rest := []) ⟨hx, hb, hml, hown, hts⟩ (k_X8_within l x1 0 60) (va_cwS 3 hts gX8_ship_X8_within rfl rfl rfl (by decide +kernel) ⟨Nat.le_of_ble_eq_true rfl, Nat.le_of_ble_eq_true rfl⟩) preEq rfl rfl hl.1 rfl (lv_room (Nat.le_of_ble_eq_true rfl)) dX8_ship_4 ⟨Nat.le_of_ble_eq_true rfl, Nat.le_of_ble_eq_true rfl⟩)) (fun r_1 h_1 => ?_)
  rcases h_1 with ⟨rfl, h_1⟩ | ⟨rfl, h_1⟩
  · refine lv_if_eq (tgt := 42) hx hb dX8_ship_7 (by decide) (fun c_2 => False.elim (by revert c_2; decide)) (fun _ => ?_)
    refine lv_iload_n hx hb dX8_ship_10 rfl (lv_at hl 2 rfl) ?_
    refine lv_iconst (v := 0) hx hb dX8_ship_11 (by decide) ?_
    refine lv_bipush (v := 100) hx hb dX8_ship_12 (by decide) ?_
    refine vp_callSi (va_Run.run (va_runS (As := [.int x2, .int 0, .int 100]) (rest := []) ⟨hx, hb, hml, hown, hts⟩ (k_X8_within l x2 0 100) (va_cwS 3 hts gX8_ship_X8_within rfl rfl rfl (by decide +kernel) ⟨Nat.le_of_ble_eq_true rfl, Nat.le_of_ble_eq_true rfl⟩) preEq rfl rfl hl.1 rfl (lv_room (Nat.le_of_ble_eq_true rfl)) dX8_ship_14 ⟨Nat.le_of_ble_eq_true rfl, Nat.le_of_ble_eq_true rfl⟩)) (fun r_3 h_3 => ?_)
    rcases h_3 with ⟨rfl, h_3⟩ | ⟨rfl, h_3⟩
    · refine lv_if_eq (tgt := 42) hx hb dX8_ship_17 (by decide) (fun c_4 => False.elim (by revert c_4; decide)) (fun _ => ?_)
      refine lv_iload_n hx hb dX8_ship_20 rfl (lv_at hl 3 rfl) ?_
      refine lv_iconst (v := 0) hx hb dX8_ship_21 (by decide) ?_
      refine lv_bipush (v := 12) hx hb dX8_ship_22 (by decide) ?_
      refine vp_callSi (va_Run.run (va_runS (As := [.int x3, .int 0, .int 12]) (rest := []) ⟨hx, hb, hml, hown, hts⟩ (k_X8_within l x3 0 12) (va_cwS 3 hts gX8_ship_X8_within rfl rfl rfl (by decide +kernel) ⟨Nat.le_of_ble_eq_true rfl, Nat.le_of_ble_eq_true rfl⟩) preEq rfl rfl hl.1 rfl (lv_room (Nat.le_of_ble_eq_true rfl)) dX8_ship_24 ⟨Nat.le_of_ble_eq_true rfl, Nat.le_of_ble_eq_true rfl⟩)) (fun r_5 h_5 => ?_)
      rcases h_5 with ⟨rfl, h_5⟩ | ⟨rfl, h_5⟩
      · refine lv_if_eq (tgt := 42) hx hb dX8_ship_27 (by decide) (fun c_6 => False.elim (by revert c_6; decide)) (fun _ => ?_)
        refine lv_iload hx hb dX8_ship_30 (lv_at hl 4 rfl) ?_
        refine lv_iconst (v := 0) hx hb dX8_ship_32 (by decide) ?_
        refine lv_sipush (v := 10000) hx hb dX8_ship_33 (by decide) ?_
        refine vp_callSi (va_Run.run (va_runS (As := [.int x4, .int 0, .int 10000]) (rest := []) ⟨hx, hb, hml, hown, hts⟩ (k_X8_within l x4 0 10000) (va_cwS 3 hts gX8_ship_X8_within rfl rfl rfl (by decide +kernel) ⟨Nat.le_of_ble_eq_true rfl, Nat.le_of_ble_eq_true rfl⟩) preEq rfl rfl hl.1 rfl (lv_room (Nat.le_of_ble_eq_true rfl)) dX8_ship_36 ⟨Nat.le_of_ble_eq_true rfl, Nat.le_of_ble_eq_true rfl⟩)) (fun r_7 h_7 => ?_)
        rcases h_7 with ⟨rfl, h_7⟩ | ⟨rfl, h_7⟩
        · refine lv_if_ne (tgt := 44) hx hb dX8_ship_39 (by decide) (fun _ => ?_) (fun c_8 => False.elim (by revert c_8; decide))
          refine lv_aload_n hx hb dX8_ship_44 rfl (lv_at hl 0 rfl) ?_
          refine va_get (D := D) (ci := 8) (v := .ref (a 5)) (C := RX8) (T := TX8) (N := 12) hx hb hts (fun _ h9 => List.mem_cons_of_mem _ (List.mem_append_left _ (List.mem_append_right _ h9))) hown hK hP 0 rfl rfl 4 (by decide) (hts (.fieldLink RX8 32 "BuoyTender" "vessel" "LBuoyTender$Ship;") (by decide +kernel)) (fun _ h9 => h9) rfl dX8_ship_45 ?_
          refine lv_iload_n hx hb dX8_ship_48 rfl (lv_at hl 1 rfl) ?_
          refine va_putN (D := D) (ci := 4) (v := .int x1) (ty := (tyX4 6)) (C := RX4) (T := TX4) (N := 10) hx hb hts (fun _ h9 => List.mem_cons_of_mem _ (List.mem_append_right _ h9)) tyX4 tyX4_ok nmX4 hown hK hP hD hS 1 rfl rfl 6 (by decide) (va_Nw.use rfl (hN.1 (RX8, 226, "BuoyTender$Ship", "pace", "I", "BuoyTender") (by decide +kernel))) (fun _ h9 => h9) rfl (by decide +kernel) rfl rfl (Nat.le_of_ble_eq_true rfl) dX8_ship_49 (fun H locs hP hD hS => ?_)
          have hP : va_P D vwCl [(h0, .inr (8, [.ref (a 1), .ref (a 2), .ref (a 3), .ref (a 4), .ref (a 5), .ref (a 6), .ref (a 7), .null, .int 0, .int 0, .int 0, .int 0])), (a 5, .inr (4, [.ref (a 12), .ref (a 13), .int 0, .int 0, .int 0, .int 1440, .int x1, .int 0, .int 12, .int 0]))] H := hP
          have hD : va_D A [(h0, .inr (8, [.ref (a 1), .ref (a 2), .ref (a 3), .ref (a 4), .ref (a 5), .ref (a 6), .ref (a 7), .null, .int 0, .int 0, .int 0, .int 0])), (a 5, .inr (4, [.ref (a 12), .ref (a 13), .int 0, .int 0, .int 0, .int 1440, .int x1, .int 0, .int 12, .int 0]))] := hD
          refine lv_aload_n hx hb dX8_ship_52 rfl (lv_at hl 0 rfl) ?_
          refine va_get (D := D) (ci := 8) (v := .ref (a 5)) (C := RX8) (T := TX8) (N := 12) hx hb hts (fun _ h9 => List.mem_cons_of_mem _ (List.mem_append_left _ (List.mem_append_right _ h9))) hown hK hP 0 rfl rfl 4 (by decide) (hts (.fieldLink RX8 32 "BuoyTender" "vessel" "LBuoyTender$Ship;") (by decide +kernel)) (fun _ h9 => h9) rfl dX8_ship_53 ?_
          refine lv_iload_n hx hb dX8_ship_56 rfl (lv_at hl 2 rfl) ?_
          refine va_putN (D := D) (ci := 4) (v := .int x2) (ty := (tyX4 7)) (C := RX4) (T := TX4) (N := 10) hx hb hts (fun _ h9 => List.mem_cons_of_mem _ (List.mem_append_right _ h9)) tyX4 tyX4_ok nmX4 hown hK hP hD hS 1 rfl rfl 7 (by decide) (va_Nw.use rfl (hN.1 (RX8, 229, "BuoyTender$Ship", "draught", "I", "BuoyTender") (by decide +kernel))) (fun _ h9 => h9) rfl (by decide +kernel) rfl rfl (Nat.le_of_ble_eq_true rfl) dX8_ship_57 (fun H locs hP hD hS => ?_)
          have hP : va_P D vwCl [(h0, .inr (8, [.ref (a 1), .ref (a 2), .ref (a 3), .ref (a 4), .ref (a 5), .ref (a 6), .ref (a 7), .null, .int 0, .int 0, .int 0, .int 0])), (a 5, .inr (4, [.ref (a 12), .ref (a 13), .int 0, .int 0, .int 0, .int 1440, .int x1, .int x2, .int 12, .int 0]))] H := hP
          have hD : va_D A [(h0, .inr (8, [.ref (a 1), .ref (a 2), .ref (a 3), .ref (a 4), .ref (a 5), .ref (a 6), .ref (a 7), .null, .int 0, .int 0, .int 0, .int 0])), (a 5, .inr (4, [.ref (a 12), .ref (a 13), .int 0, .int 0, .int 0, .int 1440, .int x1, .int x2, .int 12, .int 0]))] := hD
          refine lv_aload_n hx hb dX8_ship_60 rfl (lv_at hl 0 rfl) ?_
          refine va_get (D := D) (ci := 8) (v := .ref (a 5)) (C := RX8) (T := TX8) (N := 12) hx hb hts (fun _ h9 => List.mem_cons_of_mem _ (List.mem_append_left _ (List.mem_append_right _ h9))) hown hK hP 0 rfl rfl 4 (by decide) (hts (.fieldLink RX8 32 "BuoyTender" "vessel" "LBuoyTender$Ship;") (by decide +kernel)) (fun _ h9 => h9) rfl dX8_ship_61 ?_
          refine lv_iload_n hx hb dX8_ship_64 rfl (lv_at hl 3 rfl) ?_
          refine va_putN (D := D) (ci := 4) (v := .int x3) (ty := (tyX4 8)) (C := RX4) (T := TX4) (N := 10) hx hb hts (fun _ h9 => List.mem_cons_of_mem _ (List.mem_append_right _ h9)) tyX4 tyX4_ok nmX4 hown hK hP hD hS 1 rfl rfl 8 (by decide) (va_Nw.use rfl (hN.1 (RX8, 232, "BuoyTender$Ship", "mostWind", "I", "BuoyTender") (by decide +kernel))) (fun _ h9 => h9) rfl (by decide +kernel) rfl rfl (Nat.le_of_ble_eq_true rfl) dX8_ship_65 (fun H locs hP hD hS => ?_)
          have hP : va_P D vwCl [(h0, .inr (8, [.ref (a 1), .ref (a 2), .ref (a 3), .ref (a 4), .ref (a 5), .ref (a 6), .ref (a 7), .null, .int 0, .int 0, .int 0, .int 0])), (a 5, .inr (4, [.ref (a 12), .ref (a 13), .int 0, .int 0, .int 0, .int 1440, .int x1, .int x2, .int x3, .int 0]))] H := hP
          have hD : va_D A [(h0, .inr (8, [.ref (a 1), .ref (a 2), .ref (a 3), .ref (a 4), .ref (a 5), .ref (a 6), .ref (a 7), .null, .int 0, .int 0, .int 0, .int 0])), (a 5, .inr (4, [.ref (a 12), .ref (a 13), .int 0, .int 0, .int 0, .int 1440, .int x1, .int x2, .int x3, .int 0]))] := hD
          refine lv_aload_n hx hb dX8_ship_68 rfl (lv_at hl 0 rfl) ?_
          refine va_get (D := D) (ci := 8) (v := .ref (a 5)) (C := RX8) (T := TX8) (N := 12) hx hb hts (fun _ h9 => List.mem_cons_of_mem _ (List.mem_append_left _ (List.mem_append_right _ h9))) hown hK hP 0 rfl rfl 4 (by decide) (hts (.fieldLink RX8 32 "BuoyTender" "vessel" "LBuoyTender$Ship;") (by decide +kernel)) (fun _ h9 => h9) rfl dX8_ship_69 ?_
          refine lv_iload hx hb dX8_ship_72 (lv_at hl 4 rfl) ?_
          refine va_putN (D := D) (ci := 4) (v := .int x4) (ty := (tyX4 9)) (C := RX4) (T := TX4) (N := 10) hx hb hts (fun _ h9 => List.mem_cons_of_mem _ (List.mem_append_right _ h9)) tyX4 tyX4_ok nmX4 hown hK hP hD hS 1 rfl rfl 9 (by decide) (va_Nw.use rfl (hN.1 (RX8, 235, "BuoyTender$Ship", "carried", "I", "BuoyTender") (by decide +kernel))) (fun _ h9 => h9) rfl (by decide +kernel) rfl rfl (Nat.le_of_ble_eq_true rfl) dX8_ship_74 (fun H locs hP hD hS => ?_)
          have hP : va_P D vwCl [(h0, .inr (8, [.ref (a 1), .ref (a 2), .ref (a 3), .ref (a 4), .ref (a 5), .ref (a 6), .ref (a 7), .null, .int 0, .int 0, .int 0, .int 0])), (a 5, .inr (4, [.ref (a 12), .ref (a 13), .int 0, .int 0, .int 0, .int 1440, .int x1, .int x2, .int x3, .int x4]))] H := hP
          have hD : va_D A [(h0, .inr (8, [.ref (a 1), .ref (a 2), .ref (a 3), .ref (a 4), .ref (a 5), .ref (a 6), .ref (a 7), .null, .int 0, .int 0, .int 0, .int 0])), (a 5, .inr (4, [.ref (a 12), .ref (a 13), .int 0, .int 0, .int 0, .int 1440, .int x1, .int x2, .int x3, .int x4]))] := hD
          refine lv_aload_n hx hb dX8_ship_77 rfl (lv_at hl 0 rfl) ?_
          refine lv_iconst (v := 0) hx hb dX8_ship_78 (by decide) ?_
          refine va_put (D := D) (ci := 8) (v := .int 0) (ty := (tyX8 11)) (C := RX8) (T := TX8) (N := 12) hx hb hts (fun _ h9 => List.mem_cons_of_mem _ (List.mem_append_left _ (List.mem_append_right _ h9))) tyX8 tyX8_ok nmX8 hown hK hP hD hS 0 rfl rfl 11 (by decide) (hts (.fieldLink RX8 58 "BuoyTender" "planned" "Z") (by decide +kernel)) (fun _ h9 => h9) rfl (by decide +kernel) rfl rfl (Nat.le_of_ble_eq_true rfl) dX8_ship_79 (fun H locs hP hD hS => ?_)
          have hP : va_P D vwCl [(h0, .inr (8, [.ref (a 1), .ref (a 2), .ref (a 3), .ref (a 4), .ref (a 5), .ref (a 6), .ref (a 7), .null, .int 0, .int 0, .int 0, .int 0])), (a 5, .inr (4, [.ref (a 12), .ref (a 13), .int 0, .int 0, .int 0, .int 1440, .int x1, .int x2, .int x3, .int x4]))] H := hP
          have hD : va_D A [(h0, .inr (8, [.ref (a 1), .ref (a 2), .ref (a 3), .ref (a 4), .ref (a 5), .ref (a 6), .ref (a 7), .null, .int 0, .int 0, .int 0, .int 0])), (a 5, .inr (4, [.ref (a 12), .ref (a 13), .int 0, .int 0, .int 0, .int 1440, .int x1, .int x2, .int x3, .int x4]))] := hD
          refine lv_iconst (v := 1) hx hb dX8_ship_82 (by decide) ?_
          exact W.zret (v := 1) hx hb hr rfl (fun t ht hW => ⟨⟨1, (), rfl, (Or.inl ⟨rfl, h_1, h_3, h_5, h_7⟩), trivial⟩, hS.F ht⟩) hS.2.2 dX8_ship_83
        refine lv_if_ne (tgt := 44) hx hb dX8_ship_39 (by decide) (fun c_9 => False.elim (by revert c_9; decide)) (fun _ => ?_)
        refine lv_iconst (v := 0) hx hb dX8_ship_42 (by decide) ?_
        exact W.zret (v := 0) hx hb hr rfl (fun t ht hW => ⟨⟨0, (), rfl, (Or.inr ⟨rfl, fun h9 => h_7 (h9.2.2.2)⟩), trivial⟩, hS.F ht⟩) hS.2.2 dX8_ship_43
      refine lv_if_eq (tgt := 42) hx hb dX8_ship_27 (by decide) (fun _ => ?_) (fun c_10 => False.elim (by revert c_10; decide))
      refine lv_iconst (v := 0) hx hb dX8_ship_42 (by decide) ?_
      exact W.zret (v := 0) hx hb hr rfl (fun t ht hW => ⟨⟨0, (), rfl, (Or.inr ⟨rfl, fun h9 => h_5 (h9.2.2.1)⟩), trivial⟩, hS.F ht⟩) hS.2.2 dX8_ship_43
    refine lv_if_eq (tgt := 42) hx hb dX8_ship_17 (by decide) (fun _ => ?_) (fun c_11 => False.elim (by revert c_11; decide))
    refine lv_iconst (v := 0) hx hb dX8_ship_42 (by decide) ?_
    exact W.zret (v := 0) hx hb hr rfl (fun t ht hW => ⟨⟨0, (), rfl, (Or.inr ⟨rfl, fun h9 => h_3 (h9.2.1)⟩), trivial⟩, hS.F ht⟩) hS.2.2 dX8_ship_43
  refine lv_if_eq (tgt := 42) hx hb dX8_ship_7 (by decide) (fun _ => ?_) (fun c_12 => False.elim (by revert c_12; decide))
  refine lv_iconst (v := 0) hx hb dX8_ship_42 (by decide) ?_
  exact W.zret (v := 0) hx hb hr rfl (fun t ht hW => ⟨⟨0, (), rfl, (Or.inr ⟨rfl, fun h9 => h_1 (h9.1)⟩), trivial⟩, hS.F ht⟩) hS.2.2 dX8_ship_43
set_option maxHeartbeats 4000000 in
set_option maxRecDepth 100000 in
/-- X8_at on a fresh object -/
theorem k_X8_at (l : Launch) (D : va_G) (cI cJ cZ cM : Nat) (h0 : Nat) (a : Nat → Nat) (x1 : Int32) (x2 : Int32) (x3 : Int32) (x4 : Int32) (sz : Nat) : Met l yX8_at wsX8_at ({ frames := 2, cells := 0, slots := 0, locals := 43 } : Room) (RW D cI cJ cZ cM [.ref h0, .int x1, .int x2, .int x3, .int x4] [(h0, .inr (8, [.ref (a 1), .ref (a 2), .ref (a 3), .ref (a 4), .ref (a 5), .ref (a 6), .ref (a 7), .null, .int 0, .int 0, .int 0, .int 0])), (a 5, .inr (4, [.ref (a 12), .ref (a 13), .int 0, .int 0, .int 0, .int 1440, .int 1, .int 0, .int 12, .int 0]))] sz) (va_Qi (S := Unit) (fun r u => okI 1 0 (placeP x1 x2 ∧ (0 ≤ x3 ∧ x3 ≤ 1440) ∧ (x3 ≤ x4 ∧ x4 ≤ 1440)) r) (fun _ _ => True) (va_A [(h0, .inr (8, [.ref (a 1), .ref (a 2), .ref (a 3), .ref (a 4), .ref (a 5), .ref (a 6), .ref (a 7), .null, .int 0, .int 0, .int 0, .int 0])), (a 5, .inr (4, [.ref (a 12), .ref (a 13), .int 0, .int 0, .int 0, .int 1440, .int 1, .int 0, .int 12, .int 0]))] sz)) 0 0 (va_A [(h0, .inr (8, [.ref (a 1), .ref (a 2), .ref (a 3), .ref (a 4), .ref (a 5), .ref (a 6), .ref (a 7), .null, .int 0, .int 0, .int 0, .int 0])), (a 5, .inr (4, [.ref (a 12), .ref (a 13), .int 0, .int 0, .int 0, .int 1440, .int 1, .int 0, .int 12, .int 0]))] sz) := by
  refine Met.ofW (cc := cX8_at) (maxL := 5) (ret := (some .boolean)) (by decide) rfl ?_
  intro p e s m args below meth c s₁ B hml hv
  obtain ⟨rfl, hsz, hG, hP, hD0⟩ := hv
  have hx := B.exec
  have hb := B.bytes
  have hr := B.returns
  have hts := atoms_spec (ws := wsX8_at) B.pre
  have hown : s.vm.findClass RX8 = some m.cls := findClass_of_methodNamed B.named
  have hlocks := B.notSynchronized
  have hK := hG.1
  have hN := hG.2
  subst hsz
  have hD := hD0.self (sz := s.heap.size)
  generalize hAe : va_A [(h0, .inr (8, [.ref (a 1), .ref (a 2), .ref (a 3), .ref (a 4), .ref (a 5), .ref (a 6), .ref (a 7), .null, .int 0, .int 0, .int 0, .int 0])), (a 5, .inr (4, [.ref (a 12), .ref (a 13), .int 0, .int 0, .int 0, .int 1440, .int 1, .int 0, .int 12, .int 0]))] s.heap.size = A at hD ⊢
  have hA : ∀ q : Nat, s.heap.size ≤ q → A q := fun q h => by rw [← hAe]; exact Or.inr h
  have hS : va_S A s.heap s.heap [] := va_S.rf
  have hP : va_P D vwCl [(h0, .inr (8, [.ref (a 1), .ref (a 2), .ref (a 3), .ref (a 4), .ref (a 5), .ref (a 6), .ref (a 7), .null, .int 0, .int 0, .int 0, .int 0])), (a 5, .inr (4, [.ref (a 12), .ref (a 13), .int 0, .int 0, .int 0, .int 1440, .int 1, .int 0, .int 12, .int 0]))] s.heap := hP
  have hl := lv_entry ([.ref h0, .int x1, .int x2, .int x3, .int x4]) (n := 5) (Nat.le_of_ble_eq_true rfl)
  rw [lg_entry_eq]
  generalize (lg_sl ([.ref h0, .int x1, .int x2, .int x3, .int x4]) ++ List.replicate (5 - (lg_sl ([.ref h0, .int x1, .int x2, .int x3, .int x4])).length) Slot.unset).toArray = ls at hl ⊢
  have hl : lv_has ls 5 [(0, .ref h0), (1, .int x1), (2, .int x2), (3, .int x3), (4, .int x4)] := hl
  refine lv_iload_n hx hb dX8_at_0 rfl (lv_at hl 1 rfl) ?_
  refine lv_iload_n hx hb dX8_at_1 rfl (lv_at hl 2 rfl) ?_
  refine vp_callSi (va_Run.run (va_runS (As := [.int x1, .int x2]) (rest := []) ⟨hx, hb, hml, hown, hts⟩ (k_X8_isPlace l x1 x2) (va_cwS 2 hts gX8_at_X8_isPlace rfl rfl rfl (by decide +kernel) ⟨Nat.le_of_ble_eq_true rfl, Nat.le_of_ble_eq_true rfl⟩) preEq rfl rfl hl.1 rfl (lv_room (Nat.le_of_ble_eq_true rfl)) dX8_at_2 ⟨Nat.le_of_ble_eq_true rfl, Nat.le_of_ble_eq_true rfl⟩)) (fun r_1 h_1 => ?_)
  rcases h_1 with ⟨rfl, h_1⟩ | ⟨rfl, h_1⟩
  · refine lv_if_eq (tgt := 31) hx hb dX8_at_5 (by decide) (fun c_2 => False.elim (by revert c_2; decide)) (fun _ => ?_)
    refine lv_iload_n hx hb dX8_at_8 rfl (lv_at hl 3 rfl) ?_
    refine lv_iconst (v := 0) hx hb dX8_at_9 (by decide) ?_
    refine lv_sipush (v := 1440) hx hb dX8_at_10 (by decide) ?_
    refine vp_callSi (va_Run.run (va_runS (As := [.int x3, .int 0, .int 1440]) (rest := []) ⟨hx, hb, hml, hown, hts⟩ (k_X8_within l x3 0 1440) (va_cwS 3 hts gX8_at_X8_within rfl rfl rfl (by decide +kernel) ⟨Nat.le_of_ble_eq_true rfl, Nat.le_of_ble_eq_true rfl⟩) preEq rfl rfl hl.1 rfl (lv_room (Nat.le_of_ble_eq_true rfl)) dX8_at_13 ⟨Nat.le_of_ble_eq_true rfl, Nat.le_of_ble_eq_true rfl⟩)) (fun r_3 h_3 => ?_)
    rcases h_3 with ⟨rfl, h_3⟩ | ⟨rfl, h_3⟩
    · refine lv_if_eq (tgt := 31) hx hb dX8_at_16 (by decide) (fun c_4 => False.elim (by revert c_4; decide)) (fun _ => ?_)
      refine lv_iload hx hb dX8_at_19 (lv_at hl 4 rfl) ?_
      refine lv_iload_n hx hb dX8_at_21 rfl (lv_at hl 3 rfl) ?_
      refine lv_sipush (v := 1440) hx hb dX8_at_22 (by decide) ?_
      refine vp_callSi (va_Run.run (va_runS (As := [.int x4, .int x3, .int 1440]) (rest := []) ⟨hx, hb, hml, hown, hts⟩ (k_X8_within l x4 x3 1440) (va_cwS 3 hts gX8_at_X8_within rfl rfl rfl (by decide +kernel) ⟨Nat.le_of_ble_eq_true rfl, Nat.le_of_ble_eq_true rfl⟩) preEq rfl rfl hl.1 rfl (lv_room (Nat.le_of_ble_eq_true rfl)) dX8_at_25 ⟨Nat.le_of_ble_eq_true rfl, Nat.le_of_ble_eq_true rfl⟩)) (fun r_5 h_5 => ?_)
      rcases h_5 with ⟨rfl, h_5⟩ | ⟨rfl, h_5⟩
      · refine lv_if_ne (tgt := 33) hx hb dX8_at_28 (by decide) (fun _ => ?_) (fun c_6 => False.elim (by revert c_6; decide))
        refine lv_aload_n hx hb dX8_at_33 rfl (lv_at hl 0 rfl) ?_
        refine va_get (D := D) (ci := 8) (v := .ref (a 5)) (C := RX8) (T := TX8) (N := 12) hx hb hts (fun _ h9 => List.mem_cons_of_mem _ (List.mem_append_left _ (List.mem_append_right _ h9))) hown hK hP 0 rfl rfl 4 (by decide) (hts (.fieldLink RX8 32 "BuoyTender" "vessel" "LBuoyTender$Ship;") (by decide +kernel)) (fun _ h9 => h9) rfl dX8_at_34 ?_
        refine lv_iload_n hx hb dX8_at_37 rfl (lv_at hl 1 rfl) ?_
        refine va_putN (D := D) (ci := 4) (v := .int x1) (ty := (tyX4 2)) (C := RX4) (T := TX4) (N := 10) hx hb hts (fun _ h9 => List.mem_cons_of_mem _ (List.mem_append_right _ h9)) tyX4 tyX4_ok nmX4 hown hK hP hD hS 1 rfl rfl 2 (by decide) (va_Nw.use rfl (hN.1 (RX8, 238, "BuoyTender$Ship", "x", "I", "BuoyTender") (by decide +kernel))) (fun _ h9 => h9) rfl (by decide +kernel) rfl rfl (Nat.le_of_ble_eq_true rfl) dX8_at_38 (fun H locs hP hD hS => ?_)
        have hP : va_P D vwCl [(h0, .inr (8, [.ref (a 1), .ref (a 2), .ref (a 3), .ref (a 4), .ref (a 5), .ref (a 6), .ref (a 7), .null, .int 0, .int 0, .int 0, .int 0])), (a 5, .inr (4, [.ref (a 12), .ref (a 13), .int x1, .int 0, .int 0, .int 1440, .int 1, .int 0, .int 12, .int 0]))] H := hP
        have hD : va_D A [(h0, .inr (8, [.ref (a 1), .ref (a 2), .ref (a 3), .ref (a 4), .ref (a 5), .ref (a 6), .ref (a 7), .null, .int 0, .int 0, .int 0, .int 0])), (a 5, .inr (4, [.ref (a 12), .ref (a 13), .int x1, .int 0, .int 0, .int 1440, .int 1, .int 0, .int 12, .int 0]))] := hD
        refine lv_aload_n hx hb dX8_at_41 rfl (lv_at hl 0 rfl) ?_
        refine va_get (D := D) (ci := 8) (v := .ref (a 5)) (C := RX8) (T := TX8) (N := 12) hx hb hts (fun _ h9 => List.mem_cons_of_mem _ (List.mem_append_left _ (List.mem_append_right _ h9))) hown hK hP 0 rfl rfl 4 (by decide) (hts (.fieldLink RX8 32 "BuoyTender" "vessel" "LBuoyTender$Ship;") (by decide +kernel)) (fun _ h9 => h9) rfl dX8_at_42 ?_
        refine lv_iload_n hx hb dX8_at_45 rfl (lv_at hl 2 rfl) ?_
        refine va_putN (D := D) (ci := 4) (v := .int x2) (ty := (tyX4 3)) (C := RX4) (T := TX4) (N := 10) hx hb hts (fun _ h9 => List.mem_cons_of_mem _ (List.mem_append_right _ h9)) tyX4 tyX4_ok nmX4 hown hK hP hD hS 1 rfl rfl 3 (by decide) (va_Nw.use rfl (hN.1 (RX8, 239, "BuoyTender$Ship", "y", "I", "BuoyTender") (by decide +kernel))) (fun _ h9 => h9) rfl (by decide +kernel) rfl rfl (Nat.le_of_ble_eq_true rfl) dX8_at_46 (fun H locs hP hD hS => ?_)
        have hP : va_P D vwCl [(h0, .inr (8, [.ref (a 1), .ref (a 2), .ref (a 3), .ref (a 4), .ref (a 5), .ref (a 6), .ref (a 7), .null, .int 0, .int 0, .int 0, .int 0])), (a 5, .inr (4, [.ref (a 12), .ref (a 13), .int x1, .int x2, .int 0, .int 1440, .int 1, .int 0, .int 12, .int 0]))] H := hP
        have hD : va_D A [(h0, .inr (8, [.ref (a 1), .ref (a 2), .ref (a 3), .ref (a 4), .ref (a 5), .ref (a 6), .ref (a 7), .null, .int 0, .int 0, .int 0, .int 0])), (a 5, .inr (4, [.ref (a 12), .ref (a 13), .int x1, .int x2, .int 0, .int 1440, .int 1, .int 0, .int 12, .int 0]))] := hD
        refine lv_aload_n hx hb dX8_at_49 rfl (lv_at hl 0 rfl) ?_
        refine va_get (D := D) (ci := 8) (v := .ref (a 5)) (C := RX8) (T := TX8) (N := 12) hx hb hts (fun _ h9 => List.mem_cons_of_mem _ (List.mem_append_left _ (List.mem_append_right _ h9))) hown hK hP 0 rfl rfl 4 (by decide) (hts (.fieldLink RX8 32 "BuoyTender" "vessel" "LBuoyTender$Ship;") (by decide +kernel)) (fun _ h9 => h9) rfl dX8_at_50 ?_
        refine lv_iload_n hx hb dX8_at_53 rfl (lv_at hl 3 rfl) ?_
        refine va_putN (D := D) (ci := 4) (v := .int x3) (ty := (tyX4 4)) (C := RX4) (T := TX4) (N := 10) hx hb hts (fun _ h9 => List.mem_cons_of_mem _ (List.mem_append_right _ h9)) tyX4 tyX4_ok nmX4 hown hK hP hD hS 1 rfl rfl 4 (by decide) (va_Nw.use rfl (hN.1 (RX8, 240, "BuoyTender$Ship", "minute", "I", "BuoyTender") (by decide +kernel))) (fun _ h9 => h9) rfl (by decide +kernel) rfl rfl (Nat.le_of_ble_eq_true rfl) dX8_at_54 (fun H locs hP hD hS => ?_)
        have hP : va_P D vwCl [(h0, .inr (8, [.ref (a 1), .ref (a 2), .ref (a 3), .ref (a 4), .ref (a 5), .ref (a 6), .ref (a 7), .null, .int 0, .int 0, .int 0, .int 0])), (a 5, .inr (4, [.ref (a 12), .ref (a 13), .int x1, .int x2, .int x3, .int 1440, .int 1, .int 0, .int 12, .int 0]))] H := hP
        have hD : va_D A [(h0, .inr (8, [.ref (a 1), .ref (a 2), .ref (a 3), .ref (a 4), .ref (a 5), .ref (a 6), .ref (a 7), .null, .int 0, .int 0, .int 0, .int 0])), (a 5, .inr (4, [.ref (a 12), .ref (a 13), .int x1, .int x2, .int x3, .int 1440, .int 1, .int 0, .int 12, .int 0]))] := hD
        refine lv_aload_n hx hb dX8_at_57 rfl (lv_at hl 0 rfl) ?_
        refine va_get (D := D) (ci := 8) (v := .ref (a 5)) (C := RX8) (T := TX8) (N := 12) hx hb hts (fun _ h9 => List.mem_cons_of_mem _ (List.mem_append_left _ (List.mem_append_right _ h9))) hown hK hP 0 rfl rfl 4 (by decide) (hts (.fieldLink RX8 32 "BuoyTender" "vessel" "LBuoyTender$Ship;") (by decide +kernel)) (fun _ h9 => h9) rfl dX8_at_58 ?_
        refine lv_iload hx hb dX8_at_61 (lv_at hl 4 rfl) ?_
        refine va_putN (D := D) (ci := 4) (v := .int x4) (ty := (tyX4 5)) (C := RX4) (T := TX4) (N := 10) hx hb hts (fun _ h9 => List.mem_cons_of_mem _ (List.mem_append_right _ h9)) tyX4 tyX4_ok nmX4 hown hK hP hD hS 1 rfl rfl 5 (by decide) (va_Nw.use rfl (hN.1 (RX8, 243, "BuoyTender$Ship", "end", "I", "BuoyTender") (by decide +kernel))) (fun _ h9 => h9) rfl (by decide +kernel) rfl rfl (Nat.le_of_ble_eq_true rfl) dX8_at_63 (fun H locs hP hD hS => ?_)
        have hP : va_P D vwCl [(h0, .inr (8, [.ref (a 1), .ref (a 2), .ref (a 3), .ref (a 4), .ref (a 5), .ref (a 6), .ref (a 7), .null, .int 0, .int 0, .int 0, .int 0])), (a 5, .inr (4, [.ref (a 12), .ref (a 13), .int x1, .int x2, .int x3, .int x4, .int 1, .int 0, .int 12, .int 0]))] H := hP
        have hD : va_D A [(h0, .inr (8, [.ref (a 1), .ref (a 2), .ref (a 3), .ref (a 4), .ref (a 5), .ref (a 6), .ref (a 7), .null, .int 0, .int 0, .int 0, .int 0])), (a 5, .inr (4, [.ref (a 12), .ref (a 13), .int x1, .int x2, .int x3, .int x4, .int 1, .int 0, .int 12, .int 0]))] := hD
        refine lv_aload_n hx hb dX8_at_66 rfl (lv_at hl 0 rfl) ?_
        refine lv_iconst (v := 0) hx hb dX8_at_67 (by decide) ?_
        refine va_put (D := D) (ci := 8) (v := .int 0) (ty := (tyX8 11)) (C := RX8) (T := TX8) (N := 12) hx hb hts (fun _ h9 => List.mem_cons_of_mem _ (List.mem_append_left _ (List.mem_append_right _ h9))) tyX8 tyX8_ok nmX8 hown hK hP hD hS 0 rfl rfl 11 (by decide) (hts (.fieldLink RX8 58 "BuoyTender" "planned" "Z") (by decide +kernel)) (fun _ h9 => h9) rfl (by decide +kernel) rfl rfl (Nat.le_of_ble_eq_true rfl) dX8_at_68 (fun H locs hP hD hS => ?_)
        have hP : va_P D vwCl [(h0, .inr (8, [.ref (a 1), .ref (a 2), .ref (a 3), .ref (a 4), .ref (a 5), .ref (a 6), .ref (a 7), .null, .int 0, .int 0, .int 0, .int 0])), (a 5, .inr (4, [.ref (a 12), .ref (a 13), .int x1, .int x2, .int x3, .int x4, .int 1, .int 0, .int 12, .int 0]))] H := hP
        have hD : va_D A [(h0, .inr (8, [.ref (a 1), .ref (a 2), .ref (a 3), .ref (a 4), .ref (a 5), .ref (a 6), .ref (a 7), .null, .int 0, .int 0, .int 0, .int 0])), (a 5, .inr (4, [.ref (a 12), .ref (a 13), .int x1, .int x2, .int x3, .int x4, .int 1, .int 0, .int 12, .int 0]))] := hD
        refine lv_iconst (v := 1) hx hb dX8_at_71 (by decide) ?_
        exact W.zret (v := 1) hx hb hr rfl (fun t ht hW => ⟨⟨1, (), rfl, (Or.inl ⟨rfl, h_1, h_3, h_5⟩), trivial⟩, hS.F ht⟩) hS.2.2 dX8_at_72
      refine lv_if_ne (tgt := 33) hx hb dX8_at_28 (by decide) (fun c_7 => False.elim (by revert c_7; decide)) (fun _ => ?_)
      refine lv_iconst (v := 0) hx hb dX8_at_31 (by decide) ?_
      exact W.zret (v := 0) hx hb hr rfl (fun t ht hW => ⟨⟨0, (), rfl, (Or.inr ⟨rfl, fun h9 => h_5 (h9.2.2)⟩), trivial⟩, hS.F ht⟩) hS.2.2 dX8_at_32
    refine lv_if_eq (tgt := 31) hx hb dX8_at_16 (by decide) (fun _ => ?_) (fun c_8 => False.elim (by revert c_8; decide))
    refine lv_iconst (v := 0) hx hb dX8_at_31 (by decide) ?_
    exact W.zret (v := 0) hx hb hr rfl (fun t ht hW => ⟨⟨0, (), rfl, (Or.inr ⟨rfl, fun h9 => h_3 (h9.2.1)⟩), trivial⟩, hS.F ht⟩) hS.2.2 dX8_at_32
  refine lv_if_eq (tgt := 31) hx hb dX8_at_5 (by decide) (fun _ => ?_) (fun c_9 => False.elim (by revert c_9; decide))
  refine lv_iconst (v := 0) hx hb dX8_at_31 (by decide) ?_
  exact W.zret (v := 0) hx hb hr rfl (fun t ht hW => ⟨⟨0, (), rfl, (Or.inr ⟨rfl, fun h9 => h_1 (h9.1)⟩), trivial⟩, hS.F ht⟩) hS.2.2 dX8_at_32
set_option maxHeartbeats 4000000 in
set_option maxRecDepth 100000 in
/-- Mark(x, y, r) -/
theorem k_X1_init (l : Launch) (D : va_G) (cI cJ cZ cM : Nat) (h0 : Nat) (x1 : Int32) (x2 : Int32) (x3 : Int32) (sz : Nat) : Met l yX1_init wsX1_init ({ frames := 2, cells := 5, slots := 59, locals := 40 } : Room) (RW D cI cJ cZ cM [.ref h0, .int x1, .int x2, .int x3] [(h0, .inr (1, [.int 0, .int 0, .int 0, .null, .null, .null, .int 0, .int 0, .int 0]))] sz) (va_Qv (S := Nat × Nat × Nat × Nat × Nat) (fun u => True) (BB D (fun u => [(h0, .inr (1, [.int x1, .int x2, .int x3, .ref u.1, .ref u.2.2.1, .ref u.2.2.2.1, .int 0, .int 0, .int 0])), (u.1, .inr (5, [.ref u.2.1, .int 0, .int 200, .int 0])), (u.2.1, .inl (cJ, 40, .inr (.inl (fun _ => 0)))), (u.2.2.1, .inr (0, [.int 0, .int 0, .int 0, .int 0, .int 0])), (u.2.2.2.1, .inr (3, [.ref u.2.2.2.2, .int 0])), (u.2.2.2.2, .inl (cI, 8, .inl (fun _ => 0)))]) (va_A [(h0, .inr (1, [.int 0, .int 0, .int 0, .null, .null, .null, .int 0, .int 0, .int 0]))] sz)) (va_A [(h0, .inr (1, [.int 0, .int 0, .int 0, .null, .null, .null, .int 0, .int 0, .int 0]))] sz)) 5 59 (va_A [(h0, .inr (1, [.int 0, .int 0, .int 0, .null, .null, .null, .int 0, .int 0, .int 0]))] sz) := by
  refine Met.ofW (cc := cX1_init) (maxL := 4) (ret := none) (by decide) rfl ?_
  intro p e s m args below meth c s₁ B hml hv
  obtain ⟨rfl, hsz, hG, hP, hD0⟩ := hv
  have hx := B.exec
  have hb := B.bytes
  have hr := B.returns
  have hts := atoms_spec (ws := wsX1_init) B.pre
  have hown : s.vm.findClass RX1 = some m.cls := findClass_of_methodNamed B.named
  have hlocks := B.notSynchronized
  have hin : meth.name = "<init>" := (name_of_methodNamed B.named B.method).1
  have hK := hG.1
  have hN := hG.2
  subst hsz
  have hD := hD0.self (sz := s.heap.size)
  generalize hAe : va_A [(h0, .inr (1, [.int 0, .int 0, .int 0, .null, .null, .null, .int 0, .int 0, .int 0]))] s.heap.size = A at hD ⊢
  have hA : ∀ q : Nat, s.heap.size ≤ q → A q := fun q h => by rw [← hAe]; exact Or.inr h
  have hS : va_S A s.heap s.heap [] := va_S.rf
  have hP : va_P D vwCl [(h0, .inr (1, [.int 0, .int 0, .int 0, .null, .null, .null, .int 0, .int 0, .int 0]))] s.heap := hP
  have hl := lv_entry ([.ref h0, .int x1, .int x2, .int x3]) (n := 4) (Nat.le_of_ble_eq_true rfl)
  rw [lg_entry_eq]
  generalize (lg_sl ([.ref h0, .int x1, .int x2, .int x3]) ++ List.replicate (4 - (lg_sl ([.ref h0, .int x1, .int x2, .int x3])).length) Slot.unset).toArray = ls at hl ⊢
  have hl : lv_has ls 4 [(0, .ref h0), (1, .int x1), (2, .int x2), (3, .int x3)] := hl
  refine lv_aload_n hx hb dX1_init_0 rfl (lv_at hl 0 rfl) ?_
  refine W.objInit hx hb hown (hts (.methodLink RX1 1 objectInit) (by decide +kernel)) (hts (.instanceMethod objectInit) (by decide +kernel)) (hts (.code objectInit ⟨#[0xb1]⟩ 1 none) (by decide +kernel)) rfl (by rw [hml]; exact hl.1) rfl dX1_init_1 (Nat.le_of_ble_eq_true rfl) (Nat.le_of_ble_eq_true rfl) ?_
  refine W.eq (g2 := F0 m 4 ls []) rfl ?_
  refine lv_aload_n hx hb dX1_init_4 rfl (lv_at hl 0 rfl) ?_
  refine va_new (ci := 5) (fs := [.null, .int 0, .int 0, .int 0]) (C := RX5) (T := TX5) (N := 4) hx hb hts (fun _ h9 => List.mem_cons_of_mem _ (List.mem_append_left _ (List.mem_append_left _ (List.mem_append_left _ (List.mem_append_right _ h9))))) tyX5 tyX5_ok hown (hts (.classLink RX1 7 RX5) (by decide +kernel)) (hts (.instantiable RX5 4) (by decide +kernel)) (hts (.initialized RX5) (by decide +kernel)) hK hP hD hS hA rfl (fun j hj => by rcases (show j = 0 ∨ j = 1 ∨ j = 2 ∨ j = 3 by omega) with rfl | rfl | rfl | rfl <;> rfl) (Nat.le_of_ble_eq_true rfl) (Nat.le_of_ble_eq_true rfl) dX1_init_5 (fun q1 H hP hD hS => ?_)
  have hP : va_P D vwCl [(h0, .inr (1, [.int 0, .int 0, .int 0, .null, .null, .null, .int 0, .int 0, .int 0])), (q1, .inr (5, [.null, .int 0, .int 0, .int 0]))] H := hP
  have hD : va_D A [(h0, .inr (1, [.int 0, .int 0, .int 0, .null, .null, .null, .int 0, .int 0, .int 0])), (q1, .inr (5, [.null, .int 0, .int 0, .int 0]))] := hD
  refine W.widen (k := 1) (n := 4) (by decide) (by decide) ?_
  refine lv_dup hx hb dX1_init_8 rfl ?_
  have hPc := hP.sub (ws' := [(q1, .inr (5, [.null, .int 0, .int 0, .int 0]))]) [1] rfl
  have hDc := hD.sub (ws' := [(q1, .inr (5, [.null, .int 0, .int 0, .int 0]))]) [1] (by decide) rfl
  have hFc := va_free (wc := [(q1, .inr (5, [.null, .int 0, .int 0, .int 0]))]) hD hS hA [1] rfl
  refine va_callv (va_runIN (As := []) (rest := [.ref q1, .ref h0]) ⟨hx, hb, hml, hown, hts⟩ (k_X5_init l D cI cJ cZ cM q1 _) ⟨(va_cnB 0 hts gX1_init_X5_init_n9 rfl rfl rfl (hN.2.1 (RX1, 9, yX5_init, "BuoyTender") (by decide +kernel)) (hts (.initialized RX5) (by decide +kernel)) (by decide +kernel) ⟨Nat.le_of_ble_eq_true rfl, Nat.le_of_ble_eq_true rfl⟩), rfl, hts (.instanceMethod yX5_init) (by decide +kernel)⟩ (rw_S hG hPc hDc) rfl rfl hl.1 rfl (lv_room (Nat.le_of_ble_eq_true rfl)) dX1_init_9 ⟨Nat.le_of_ble_eq_true rfl, Nat.le_of_ble_eq_true rfl⟩) hS (fun q _ h => hFc q h) hFc (fun u_2 t_2 H1 locs ht hvm hw hB hz1 hk1 hS => ?_)
  obtain ⟨y0_2, rfl⟩ : ∃ z, z = u_2 := ⟨_, rfl⟩
  obtain ⟨hP1, hD1⟩ := hB
  rw [ht] at hP1
  obtain ⟨hP, hD⟩ := va_join (wr := [(h0, .inr (1, [.int 0, .int 0, .int 0, .null, .null, .null, .int 0, .int 0, .int 0]))]) (w1 := [(q1, .inr (5, [.ref y0_2, .int 0, .int 200, .int 0])), (y0_2, .inl (cJ, 40, .inr (.inl (fun _ => 0))))]) hP hD [1] [0] rfl rfl (by decide) (by decide) hk1 hFc hP1 hD1
  generalize H1 = H at hP hS ⊢
  have hP : va_P D vwCl [(h0, .inr (1, [.int 0, .int 0, .int 0, .null, .null, .null, .int 0, .int 0, .int 0])), (q1, .inr (5, [.ref y0_2, .int 0, .int 200, .int 0])), (y0_2, .inl (cJ, 40, .inr (.inl (fun _ => 0))))] H := hP
  have hD : va_D A [(h0, .inr (1, [.int 0, .int 0, .int 0, .null, .null, .null, .int 0, .int 0, .int 0])), (q1, .inr (5, [.ref y0_2, .int 0, .int 200, .int 0])), (y0_2, .inl (cJ, 40, .inr (.inl (fun _ => 0))))] := hD
  refine W.widen (k := 2) (n := 44) (by decide) (by decide) ?_
  refine va_putF (D := D) (ci := 1) (v := .ref q1) (ty := (tyX1 3)) (C := RX1) (T := TX1) (N := 9) hx hb hts (fun _ h9 => List.mem_cons_of_mem _ (List.mem_append_left _ (List.mem_append_left _ (List.mem_append_right _ h9)))) tyX1 tyX1_ok nmX1 hown hK hP hD hS 0 rfl rfl 3 (by decide) (hts (.fieldLink RX1 10 "BuoyTender$Mark" "sighting" "LBuoyTender$Sighting;") (by decide +kernel)) (fun _ h9 => h9) rfl hin rfl (by decide +kernel) rfl rfl (Nat.le_of_ble_eq_true rfl) dX1_init_12 (fun H locs hP hD hS => ?_)
  have hP : va_P D vwCl [(h0, .inr (1, [.int 0, .int 0, .int 0, .ref q1, .null, .null, .int 0, .int 0, .int 0])), (q1, .inr (5, [.ref y0_2, .int 0, .int 200, .int 0])), (y0_2, .inl (cJ, 40, .inr (.inl (fun _ => 0))))] H := hP
  have hD : va_D A [(h0, .inr (1, [.int 0, .int 0, .int 0, .ref q1, .null, .null, .int 0, .int 0, .int 0])), (q1, .inr (5, [.ref y0_2, .int 0, .int 200, .int 0])), (y0_2, .inl (cJ, 40, .inr (.inl (fun _ => 0))))] := hD
  refine lv_aload_n hx hb dX1_init_15 rfl (lv_at hl 0 rfl) ?_
  refine va_new (ci := 0) (fs := [.int 0, .int 0, .int 0, .int 0, .int 0]) (C := RX0) (T := TX0) (N := 5) hx hb hts (fun _ h9 => List.mem_cons_of_mem _ (List.mem_append_left _ (List.mem_append_right _ h9))) tyX0 tyX0_ok hown (hts (.classLink RX1 16 RX0) (by decide +kernel)) (hts (.instantiable RX0 5) (by decide +kernel)) (hts (.initialized RX0) (by decide +kernel)) hK hP hD hS hA rfl (fun j hj => by rcases (show j = 0 ∨ j = 1 ∨ j = 2 ∨ j = 3 ∨ j = 4 by omega) with rfl | rfl | rfl | rfl | rfl <;> rfl) (Nat.le_of_ble_eq_true rfl) (Nat.le_of_ble_eq_true rfl) dX1_init_16 (fun q3 H hP hD hS => ?_)
  have hP : va_P D vwCl [(h0, .inr (1, [.int 0, .int 0, .int 0, .ref q1, .null, .null, .int 0, .int 0, .int 0])), (q1, .inr (5, [.ref y0_2, .int 0, .int 200, .int 0])), (y0_2, .inl (cJ, 40, .inr (.inl (fun _ => 0)))), (q3, .inr (0, [.int 0, .int 0, .int 0, .int 0, .int 0]))] H := hP
  have hD : va_D A [(h0, .inr (1, [.int 0, .int 0, .int 0, .ref q1, .null, .null, .int 0, .int 0, .int 0])), (q1, .inr (5, [.ref y0_2, .int 0, .int 200, .int 0])), (y0_2, .inl (cJ, 40, .inr (.inl (fun _ => 0)))), (q3, .inr (0, [.int 0, .int 0, .int 0, .int 0, .int 0]))] := hD
  refine W.widen (k := 3) (n := 49) (by decide) (by decide) ?_
  refine lv_dup hx hb dX1_init_19 rfl ?_
  have hPc := hP.sub (ws' := [(q3, .inr (0, [.int 0, .int 0, .int 0, .int 0, .int 0]))]) [3] rfl
  have hDc := hD.sub (ws' := [(q3, .inr (0, [.int 0, .int 0, .int 0, .int 0, .int 0]))]) [3] (by decide) rfl
  have hFc := va_free (wc := [(q3, .inr (0, [.int 0, .int 0, .int 0, .int 0, .int 0]))]) hD hS hA [3] rfl
  refine va_callv (va_runIN (As := []) (rest := [.ref q3, .ref h0]) ⟨hx, hb, hml, hown, hts⟩ (k_X0_init l D cI cJ cZ cM q3 _) ⟨(va_cnB 0 hts gX1_init_X0_init_n18 rfl rfl rfl (hN.2.1 (RX1, 18, yX0_init, "BuoyTender") (by decide +kernel)) (hts (.initialized RX0) (by decide +kernel)) (by decide +kernel) ⟨Nat.le_of_ble_eq_true rfl, Nat.le_of_ble_eq_true rfl⟩), rfl, hts (.instanceMethod yX0_init) (by decide +kernel)⟩ (rw_S hG hPc hDc) rfl rfl hl.1 rfl (lv_room (Nat.le_of_ble_eq_true rfl)) dX1_init_20 ⟨Nat.le_of_ble_eq_true rfl, Nat.le_of_ble_eq_true rfl⟩) hS (fun q _ h => hFc q h) hFc (fun u_4 t_4 H1 locs ht hvm hw hB hz1 hk1 hS => ?_)
  obtain ⟨hP1, hD1⟩ := hB
  rw [ht] at hP1
  obtain ⟨hP, hD⟩ := va_join (wr := [(h0, .inr (1, [.int 0, .int 0, .int 0, .ref q1, .null, .null, .int 0, .int 0, .int 0])), (q1, .inr (5, [.ref y0_2, .int 0, .int 200, .int 0])), (y0_2, .inl (cJ, 40, .inr (.inl (fun _ => 0))))]) (w1 := [(q3, .inr (0, [.int 0, .int 0, .int 0, .int 0, .int 0]))]) hP hD [3] [0, 1, 2] rfl rfl (by decide) (by decide) hk1 hFc hP1 hD1
  generalize H1 = H at hP hS ⊢
  have hP : va_P D vwCl [(h0, .inr (1, [.int 0, .int 0, .int 0, .ref q1, .null, .null, .int 0, .int 0, .int 0])), (q1, .inr (5, [.ref y0_2, .int 0, .int 200, .int 0])), (y0_2, .inl (cJ, 40, .inr (.inl (fun _ => 0)))), (q3, .inr (0, [.int 0, .int 0, .int 0, .int 0, .int 0]))] H := hP
  have hD : va_D A [(h0, .inr (1, [.int 0, .int 0, .int 0, .ref q1, .null, .null, .int 0, .int 0, .int 0])), (q1, .inr (5, [.ref y0_2, .int 0, .int 200, .int 0])), (y0_2, .inl (cJ, 40, .inr (.inl (fun _ => 0)))), (q3, .inr (0, [.int 0, .int 0, .int 0, .int 0, .int 0]))] := hD
  refine va_putF (D := D) (ci := 1) (v := .ref q3) (ty := (tyX1 4)) (C := RX1) (T := TX1) (N := 9) hx hb hts (fun _ h9 => List.mem_cons_of_mem _ (List.mem_append_left _ (List.mem_append_left _ (List.mem_append_right _ h9)))) tyX1 tyX1_ok nmX1 hown hK hP hD hS 0 rfl rfl 4 (by decide) (hts (.fieldLink RX1 19 "BuoyTender$Mark" "chain" "LBuoyTender$Chain;") (by decide +kernel)) (fun _ h9 => h9) rfl hin rfl (by decide +kernel) rfl rfl (Nat.le_of_ble_eq_true rfl) dX1_init_23 (fun H locs hP hD hS => ?_)
  have hP : va_P D vwCl [(h0, .inr (1, [.int 0, .int 0, .int 0, .ref q1, .ref q3, .null, .int 0, .int 0, .int 0])), (q1, .inr (5, [.ref y0_2, .int 0, .int 200, .int 0])), (y0_2, .inl (cJ, 40, .inr (.inl (fun _ => 0)))), (q3, .inr (0, [.int 0, .int 0, .int 0, .int 0, .int 0]))] H := hP
  have hD : va_D A [(h0, .inr (1, [.int 0, .int 0, .int 0, .ref q1, .ref q3, .null, .int 0, .int 0, .int 0])), (q1, .inr (5, [.ref y0_2, .int 0, .int 200, .int 0])), (y0_2, .inl (cJ, 40, .inr (.inl (fun _ => 0)))), (q3, .inr (0, [.int 0, .int 0, .int 0, .int 0, .int 0]))] := hD
  refine lv_aload_n hx hb dX1_init_26 rfl (lv_at hl 0 rfl) ?_
  refine va_new (ci := 3) (fs := [.null, .int 0]) (C := RX3) (T := TX3) (N := 2) hx hb hts (fun _ h9 => List.mem_cons_of_mem _ (List.mem_append_right _ h9)) tyX3 tyX3_ok hown (hts (.classLink RX1 23 RX3) (by decide +kernel)) (hts (.instantiable RX3 2) (by decide +kernel)) (hts (.initialized RX3) (by decide +kernel)) hK hP hD hS hA rfl (fun j hj => by rcases (show j = 0 ∨ j = 1 by omega) with rfl | rfl <;> rfl) (Nat.le_of_ble_eq_true rfl) (Nat.le_of_ble_eq_true rfl) dX1_init_27 (fun q5 H hP hD hS => ?_)
  have hP : va_P D vwCl [(h0, .inr (1, [.int 0, .int 0, .int 0, .ref q1, .ref q3, .null, .int 0, .int 0, .int 0])), (q1, .inr (5, [.ref y0_2, .int 0, .int 200, .int 0])), (y0_2, .inl (cJ, 40, .inr (.inl (fun _ => 0)))), (q3, .inr (0, [.int 0, .int 0, .int 0, .int 0, .int 0])), (q5, .inr (3, [.null, .int 0]))] H := hP
  have hD : va_D A [(h0, .inr (1, [.int 0, .int 0, .int 0, .ref q1, .ref q3, .null, .int 0, .int 0, .int 0])), (q1, .inr (5, [.ref y0_2, .int 0, .int 200, .int 0])), (y0_2, .inl (cJ, 40, .inr (.inl (fun _ => 0)))), (q3, .inr (0, [.int 0, .int 0, .int 0, .int 0, .int 0])), (q5, .inr (3, [.null, .int 0]))] := hD
  refine W.widen (k := 4) (n := 51) (by decide) (by decide) ?_
  refine lv_dup hx hb dX1_init_30 rfl ?_
  have hPc := hP.sub (ws' := [(q5, .inr (3, [.null, .int 0]))]) [4] rfl
  have hDc := hD.sub (ws' := [(q5, .inr (3, [.null, .int 0]))]) [4] (by decide) rfl
  have hFc := va_free (wc := [(q5, .inr (3, [.null, .int 0]))]) hD hS hA [4] rfl
  refine va_callv (va_runIN (As := []) (rest := [.ref q5, .ref h0]) ⟨hx, hb, hml, hown, hts⟩ (k_X3_init l D cI cJ cZ cM q5 _) ⟨(va_cnB 0 hts gX1_init_X3_init_n25 rfl rfl rfl (hN.2.1 (RX1, 25, yX3_init, "BuoyTender") (by decide +kernel)) (hts (.initialized RX3) (by decide +kernel)) (by decide +kernel) ⟨Nat.le_of_ble_eq_true rfl, Nat.le_of_ble_eq_true rfl⟩), rfl, hts (.instanceMethod yX3_init) (by decide +kernel)⟩ (rw_S hG hPc hDc) rfl rfl hl.1 rfl (lv_room (Nat.le_of_ble_eq_true rfl)) dX1_init_31 ⟨Nat.le_of_ble_eq_true rfl, Nat.le_of_ble_eq_true rfl⟩) hS (fun q _ h => hFc q h) hFc (fun u_6 t_6 H1 locs ht hvm hw hB hz1 hk1 hS => ?_)
  obtain ⟨y0_6, rfl⟩ : ∃ z, z = u_6 := ⟨_, rfl⟩
  obtain ⟨hP1, hD1⟩ := hB
  rw [ht] at hP1
  obtain ⟨hP, hD⟩ := va_join (wr := [(h0, .inr (1, [.int 0, .int 0, .int 0, .ref q1, .ref q3, .null, .int 0, .int 0, .int 0])), (q1, .inr (5, [.ref y0_2, .int 0, .int 200, .int 0])), (y0_2, .inl (cJ, 40, .inr (.inl (fun _ => 0)))), (q3, .inr (0, [.int 0, .int 0, .int 0, .int 0, .int 0]))]) (w1 := [(q5, .inr (3, [.ref y0_6, .int 0])), (y0_6, .inl (cI, 8, .inl (fun _ => 0)))]) hP hD [4] [0, 1, 2, 3] rfl rfl (by decide) (by decide) hk1 hFc hP1 hD1
  generalize H1 = H at hP hS ⊢
  have hP : va_P D vwCl [(h0, .inr (1, [.int 0, .int 0, .int 0, .ref q1, .ref q3, .null, .int 0, .int 0, .int 0])), (q1, .inr (5, [.ref y0_2, .int 0, .int 200, .int 0])), (y0_2, .inl (cJ, 40, .inr (.inl (fun _ => 0)))), (q3, .inr (0, [.int 0, .int 0, .int 0, .int 0, .int 0])), (q5, .inr (3, [.ref y0_6, .int 0])), (y0_6, .inl (cI, 8, .inl (fun _ => 0)))] H := hP
  have hD : va_D A [(h0, .inr (1, [.int 0, .int 0, .int 0, .ref q1, .ref q3, .null, .int 0, .int 0, .int 0])), (q1, .inr (5, [.ref y0_2, .int 0, .int 200, .int 0])), (y0_2, .inl (cJ, 40, .inr (.inl (fun _ => 0)))), (q3, .inr (0, [.int 0, .int 0, .int 0, .int 0, .int 0])), (q5, .inr (3, [.ref y0_6, .int 0])), (y0_6, .inl (cI, 8, .inl (fun _ => 0)))] := hD
  refine W.widen (k := 5) (n := 59) (by decide) (by decide) ?_
  refine va_putF (D := D) (ci := 1) (v := .ref q5) (ty := (tyX1 5)) (C := RX1) (T := TX1) (N := 9) hx hb hts (fun _ h9 => List.mem_cons_of_mem _ (List.mem_append_left _ (List.mem_append_left _ (List.mem_append_right _ h9)))) tyX1 tyX1_ok nmX1 hown hK hP hD hS 0 rfl rfl 5 (by decide) (hts (.fieldLink RX1 26 "BuoyTender$Mark" "rhythm" "LBuoyTender$Rhythm;") (by decide +kernel)) (fun _ h9 => h9) rfl hin rfl (by decide +kernel) rfl rfl (Nat.le_of_ble_eq_true rfl) dX1_init_34 (fun H locs hP hD hS => ?_)
  have hP : va_P D vwCl [(h0, .inr (1, [.int 0, .int 0, .int 0, .ref q1, .ref q3, .ref q5, .int 0, .int 0, .int 0])), (q1, .inr (5, [.ref y0_2, .int 0, .int 200, .int 0])), (y0_2, .inl (cJ, 40, .inr (.inl (fun _ => 0)))), (q3, .inr (0, [.int 0, .int 0, .int 0, .int 0, .int 0])), (q5, .inr (3, [.ref y0_6, .int 0])), (y0_6, .inl (cI, 8, .inl (fun _ => 0)))] H := hP
  have hD : va_D A [(h0, .inr (1, [.int 0, .int 0, .int 0, .ref q1, .ref q3, .ref q5, .int 0, .int 0, .int 0])), (q1, .inr (5, [.ref y0_2, .int 0, .int 200, .int 0])), (y0_2, .inl (cJ, 40, .inr (.inl (fun _ => 0)))), (q3, .inr (0, [.int 0, .int 0, .int 0, .int 0, .int 0])), (q5, .inr (3, [.ref y0_6, .int 0])), (y0_6, .inl (cI, 8, .inl (fun _ => 0)))] := hD
  refine lv_aload_n hx hb dX1_init_37 rfl (lv_at hl 0 rfl) ?_
  refine lv_iload_n hx hb dX1_init_38 rfl (lv_at hl 1 rfl) ?_
  refine va_putF (D := D) (ci := 1) (v := .int x1) (ty := (tyX1 0)) (C := RX1) (T := TX1) (N := 9) hx hb hts (fun _ h9 => List.mem_cons_of_mem _ (List.mem_append_left _ (List.mem_append_left _ (List.mem_append_right _ h9)))) tyX1 tyX1_ok nmX1 hown hK hP hD hS 0 rfl rfl 0 (by decide) (hts (.fieldLink RX1 30 "BuoyTender$Mark" "x" "I") (by decide +kernel)) (fun _ h9 => h9) rfl hin rfl (by decide +kernel) rfl rfl (Nat.le_of_ble_eq_true rfl) dX1_init_39 (fun H locs hP hD hS => ?_)
  have hP : va_P D vwCl [(h0, .inr (1, [.int x1, .int 0, .int 0, .ref q1, .ref q3, .ref q5, .int 0, .int 0, .int 0])), (q1, .inr (5, [.ref y0_2, .int 0, .int 200, .int 0])), (y0_2, .inl (cJ, 40, .inr (.inl (fun _ => 0)))), (q3, .inr (0, [.int 0, .int 0, .int 0, .int 0, .int 0])), (q5, .inr (3, [.ref y0_6, .int 0])), (y0_6, .inl (cI, 8, .inl (fun _ => 0)))] H := hP
  have hD : va_D A [(h0, .inr (1, [.int x1, .int 0, .int 0, .ref q1, .ref q3, .ref q5, .int 0, .int 0, .int 0])), (q1, .inr (5, [.ref y0_2, .int 0, .int 200, .int 0])), (y0_2, .inl (cJ, 40, .inr (.inl (fun _ => 0)))), (q3, .inr (0, [.int 0, .int 0, .int 0, .int 0, .int 0])), (q5, .inr (3, [.ref y0_6, .int 0])), (y0_6, .inl (cI, 8, .inl (fun _ => 0)))] := hD
  refine lv_aload_n hx hb dX1_init_42 rfl (lv_at hl 0 rfl) ?_
  refine lv_iload_n hx hb dX1_init_43 rfl (lv_at hl 2 rfl) ?_
  refine va_putF (D := D) (ci := 1) (v := .int x2) (ty := (tyX1 1)) (C := RX1) (T := TX1) (N := 9) hx hb hts (fun _ h9 => List.mem_cons_of_mem _ (List.mem_append_left _ (List.mem_append_left _ (List.mem_append_right _ h9)))) tyX1 tyX1_ok nmX1 hown hK hP hD hS 0 rfl rfl 1 (by decide) (hts (.fieldLink RX1 34 "BuoyTender$Mark" "y" "I") (by decide +kernel)) (fun _ h9 => h9) rfl hin rfl (by decide +kernel) rfl rfl (Nat.le_of_ble_eq_true rfl) dX1_init_44 (fun H locs hP hD hS => ?_)
  have hP : va_P D vwCl [(h0, .inr (1, [.int x1, .int x2, .int 0, .ref q1, .ref q3, .ref q5, .int 0, .int 0, .int 0])), (q1, .inr (5, [.ref y0_2, .int 0, .int 200, .int 0])), (y0_2, .inl (cJ, 40, .inr (.inl (fun _ => 0)))), (q3, .inr (0, [.int 0, .int 0, .int 0, .int 0, .int 0])), (q5, .inr (3, [.ref y0_6, .int 0])), (y0_6, .inl (cI, 8, .inl (fun _ => 0)))] H := hP
  have hD : va_D A [(h0, .inr (1, [.int x1, .int x2, .int 0, .ref q1, .ref q3, .ref q5, .int 0, .int 0, .int 0])), (q1, .inr (5, [.ref y0_2, .int 0, .int 200, .int 0])), (y0_2, .inl (cJ, 40, .inr (.inl (fun _ => 0)))), (q3, .inr (0, [.int 0, .int 0, .int 0, .int 0, .int 0])), (q5, .inr (3, [.ref y0_6, .int 0])), (y0_6, .inl (cI, 8, .inl (fun _ => 0)))] := hD
  refine lv_aload_n hx hb dX1_init_47 rfl (lv_at hl 0 rfl) ?_
  refine lv_iload_n hx hb dX1_init_48 rfl (lv_at hl 3 rfl) ?_
  refine va_putF (D := D) (ci := 1) (v := .int x3) (ty := (tyX1 2)) (C := RX1) (T := TX1) (N := 9) hx hb hts (fun _ h9 => List.mem_cons_of_mem _ (List.mem_append_left _ (List.mem_append_left _ (List.mem_append_right _ h9)))) tyX1 tyX1_ok nmX1 hown hK hP hD hS 0 rfl rfl 2 (by decide) (hts (.fieldLink RX1 37 "BuoyTender$Mark" "radius" "I") (by decide +kernel)) (fun _ h9 => h9) rfl hin rfl (by decide +kernel) rfl rfl (Nat.le_of_ble_eq_true rfl) dX1_init_49 (fun H locs hP hD hS => ?_)
  have hP : va_P D vwCl [(h0, .inr (1, [.int x1, .int x2, .int x3, .ref q1, .ref q3, .ref q5, .int 0, .int 0, .int 0])), (q1, .inr (5, [.ref y0_2, .int 0, .int 200, .int 0])), (y0_2, .inl (cJ, 40, .inr (.inl (fun _ => 0)))), (q3, .inr (0, [.int 0, .int 0, .int 0, .int 0, .int 0])), (q5, .inr (3, [.ref y0_6, .int 0])), (y0_6, .inl (cI, 8, .inl (fun _ => 0)))] H := hP
  have hD : va_D A [(h0, .inr (1, [.int x1, .int x2, .int x3, .ref q1, .ref q3, .ref q5, .int 0, .int 0, .int 0])), (q1, .inr (5, [.ref y0_2, .int 0, .int 200, .int 0])), (y0_2, .inl (cJ, 40, .inr (.inl (fun _ => 0)))), (q3, .inr (0, [.int 0, .int 0, .int 0, .int 0, .int 0])), (q5, .inr (3, [.ref y0_6, .int 0])), (y0_6, .inl (cI, 8, .inl (fun _ => 0)))] := hD
  have hP9 := hP.sub (ws' := [(h0, .inr (1, [.int x1, .int x2, .int x3, .ref q1, .ref q3, .ref q5, .int 0, .int 0, .int 0])), (q1, .inr (5, [.ref y0_2, .int 0, .int 200, .int 0])), (y0_2, .inl (cJ, 40, .inr (.inl (fun _ => 0)))), (q3, .inr (0, [.int 0, .int 0, .int 0, .int 0, .int 0])), (q5, .inr (3, [.ref y0_6, .int 0])), (y0_6, .inl (cI, 8, .inl (fun _ => 0)))]) [0, 1, 2, 3, 4, 5] rfl
  have hD9 := hD.sub (ws' := [(h0, .inr (1, [.int x1, .int x2, .int x3, .ref q1, .ref q3, .ref q5, .int 0, .int 0, .int 0])), (q1, .inr (5, [.ref y0_2, .int 0, .int 200, .int 0])), (y0_2, .inl (cJ, 40, .inr (.inl (fun _ => 0)))), (q3, .inr (0, [.int 0, .int 0, .int 0, .int 0, .int 0])), (q5, .inr (3, [.ref y0_6, .int 0])), (y0_6, .inl (cI, 8, .inl (fun _ => 0)))]) [0, 1, 2, 3, 4, 5] (by decide) rfl
  exact W.vret hx hb hr (fun t ht hW => ⟨⟨(q1, y0_2, q3, q5, y0_6), rfl, trivial, ⟨by rw [ht]; exact hP9, hD9⟩⟩, hS.F ht⟩) hS.2.2 dX1_init_52
set_option maxHeartbeats 4000000 in
set_option maxRecDepth 100000 in
/-- mark on a fresh object -/
theorem k_X8_mark (l : Launch) (D : va_G) (cI cJ cZ cM : Nat) (h0 : Nat) (a : Nat → Nat) (x1 : Int32) (x2 : Int32) (x3 : Int32) (sz : Nat) : Met l yX8_mark wsX8_mark ({ frames := 3, cells := 6, slots := 68, locals := 63 } : Room) (RW D cI cJ cZ cM [.ref h0, .int x1, .int x2, .int x3] [(h0, .inr (8, [.ref (a 1), .ref (a 2), .ref (a 3), .ref (a 4), .ref (a 5), .ref (a 6), .ref (a 7), .null, .int 0, .int 0, .int 0, .int 0])), (a 2, .inl (cM, 10, .inr (.inr (.inr (.inr (fun _ => none))))))] sz) (va_Qi (S := Unit) (fun r u => okI 0 (-1) (placeP x1 x2 ∧ (0 ≤ x3 ∧ x3 ≤ 20)) r) (fun _ _ => True) (va_A [(h0, .inr (8, [.ref (a 1), .ref (a 2), .ref (a 3), .ref (a 4), .ref (a 5), .ref (a 6), .ref (a 7), .null, .int 0, .int 0, .int 0, .int 0])), (a 2, .inl (cM, 10, .inr (.inr (.inr (.inr (fun _ => none))))))] sz)) 6 68 (va_A [(h0, .inr (8, [.ref (a 1), .ref (a 2), .ref (a 3), .ref (a 4), .ref (a 5), .ref (a 6), .ref (a 7), .null, .int 0, .int 0, .int 0, .int 0])), (a 2, .inl (cM, 10, .inr (.inr (.inr (.inr (fun _ => none))))))] sz) := by
  refine Met.ofW (cc := cX8_mark) (maxL := 5) (ret := (some .int)) (by decide) rfl ?_
  intro p e s m args below meth c s₁ B hml hv
  obtain ⟨rfl, hsz, hG, hP, hD0⟩ := hv
  have hx := B.exec
  have hb := B.bytes
  have hr := B.returns
  have hts := atoms_spec (ws := wsX8_mark) B.pre
  have hown : s.vm.findClass RX8 = some m.cls := findClass_of_methodNamed B.named
  have hlocks := B.notSynchronized
  have hK := hG.1
  have hN := hG.2
  subst hsz
  have hD := hD0.self (sz := s.heap.size)
  generalize hAe : va_A [(h0, .inr (8, [.ref (a 1), .ref (a 2), .ref (a 3), .ref (a 4), .ref (a 5), .ref (a 6), .ref (a 7), .null, .int 0, .int 0, .int 0, .int 0])), (a 2, .inl (cM, 10, .inr (.inr (.inr (.inr (fun _ => none))))))] s.heap.size = A at hD ⊢
  have hA : ∀ q : Nat, s.heap.size ≤ q → A q := fun q h => by rw [← hAe]; exact Or.inr h
  have hS : va_S A s.heap s.heap [] := va_S.rf
  have hP : va_P D vwCl [(h0, .inr (8, [.ref (a 1), .ref (a 2), .ref (a 3), .ref (a 4), .ref (a 5), .ref (a 6), .ref (a 7), .null, .int 0, .int 0, .int 0, .int 0])), (a 2, .inl (cM, 10, .inr (.inr (.inr (.inr (fun _ => none))))))] s.heap := hP
  have hl := lv_entry ([.ref h0, .int x1, .int x2, .int x3]) (n := 5) (Nat.le_of_ble_eq_true rfl)
  rw [lg_entry_eq]
  generalize (lg_sl ([.ref h0, .int x1, .int x2, .int x3]) ++ List.replicate (5 - (lg_sl ([.ref h0, .int x1, .int x2, .int x3])).length) Slot.unset).toArray = ls at hl ⊢
  have hl : lv_has ls 5 [(0, .ref h0), (1, .int x1), (2, .int x2), (3, .int x3)] := hl
  refine lv_iload_n hx hb dX8_mark_0 rfl (lv_at hl 1 rfl) ?_
  refine lv_iload_n hx hb dX8_mark_1 rfl (lv_at hl 2 rfl) ?_
  refine vp_callSi (va_Run.run (va_runS (As := [.int x1, .int x2]) (rest := []) ⟨hx, hb, hml, hown, hts⟩ (k_X8_isPlace l x1 x2) (va_cwS 2 hts gX8_mark_X8_isPlace rfl rfl rfl (by decide +kernel) ⟨Nat.le_of_ble_eq_true rfl, Nat.le_of_ble_eq_true rfl⟩) preEq rfl rfl hl.1 rfl (lv_room (Nat.le_of_ble_eq_true rfl)) dX8_mark_2 ⟨Nat.le_of_ble_eq_true rfl, Nat.le_of_ble_eq_true rfl⟩)) (fun r_1 h_1 => ?_)
  rcases h_1 with ⟨rfl, h_1⟩ | ⟨rfl, h_1⟩
  · refine lv_if_eq (tgt := 27) hx hb dX8_mark_5 (by decide) (fun c_2 => False.elim (by revert c_2; decide)) (fun _ => ?_)
    refine lv_iload_n hx hb dX8_mark_8 rfl (lv_at hl 3 rfl) ?_
    refine lv_iconst (v := 0) hx hb dX8_mark_9 (by decide) ?_
    refine lv_bipush (v := 20) hx hb dX8_mark_10 (by decide) ?_
    refine vp_callSi (va_Run.run (va_runS (As := [.int x3, .int 0, .int 20]) (rest := []) ⟨hx, hb, hml, hown, hts⟩ (k_X8_within l x3 0 20) (va_cwS 3 hts gX8_mark_X8_within rfl rfl rfl (by decide +kernel) ⟨Nat.le_of_ble_eq_true rfl, Nat.le_of_ble_eq_true rfl⟩) preEq rfl rfl hl.1 rfl (lv_room (Nat.le_of_ble_eq_true rfl)) dX8_mark_12 ⟨Nat.le_of_ble_eq_true rfl, Nat.le_of_ble_eq_true rfl⟩)) (fun r_3 h_3 => ?_)
    rcases h_3 with ⟨rfl, h_3⟩ | ⟨rfl, h_3⟩
    · refine lv_if_eq (tgt := 27) hx hb dX8_mark_15 (by decide) (fun c_4 => False.elim (by revert c_4; decide)) (fun _ => ?_)
      refine lv_aload_n hx hb dX8_mark_18 rfl (lv_at hl 0 rfl) ?_
      refine va_get (D := D) (ci := 8) (v := .int 0) (C := RX8) (T := TX8) (N := 12) hx hb hts (fun _ h9 => List.mem_cons_of_mem _ (List.mem_append_left _ (List.mem_append_left _ (List.mem_append_left _ (List.mem_append_left _ (List.mem_append_right _ h9)))))) hown hK hP 0 rfl rfl 8 (by decide) (hts (.fieldLink RX8 62 "BuoyTender" "markCount" "I") (by decide +kernel)) (fun _ h9 => h9) rfl dX8_mark_19 ?_
      refine lv_bipush (v := 10) hx hb dX8_mark_22 (by decide) ?_
      refine lv_icmp_lt (tgt := 29) hx hb dX8_mark_24 (by decide) (fun _ => ?_) (fun c_5 => False.elim (by revert c_5; decide))
      refine lv_aload_n hx hb dX8_mark_29 rfl (lv_at hl 0 rfl) ?_
      refine va_get (D := D) (ci := 8) (v := .int 0) (C := RX8) (T := TX8) (N := 12) hx hb hts (fun _ h9 => List.mem_cons_of_mem _ (List.mem_append_left _ (List.mem_append_left _ (List.mem_append_left _ (List.mem_append_left _ (List.mem_append_right _ h9)))))) hown hK hP 0 rfl rfl 8 (by decide) (hts (.fieldLink RX8 62 "BuoyTender" "markCount" "I") (by decide +kernel)) (fun _ h9 => h9) rfl dX8_mark_30 ?_
      refine lv_istore (lv' := [(4, .int 0), (0, .ref h0), (1, .int x1), (2, .int x2), (3, .int x3)]) hx hb dX8_mark_33 hl (by decide) rfl (fun ls hl => ?_)
      refine lv_aload_n hx hb dX8_mark_35 rfl (lv_at hl 1 rfl) ?_
      refine va_get (D := D) (ci := 8) (v := .ref (a 2)) (C := RX8) (T := TX8) (N := 12) hx hb hts (fun _ h9 => List.mem_cons_of_mem _ (List.mem_append_left _ (List.mem_append_left _ (List.mem_append_left _ (List.mem_append_left _ (List.mem_append_right _ h9)))))) hown hK hP 0 rfl rfl 1 (by decide) (hts (.fieldLink RX8 15 "BuoyTender" "marks" "[LBuoyTender$Mark;") (by decide +kernel)) (fun _ h9 => h9) rfl dX8_mark_36 ?_
      refine lv_iload hx hb dX8_mark_39 (lv_at hl 0 rfl) ?_
      refine va_new (ci := 1) (fs := [.int 0, .int 0, .int 0, .null, .null, .null, .int 0, .int 0, .int 0]) (C := RX1) (T := TX1) (N := 9) hx hb hts (fun _ h9 => List.mem_cons_of_mem _ (List.mem_append_left _ (List.mem_append_left _ (List.mem_append_left _ (List.mem_append_right _ h9))))) tyX1 tyX1_ok hown (hts (.classLink RX8 13 RX1) (by decide +kernel)) (hts (.instantiable RX1 9) (by decide +kernel)) (hts (.initialized RX1) (by decide +kernel)) hK hP hD hS hA rfl (fun j hj => by rcases (show j = 0 ∨ j = 1 ∨ j = 2 ∨ j = 3 ∨ j = 4 ∨ j = 5 ∨ j = 6 ∨ j = 7 ∨ j = 8 by omega) with rfl | rfl | rfl | rfl | rfl | rfl | rfl | rfl | rfl <;> rfl) (Nat.le_of_ble_eq_true rfl) (Nat.le_of_ble_eq_true rfl) dX8_mark_41 (fun q6 H hP hD hS => ?_)
      have hP : va_P D vwCl [(h0, .inr (8, [.ref (a 1), .ref (a 2), .ref (a 3), .ref (a 4), .ref (a 5), .ref (a 6), .ref (a 7), .null, .int 0, .int 0, .int 0, .int 0])), (a 2, .inl (cM, 10, .inr (.inr (.inr (.inr (fun _ => none)))))), (q6, .inr (1, [.int 0, .int 0, .int 0, .null, .null, .null, .int 0, .int 0, .int 0]))] H := hP
      have hD : va_D A [(h0, .inr (8, [.ref (a 1), .ref (a 2), .ref (a 3), .ref (a 4), .ref (a 5), .ref (a 6), .ref (a 7), .null, .int 0, .int 0, .int 0, .int 0])), (a 2, .inl (cM, 10, .inr (.inr (.inr (.inr (fun _ => none)))))), (q6, .inr (1, [.int 0, .int 0, .int 0, .null, .null, .null, .int 0, .int 0, .int 0]))] := hD
      refine W.widen (k := 1) (n := 9) (by decide) (by decide) ?_
      refine lv_dup hx hb dX8_mark_44 rfl ?_
      refine lv_iload_n hx hb dX8_mark_45 rfl (lv_at hl 2 rfl) ?_
      refine lv_iload_n hx hb dX8_mark_46 rfl (lv_at hl 3 rfl) ?_
      refine lv_iload_n hx hb dX8_mark_47 rfl (lv_at hl 4 rfl) ?_
      have hPc := hP.sub (ws' := [(q6, .inr (1, [.int 0, .int 0, .int 0, .null, .null, .null, .int 0, .int 0, .int 0]))]) [2] rfl
      have hDc := hD.sub (ws' := [(q6, .inr (1, [.int 0, .int 0, .int 0, .null, .null, .null, .int 0, .int 0, .int 0]))]) [2] (by decide) rfl
      have hFc := va_free (wc := [(q6, .inr (1, [.int 0, .int 0, .int 0, .null, .null, .null, .int 0, .int 0, .int 0]))]) hD hS hA [2] rfl
      refine va_callv (va_runIN (As := [.int x1, .int x2, .int x3]) (rest := [.ref q6, .int 0, .ref (a 2)]) ⟨hx, hb, hml, hown, hts⟩ (k_X1_init l D cI cJ cZ cM q6 x1 x2 x3 _) ⟨(va_cnB 3 hts gX8_mark_X1_init_n66 rfl rfl rfl (hN.2.1 (RX8, 66, yX1_init, "BuoyTender") (by decide +kernel)) (hts (.initialized RX1) (by decide +kernel)) (by decide +kernel) ⟨Nat.le_of_ble_eq_true rfl, Nat.le_of_ble_eq_true rfl⟩), rfl, hts (.instanceMethod yX1_init) (by decide +kernel)⟩ (rw_S hG hPc hDc) rfl rfl hl.1 rfl (lv_room (Nat.le_of_ble_eq_true rfl)) dX8_mark_48 ⟨Nat.le_of_ble_eq_true rfl, Nat.le_of_ble_eq_true rfl⟩) hS (fun q _ h => hFc q h) hFc (fun u_7 t_7 H1 locs ht hvm hw hB hz1 hk1 hS => ?_)
      obtain ⟨y0_7, y1_7, y2_7, y3_7, y4_7⟩ := u_7
      obtain ⟨hP1, hD1⟩ := hB
      rw [ht] at hP1
      obtain ⟨hP, hD⟩ := va_join (wr := [(h0, .inr (8, [.ref (a 1), .ref (a 2), .ref (a 3), .ref (a 4), .ref (a 5), .ref (a 6), .ref (a 7), .null, .int 0, .int 0, .int 0, .int 0])), (a 2, .inl (cM, 10, .inr (.inr (.inr (.inr (fun _ => none))))))]) (w1 := [(q6, .inr (1, [.int x1, .int x2, .int x3, .ref y0_7, .ref y2_7, .ref y3_7, .int 0, .int 0, .int 0])), (y0_7, .inr (5, [.ref y1_7, .int 0, .int 200, .int 0])), (y1_7, .inl (cJ, 40, .inr (.inl (fun _ => 0)))), (y2_7, .inr (0, [.int 0, .int 0, .int 0, .int 0, .int 0])), (y3_7, .inr (3, [.ref y4_7, .int 0])), (y4_7, .inl (cI, 8, .inl (fun _ => 0)))]) hP hD [2] [0, 1] rfl rfl (by decide) (by decide) hk1 hFc hP1 hD1
      generalize H1 = H at hP hS ⊢
      have hP : va_P D vwCl [(h0, .inr (8, [.ref (a 1), .ref (a 2), .ref (a 3), .ref (a 4), .ref (a 5), .ref (a 6), .ref (a 7), .null, .int 0, .int 0, .int 0, .int 0])), (a 2, .inl (cM, 10, .inr (.inr (.inr (.inr (fun _ => none)))))), (q6, .inr (1, [.int x1, .int x2, .int x3, .ref y0_7, .ref y2_7, .ref y3_7, .int 0, .int 0, .int 0])), (y0_7, .inr (5, [.ref y1_7, .int 0, .int 200, .int 0])), (y1_7, .inl (cJ, 40, .inr (.inl (fun _ => 0)))), (y2_7, .inr (0, [.int 0, .int 0, .int 0, .int 0, .int 0])), (y3_7, .inr (3, [.ref y4_7, .int 0])), (y4_7, .inl (cI, 8, .inl (fun _ => 0)))] H := hP
      have hD : va_D A [(h0, .inr (8, [.ref (a 1), .ref (a 2), .ref (a 3), .ref (a 4), .ref (a 5), .ref (a 6), .ref (a 7), .null, .int 0, .int 0, .int 0, .int 0])), (a 2, .inl (cM, 10, .inr (.inr (.inr (.inr (fun _ => none)))))), (q6, .inr (1, [.int x1, .int x2, .int x3, .ref y0_7, .ref y2_7, .ref y3_7, .int 0, .int 0, .int 0])), (y0_7, .inr (5, [.ref y1_7, .int 0, .int 200, .int 0])), (y1_7, .inl (cJ, 40, .inr (.inl (fun _ => 0)))), (y2_7, .inr (0, [.int 0, .int 0, .int 0, .int 0, .int 0])), (y3_7, .inr (3, [.ref y4_7, .int 0])), (y4_7, .inl (cI, 8, .inl (fun _ => 0)))] := hD
      refine W.widen (k := 6) (n := 68) (by decide) (by decide) ?_
      refine va_astq hx hb hK hP hD hS 1 3 2 1 rfl rfl rfl rfl (vp_in_nI (n := 0) (N := 10) (by decide) (by decide)) dX8_mark_51 (fun H locs hP hD hS => ?_)
      have hP : va_P D vwCl [(h0, .inr (8, [.ref (a 1), .ref (a 2), .ref (a 3), .ref (a 4), .ref (a 5), .ref (a 6), .ref (a 7), .null, .int 0, .int 0, .int 0, .int 0])), (a 2, .inl (cM, 10, .inr (.inr (.inr (.inr (va_up (fun _ => none) (0 : Int32).toNatClampNeg (some q6))))))), (q6, .inr (1, [.int x1, .int x2, .int x3, .ref y0_7, .ref y2_7, .ref y3_7, .int 0, .int 0, .int 0])), (y0_7, .inr (5, [.ref y1_7, .int 0, .int 200, .int 0])), (y1_7, .inl (cJ, 40, .inr (.inl (fun _ => 0)))), (y2_7, .inr (0, [.int 0, .int 0, .int 0, .int 0, .int 0])), (y3_7, .inr (3, [.ref y4_7, .int 0])), (y4_7, .inl (cI, 8, .inl (fun _ => 0)))] H := hP
      have hD : va_D A [(h0, .inr (8, [.ref (a 1), .ref (a 2), .ref (a 3), .ref (a 4), .ref (a 5), .ref (a 6), .ref (a 7), .null, .int 0, .int 0, .int 0, .int 0])), (a 2, .inl (cM, 10, .inr (.inr (.inr (.inr (va_up (fun _ => none) (0 : Int32).toNatClampNeg (some q6))))))), (q6, .inr (1, [.int x1, .int x2, .int x3, .ref y0_7, .ref y2_7, .ref y3_7, .int 0, .int 0, .int 0])), (y0_7, .inr (5, [.ref y1_7, .int 0, .int 200, .int 0])), (y1_7, .inl (cJ, 40, .inr (.inl (fun _ => 0)))), (y2_7, .inr (0, [.int 0, .int 0, .int 0, .int 0, .int 0])), (y3_7, .inr (3, [.ref y4_7, .int 0])), (y4_7, .inl (cI, 8, .inl (fun _ => 0)))] := hD
      refine lv_aload_n hx hb dX8_mark_52 rfl (lv_at hl 1 rfl) ?_
      refine lv_dup hx hb dX8_mark_53 rfl ?_
      refine va_get (D := D) (ci := 8) (v := .int 0) (C := RX8) (T := TX8) (N := 12) hx hb hts (fun _ h9 => List.mem_cons_of_mem _ (List.mem_append_left _ (List.mem_append_left _ (List.mem_append_left _ (List.mem_append_left _ (List.mem_append_right _ h9)))))) hown hK hP 0 rfl rfl 8 (by decide) (hts (.fieldLink RX8 62 "BuoyTender" "markCount" "I") (by decide +kernel)) (fun _ h9 => h9) rfl dX8_mark_54 ?_
      refine lv_iconst (v := 1) hx hb dX8_mark_57 (by decide) ?_
      refine lv_iadd hx hb dX8_mark_58 ?_
      refine lv_topi (fun z_8 ez_8 => ?_)
      obtain rfl : z_8 = 1 := ez_8.trans (by decide)
      refine va_put (D := D) (ci := 8) (v := .int 1) (ty := (tyX8 8)) (C := RX8) (T := TX8) (N := 12) hx hb hts (fun _ h9 => List.mem_cons_of_mem _ (List.mem_append_left _ (List.mem_append_left _ (List.mem_append_left _ (List.mem_append_left _ (List.mem_append_right _ h9)))))) tyX8 tyX8_ok nmX8 hown hK hP hD hS 0 rfl rfl 8 (by decide) (hts (.fieldLink RX8 62 "BuoyTender" "markCount" "I") (by decide +kernel)) (fun _ h9 => h9) rfl (by decide +kernel) rfl rfl (Nat.le_of_ble_eq_true rfl) dX8_mark_59 (fun H locs hP hD hS => ?_)
      have hP : va_P D vwCl [(h0, .inr (8, [.ref (a 1), .ref (a 2), .ref (a 3), .ref (a 4), .ref (a 5), .ref (a 6), .ref (a 7), .null, .int 1, .int 0, .int 0, .int 0])), (a 2, .inl (cM, 10, .inr (.inr (.inr (.inr (va_up (fun _ => none) (0 : Int32).toNatClampNeg (some q6))))))), (q6, .inr (1, [.int x1, .int x2, .int x3, .ref y0_7, .ref y2_7, .ref y3_7, .int 0, .int 0, .int 0])), (y0_7, .inr (5, [.ref y1_7, .int 0, .int 200, .int 0])), (y1_7, .inl (cJ, 40, .inr (.inl (fun _ => 0)))), (y2_7, .inr (0, [.int 0, .int 0, .int 0, .int 0, .int 0])), (y3_7, .inr (3, [.ref y4_7, .int 0])), (y4_7, .inl (cI, 8, .inl (fun _ => 0)))] H := hP
      have hD : va_D A [(h0, .inr (8, [.ref (a 1), .ref (a 2), .ref (a 3), .ref (a 4), .ref (a 5), .ref (a 6), .ref (a 7), .null, .int 1, .int 0, .int 0, .int 0])), (a 2, .inl (cM, 10, .inr (.inr (.inr (.inr (va_up (fun _ => none) (0 : Int32).toNatClampNeg (some q6))))))), (q6, .inr (1, [.int x1, .int x2, .int x3, .ref y0_7, .ref y2_7, .ref y3_7, .int 0, .int 0, .int 0])), (y0_7, .inr (5, [.ref y1_7, .int 0, .int 200, .int 0])), (y1_7, .inl (cJ, 40, .inr (.inl (fun _ => 0)))), (y2_7, .inr (0, [.int 0, .int 0, .int 0, .int 0, .int 0])), (y3_7, .inr (3, [.ref y4_7, .int 0])), (y4_7, .inl (cI, 8, .inl (fun _ => 0)))] := hD
      refine lv_iload hx hb dX8_mark_62 (lv_at hl 0 rfl) ?_
      exact W.iret (v := 0) hx hb hr (fun t ht hW => ⟨⟨0, (), rfl, (Or.inl ⟨rfl, h_1, h_3⟩), trivial⟩, hS.F ht⟩) hS.2.2 dX8_mark_64
    refine lv_if_eq (tgt := 27) hx hb dX8_mark_15 (by decide) (fun _ => ?_) (fun c_9 => False.elim (by revert c_9; decide))
    refine lv_iconst (v := (-1)) hx hb dX8_mark_27 (by decide) ?_
    refine W.widen (k := 6) (n := 68) (by decide) (by decide) ?_
    exact W.iret (v := (-1)) hx hb hr (fun t ht hW => ⟨⟨(-1), (), rfl, (Or.inr ⟨rfl, fun h9 => h_3 (h9.2)⟩), trivial⟩, hS.F ht⟩) hS.2.2 dX8_mark_28
  refine lv_if_eq (tgt := 27) hx hb dX8_mark_5 (by decide) (fun _ => ?_) (fun c_10 => False.elim (by revert c_10; decide))
  refine lv_iconst (v := (-1)) hx hb dX8_mark_27 (by decide) ?_
  refine W.widen (k := 6) (n := 68) (by decide) (by decide) ?_
  exact W.iret (v := (-1)) hx hb hr (fun t ht hW => ⟨⟨(-1), (), rfl, (Or.inr ⟨rfl, fun h9 => h_1 (h9.1)⟩), trivial⟩, hS.F ht⟩) hS.2.2 dX8_mark_28
end
