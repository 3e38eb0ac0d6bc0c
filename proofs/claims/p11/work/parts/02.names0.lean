/-! ===== BEGIN words of one list among another's, by their places ===== -/
theorem goodIn_r {big : List Cond} (ws : List Cond) (ps : List Nat) (hp : ws = ps.filterMap (fun i => big[i]?)) (h : ws.all goodWord = true) : GoodIn big ws := by
  intro w hw
  have h1 := List.all_eq_true.mp h w hw
  rw [hp] at hw
  obtain ⟨i, -, hi⟩ := List.mem_filterMap.mp hw
  have hm : w ∈ big := by first | exact List.mem_of_getElem? hi | exact List.getElem?_mem hi
  exact ⟨hm, good_of_word h1⟩
theorem goodIn_app {big a b : List Cond} (ha : GoodIn big a) (hb : GoodIn big b) : GoodIn big (a ++ b) := fun w h => (List.mem_append.mp h).elim (ha w) (hb w)
theorem goodIn_ca {big a b : List Cond} {c : Cond} (ha : GoodIn big (c :: a)) (hb : GoodIn big b) : GoodIn big (c :: (a ++ b)) := fun w h => (List.mem_cons.mp h).elim (fun e => ha w (List.mem_cons.mpr (Or.inl e))) (fun h => (List.mem_append.mp h).elim (fun h => ha w (List.mem_cons.mpr (Or.inr h))) (hb w))
theorem goodIn_sub {big ws : List Cond} (hm : ∀ w ∈ ws, w ∈ big) (h : ws.all goodWord = true) : GoodIn big ws := fun w hw => ⟨hm w hw, good_of_word (List.all_eq_true.mp h w hw)⟩
/-! ===== END ===== -/
def nmN (s : String) : Nat := s.toByteArray.data.toList.foldl (fun a b => a * 256 + b.toNat) 1
theorem nm_codes {T : u_T} {N : Nat} (cs : List Nat) (h : ∀ a, a < N → cs.idxOf (nmN (T a).2.1) = a) : ∀ a, a < N → ∀ b, b < N → a ≠ b → (T a).2.1 ≠ (T b).2.1 := fun a ha b hb hab e => hab ((h a ha).symm.trans ((congrArg (fun s => cs.idxOf (nmN s)) e).trans (h b hb)))

/-! ===== BEGIN printed: names, fields, word lists, decode rows ===== -/
def RX0 : String := "BuoyTender$Chain"
def TX0 : u_T := fun k => match k with
  | 0 => ("BuoyTender$Chain", "laid", "Z", false)
  | 1 => ("BuoyTender$Chain", "thickness", "I", false)
  | 2 => ("BuoyTender$Chain", "least", "I", false)
  | 3 => ("BuoyTender$Chain", "kind", "I", false)
  | _ => ("BuoyTender$Chain", "since", "I", false)
def tyX0 : Nat → FieldType := fun k => match k with
  | 0 => .boolean
  | 1 => .int
  | 2 => .int
  | 3 => .int
  | _ => .int
abbrev wsX00 : List Cond := u_ws RX0 TX0 5
set_option maxRecDepth 20000 in
theorem nmX0 : ∀ a, a < 5 → ∀ b, b < 5 → a ≠ b → (TX0 a).2.1 ≠ (TX0 b).2.1 := nm_codes [6113290596, 6869712449385517118323, 1565068981108, 6097038948, 1595201708901] (by decide +kernel)
theorem tyX0_ok : ∀ k, k < 5 → parseFieldDescriptor (TX0 k).2.2.1 = some (tyX0 k) := by decide +kernel
abbrev cX0_init : ByteArray := prog_2_method_1_code
def yX0_init : MethodName := ⟨RX0, "<init>", "()V"⟩
abbrev cX0_lay : ByteArray := prog_2_method_2_code
def yX0_lay : MethodName := ⟨RX0, "lay", "(IIII)V"⟩
abbrev cX0_wornIn : ByteArray := prog_2_method_3_code
def yX0_wornIn : MethodName := ⟨RX0, "wornIn", "(I[I)I"⟩
abbrev cX0_leftBehind : ByteArray := prog_2_method_4_code
def yX0_leftBehind : MethodName := ⟨RX0, "leftBehind", "(I[I)I"⟩
abbrev cX0_lifeEnds : ByteArray := prog_2_method_5_code
def yX0_lifeEnds : MethodName := ⟨RX0, "lifeEnds", "([I)I"⟩
def RX1 : String := "BuoyTender$Mark"
def TX1 : u_T := fun k => match k with
  | 0 => ("BuoyTender$Mark", "x", "I", true)
  | 1 => ("BuoyTender$Mark", "y", "I", true)
  | 2 => ("BuoyTender$Mark", "radius", "I", true)
  | 3 => ("BuoyTender$Mark", "sighting", "LBuoyTender$Sighting;", true)
  | 4 => ("BuoyTender$Mark", "chain", "LBuoyTender$Chain;", true)
  | 5 => ("BuoyTender$Mark", "rhythm", "LBuoyTender$Rhythm;", true)
  | 6 => ("BuoyTender$Mark", "minutes", "I", false)
  | 7 => ("BuoyTender$Mark", "load", "I", false)
  | _ => ("BuoyTender$Mark", "weight", "I", false)
def tyX1 : Nat → FieldType := fun k => match k with
  | 0 => .int
  | 1 => .int
  | 2 => .int
  | 3 => .object "BuoyTender$Sighting"
  | 4 => .object "BuoyTender$Chain"
  | 5 => .object "BuoyTender$Rhythm"
  | 6 => .int
  | 7 => .int
  | _ => .int
abbrev wsX10 : List Cond := u_ws RX1 TX1 9
set_option maxRecDepth 20000 in
theorem nmX1 : ∀ a, a < 9 → ∀ b, b < 9 → a ≠ b → (TX1 a).2.1 ≠ (TX1 b).2.1 := nm_codes [376, 377, 407237598737779, 26763035958953209447, 1526464604526, 407268016547949, 102854289637270899, 6114206052, 412752420497524] (by decide +kernel)
theorem tyX1_ok : ∀ k, k < 9 → parseFieldDescriptor (TX1 k).2.2.1 = some (tyX1 k) := by decide +kernel
abbrev cX1_init : ByteArray := prog_3_method_1_code
def yX1_init : MethodName := ⟨RX1, "<init>", "(III)V"⟩
abbrev cX1_isNear : ByteArray := prog_3_method_2_code
def yX1_isNear : MethodName := ⟨RX1, "isNear", "(LBuoyTender$Mark;I)Z"⟩
def RX2 : String := "BuoyTender$Planner"
def TX2 : u_T := fun k => match k with
  | 0 => ("BuoyTender$Planner", "numbers", "[I", true)
  | 1 => ("BuoyTender$Planner", "minutes", "[I", true)
  | 2 => ("BuoyTender$Planner", "loads", "[I", true)
  | 3 => ("BuoyTender$Planner", "weights", "[I", true)
  | 4 => ("BuoyTender$Planner", "ways", "[I", true)
  | 5 => ("BuoyTender$Planner", "opensIn", "[I", true)
  | 6 => ("BuoyTender$Planner", "openedIn", "[I", true)
  | 7 => ("BuoyTender$Planner", "ends", "[I", true)
  | 8 => ("BuoyTender$Planner", "backs", "[I", true)
  | 9 => ("BuoyTender$Planner", "tried", "[I", true)
  | 10 => ("BuoyTender$Planner", "order", "[I", true)
  | 11 => ("BuoyTender$Planner", "begins", "[I", true)
  | 12 => ("BuoyTender$Planner", "count", "I", false)
  | 13 => ("BuoyTender$Planner", "length", "I", false)
  | 14 => ("BuoyTender$Planner", "bestWeight", "I", false)
  | _ => ("BuoyTender$Planner", "bestBack", "I", false)
def tyX2 : Nat → FieldType := fun k => match k with
  | 0 => .array .int
  | 1 => .array .int
  | 2 => .array .int
  | 3 => .array .int
  | 4 => .array .int
  | 5 => .array .int
  | 6 => .array .int
  | 7 => .array .int
  | 8 => .array .int
  | 9 => .array .int
  | 10 => .array .int
  | 11 => .array .int
  | 12 => .int
  | 13 => .int
  | 14 => .int
  | _ => .int
abbrev wsX20 : List Cond := u_ws RX2 TX2 16
set_option maxRecDepth 20000 in
theorem nmX2 : ∀ a, a < 16 → ∀ b, b < 16 → a ≠ b → (TX2 a).2.1 ≠ (TX2 b).2.1 := nm_codes [103148954138800755, 102854289637270899, 1565236749427, 105664619647366259, 6297844083, 103424897399867758, 26476773734133025134, 5996700787, 1522052328307, 1599647343972, 1578172179826, 389662642892403, 1526583357044, 400657876481128, 1673589175457803802208372, 25536944205241344875] (by decide +kernel)
theorem tyX2_ok : ∀ k, k < 16 → parseFieldDescriptor (TX2 k).2.2.1 = some (tyX2 k) := by decide +kernel
abbrev cX2_init : ByteArray := prog_4_method_1_code
def yX2_init : MethodName := ⟨RX2, "<init>", "()V"⟩
abbrev cX2_plan : ByteArray := prog_4_method_2_code
def yX2_plan : MethodName := ⟨RX2, "plan", "([LBuoyTender$Mark;[ILBuoyTender$Ship;)V"⟩
abbrev cX2_loadDone : ByteArray := prog_4_method_3_code
def yX2_loadDone : MethodName := ⟨RX2, "loadDone", "()I"⟩
abbrev cX2_step : ByteArray := prog_4_method_4_code
def yX2_step : MethodName := ⟨RX2, "step", "(I)I"⟩
abbrev cX2_gather : ByteArray := prog_4_method_5_code
def yX2_gather : MethodName := ⟨RX2, "gather", "([LBuoyTender$Mark;[ILBuoyTender$Ship;)V"⟩
abbrev cX2_openHours : ByteArray := prog_4_method_6_code
def yX2_openHours : MethodName := ⟨RX2, "openHours", "(IILBuoyTender$Ship;)V"⟩
abbrev cX2_measure : ByteArray := prog_4_method_7_code
def yX2_measure : MethodName := ⟨RX2, "measure", "([LBuoyTender$Mark;LBuoyTender$Ship;)V"⟩
abbrev cX2_markOfJob : ByteArray := prog_4_method_8_code
def yX2_markOfJob : MethodName := ⟨RX2, "markOfJob", "([LBuoyTender$Mark;I)LBuoyTender$Mark;"⟩
abbrev cX2_way : ByteArray := prog_4_method_9_code
def yX2_way : MethodName := ⟨RX2, "way", "(LBuoyTender$Mark;IILBuoyTender$Ship;)I"⟩
abbrev cX2_isIn : ByteArray := prog_4_method_10_code
def yX2_isIn : MethodName := ⟨RX2, "isIn", "(II)Z"⟩
abbrev cX2_without : ByteArray := prog_4_method_11_code
def yX2_without : MethodName := ⟨RX2, "without", "(II)I"⟩
abbrev cX2_sumOver : ByteArray := prog_4_method_12_code
def yX2_sumOver : MethodName := ⟨RX2, "sumOver", "(I[I)I"⟩
abbrev cX2_beginFrom : ByteArray := prog_4_method_13_code
def yX2_beginFrom : MethodName := ⟨RX2, "beginFrom", "(II)I"⟩
abbrev cX2_beginUpTo : ByteArray := prog_4_method_14_code
def yX2_beginUpTo : MethodName := ⟨RX2, "beginUpTo", "(II)I"⟩
abbrev cX2_findEarliestEnds : ByteArray := prog_4_method_15_code
def yX2_findEarliestEnds : MethodName := ⟨RX2, "findEarliestEnds", "(LBuoyTender$Ship;)V"⟩
abbrev cX2_earliestEnd : ByteArray := prog_4_method_16_code
def yX2_earliestEnd : MethodName := ⟨RX2, "earliestEnd", "(IILBuoyTender$Ship;)I"⟩
abbrev cX2_chooseBest : ByteArray := prog_4_method_17_code
def yX2_chooseBest : MethodName := ⟨RX2, "chooseBest", "()V"⟩
abbrev cX2_findLatestEnds : ByteArray := prog_4_method_18_code
def yX2_findLatestEnds : MethodName := ⟨RX2, "findLatestEnds", "()V"⟩
abbrev cX2_latestEnd : ByteArray := prog_4_method_19_code
def yX2_latestEnd : MethodName := ⟨RX2, "latestEnd", "(II)I"⟩
abbrev cX2_chooseOrder : ByteArray := prog_4_method_20_code
def yX2_chooseOrder : MethodName := ⟨RX2, "chooseOrder", "(LBuoyTender$Ship;)V"⟩
abbrev cX2_tryFirstOrder : ByteArray := prog_4_method_21_code
def yX2_tryFirstOrder : MethodName := ⟨RX2, "tryFirstOrder", "(ILBuoyTender$Ship;)I"⟩
abbrev cX2_lowestNext : ByteArray := prog_4_method_22_code
def yX2_lowestNext : MethodName := ⟨RX2, "lowestNext", "(III)I"⟩
abbrev cX2_isTriedFirst : ByteArray := prog_4_method_23_code
def yX2_isTriedFirst : MethodName := ⟨RX2, "isTriedFirst", "(I)Z"⟩
abbrev cX2_timeOrder : ByteArray := prog_4_method_24_code
def yX2_timeOrder : MethodName := ⟨RX2, "timeOrder", "(LBuoyTender$Ship;)V"⟩
def RX3 : String := "BuoyTender$Rhythm"
def TX3 : u_T := fun k => match k with
  | 0 => ("BuoyTender$Rhythm", "steps", "[I", true)
  | _ => ("BuoyTender$Rhythm", "many", "I", false)
def tyX3 : Nat → FieldType := fun k => match k with
  | 0 => .array .int
  | _ => .int
abbrev wsX30 : List Cond := u_ws RX3 TX3 2
theorem nmX3 : ∀ a, a < 2 → ∀ b, b < 2 → a ≠ b → (TX3 a).2.1 ≠ (TX3 b).2.1 := by decide +kernel
theorem tyX3_ok : ∀ k, k < 2 → parseFieldDescriptor (TX3 k).2.2.1 = some (tyX3 k) := by decide +kernel
abbrev cX3_init : ByteArray := prog_5_method_1_code
def yX3_init : MethodName := ⟨RX3, "<init>", "()V"⟩
abbrev cX3_isLit : ByteArray := prog_5_method_2_code
def yX3_isLit : MethodName := ⟨RX3, "isLit", "()Z"⟩
abbrev cX3_goDark : ByteArray := prog_5_method_3_code
def yX3_goDark : MethodName := ⟨RX3, "goDark", "()V"⟩
abbrev cX3_read : ByteArray := prog_5_method_4_code
def yX3_read : MethodName := ⟨RX3, "read", "(II)Z"⟩
abbrev cX3_copyFrom : ByteArray := prog_5_method_5_code
def yX3_copyFrom : MethodName := ⟨RX3, "copyFrom", "(LBuoyTender$Rhythm;)V"⟩
abbrev cX3_matches : ByteArray := prog_5_method_6_code
def yX3_matches : MethodName := ⟨RX3, "matches", "(LBuoyTender$Rhythm;)Z"⟩
abbrev cX3_matchesTurned : ByteArray := prog_5_method_7_code
def yX3_matchesTurned : MethodName := ⟨RX3, "matchesTurned", "(LBuoyTender$Rhythm;I)Z"⟩
def RX4 : String := "BuoyTender$Ship"
def TX4 : u_T := fun k => match k with
  | 0 => ("BuoyTender$Ship", "tides", "[I", true)
  | 1 => ("BuoyTender$Ship", "winds", "[I", true)
  | 2 => ("BuoyTender$Ship", "x", "I", false)
  | 3 => ("BuoyTender$Ship", "y", "I", false)
  | 4 => ("BuoyTender$Ship", "minute", "I", false)
  | 5 => ("BuoyTender$Ship", "end", "I", false)
  | 6 => ("BuoyTender$Ship", "pace", "I", false)
  | 7 => ("BuoyTender$Ship", "draught", "I", false)
  | 8 => ("BuoyTender$Ship", "mostWind", "I", false)
  | _ => ("BuoyTender$Ship", "carried", "I", false)
def tyX4 : Nat → FieldType := fun k => match k with
  | 0 => .array .int
  | 1 => .array .int
  | 2 => .int
  | 3 => .int
  | 4 => .int
  | 5 => .int
  | 6 => .int
  | 7 => .int
  | 8 => .int
  | _ => .int
abbrev wsX40 : List Cond := u_ws RX4 TX4 10
set_option maxRecDepth 20000 in
theorem nmX4 : ∀ a, a < 10 → ∀ b, b < 10 → a ≠ b → (TX4 a).2.1 ≠ (TX4 b).2.1 := nm_codes [1599496021363, 1612381578355, 376, 377, 401774568895589, 23424612, 6180397925, 100330854616098932, 26332392489778507364, 100030760905958756] (by decide +kernel)
theorem tyX4_ok : ∀ k, k < 10 → parseFieldDescriptor (TX4 k).2.2.1 = some (tyX4 k) := by decide +kernel
abbrev cX4_init : ByteArray := prog_6_method_1_code
def yX4_init : MethodName := ⟨RX4, "<init>", "()V"⟩
abbrev cX4_mayBegin : ByteArray := prog_6_method_2_code
def yX4_mayBegin : MethodName := ⟨RX4, "mayBegin", "(II)Z"⟩
def RX5 : String := "BuoyTender$Sighting"
def TX5 : u_T := fun k => match k with
  | 0 => ("BuoyTender$Sighting", "ruledOut", "[J", true)
  | 1 => ("BuoyTender$Sighting", "shallowest", "I", false)
  | 2 => ("BuoyTender$Sighting", "deepest", "I", false)
  | _ => ("BuoyTender$Sighting", "told", "Z", false)
def tyX5 : Nat → FieldType := fun k => match k with
  | 0 => .array .long
  | 1 => .int
  | 2 => .int
  | _ => .boolean
abbrev wsX50 : List Cond := u_ws RX5 TX5 4
set_option maxRecDepth 20000 in
theorem nmX5 : ∀ a, a < 4 → ∀ b, b < 4 → a ≠ b → (TX5 a).2.1 ≠ (TX5 b).2.1 := nm_codes [26694361549038908788, 1753923446633449331716980, 100316578060792692, 6248426596] (by decide +kernel)
theorem tyX5_ok : ∀ k, k < 4 → parseFieldDescriptor (TX5 k).2.2.1 = some (tyX5 k) := by decide +kernel
abbrev cX5_init : ByteArray := prog_7_method_1_code
def yX5_init : MethodName := ⟨RX5, "<init>", "()V"⟩
abbrev cX5_begin : ByteArray := prog_7_method_2_code
def yX5_begin : MethodName := ⟨RX5, "begin", "()V"⟩
abbrev cX5_tellBearing : ByteArray := prog_7_method_3_code
def yX5_tellBearing : MethodName := ⟨RX5, "tellBearing", "(IIIIII)V"⟩
abbrev cX5_tellSounding : ByteArray := prog_7_method_4_code
def yX5_tellSounding : MethodName := ⟨RX5, "tellSounding", "(II)V"⟩
def RX6 : String := "BuoyTender$Survey"
def TX6 : u_T := fun k => match k with
  | 0 => ("BuoyTender$Survey", "left", "I", false)
  | 1 => ("BuoyTender$Survey", "inRadius", "I", false)
  | 2 => ("BuoyTender$Survey", "leastX", "I", false)
  | 3 => ("BuoyTender$Survey", "leastY", "I", false)
  | 4 => ("BuoyTender$Survey", "mostX", "I", false)
  | _ => ("BuoyTender$Survey", "mostY", "I", false)
def tyX6 : Nat → FieldType := fun k => match k with
  | 0 => .int
  | 1 => .int
  | 2 => .int
  | 3 => .int
  | 4 => .int
  | _ => .int
abbrev wsX60 : List Cond := u_ws RX6 TX6 6
set_option maxRecDepth 20000 in
theorem nmX6 : ∀ a, a < 6 → ∀ b, b < 6 → a ≠ b → (TX6 a).2.1 ≠ (TX6 b).2.1 := nm_codes [6113551988, 26043844273380095347, 400657659163736, 400657659163737, 1569532900440, 1569532900441] (by decide +kernel)
theorem tyX6_ok : ∀ k, k < 6 → parseFieldDescriptor (TX6 k).2.2.1 = some (tyX6 k) := by decide +kernel
abbrev cX6_init : ByteArray := prog_8_method_1_code
def yX6_init : MethodName := ⟨RX6, "<init>", "()V"⟩
abbrev cX6_take : ByteArray := prog_8_method_2_code
def yX6_take : MethodName := ⟨RX6, "take", "(LBuoyTender$Mark;[I)V"⟩
abbrev cX6_count : ByteArray := prog_8_method_3_code
def yX6_count : MethodName := ⟨RX6, "count", "(LBuoyTender$Mark;II)V"⟩
abbrev cX6_how : ByteArray := prog_8_method_4_code
def yX6_how : MethodName := ⟨RX6, "how", "()I"⟩
def RX7 : String := "BuoyTender$Warnings"
def TX7 : u_T := fun k => match k with
  | 0 => ("BuoyTender$Warnings", "markOf", "[I", true)
  | 1 => ("BuoyTender$Warnings", "reasonOf", "[I", true)
  | 2 => ("BuoyTender$Warnings", "toldOn", "[I", true)
  | 3 => ("BuoyTender$Warnings", "cancelledOn", "[I", true)
  | _ => ("BuoyTender$Warnings", "count", "I", false)
def tyX7 : Nat → FieldType := fun k => match k with
  | 0 => .array .int
  | 1 => .array .int
  | 2 => .array .int
  | 3 => .array .int
  | _ => .int
abbrev wsX70 : List Cond := u_ws RX7 TX7 5
set_option maxRecDepth 20000 in
theorem nmX7 : ∀ a, a < 5 → ∀ b, b < 5 → a ≠ b → (TX7 a).2.1 ≠ (TX7 b).2.1 := nm_codes [401740275601254, 26689845915099746150, 409496885415790, 429628771816129815873081198, 1526583357044] (by decide +kernel)
theorem tyX7_ok : ∀ k, k < 5 → parseFieldDescriptor (TX7 k).2.2.1 = some (tyX7 k) := by decide +kernel
abbrev cX7_init : ByteArray := prog_9_method_1_code
def yX7_init : MethodName := ⟨RX7, "<init>", "()V"⟩
abbrev cX7_has : ByteArray := prog_9_method_2_code
def yX7_has : MethodName := ⟨RX7, "has", "(I)Z"⟩
abbrev cX7_tell : ByteArray := prog_9_method_3_code
def yX7_tell : MethodName := ⟨RX7, "tell", "(III)I"⟩
abbrev cX7_isOpen : ByteArray := prog_9_method_4_code
def yX7_isOpen : MethodName := ⟨RX7, "isOpen", "(II)Z"⟩
abbrev cX7_end : ByteArray := prog_9_method_5_code
def yX7_end : MethodName := ⟨RX7, "end", "(II)Z"⟩
abbrev cX7_isOutOn : ByteArray := prog_9_method_6_code
def yX7_isOutOn : MethodName := ⟨RX7, "isOutOn", "(II)Z"⟩
abbrev cX7_countOn : ByteArray := prog_9_method_7_code
def yX7_countOn : MethodName := ⟨RX7, "countOn", "(I)I"⟩
abbrev cX7_numberOn : ByteArray := prog_9_method_8_code
def yX7_numberOn : MethodName := ⟨RX7, "numberOn", "(II)I"⟩
def RX8 : String := "BuoyTender"
def TX8 : u_T := fun k => match k with
  | 0 => ("BuoyTender", "depths", "[I", true)
  | 1 => ("BuoyTender", "marks", "[LBuoyTender$Mark;", true)
  | 2 => ("BuoyTender", "wears", "[I", true)
  | 3 => ("BuoyTender", "warnings", "LBuoyTender$Warnings;", true)
  | 4 => ("BuoyTender", "vessel", "LBuoyTender$Ship;", true)
  | 5 => ("BuoyTender", "planner", "LBuoyTender$Planner;", true)
  | 6 => ("BuoyTender", "survey", "LBuoyTender$Survey;", true)
  | 7 => ("BuoyTender", "proposed", "LBuoyTender$Rhythm;", true)
  | 8 => ("BuoyTender", "markCount", "I", false)
  | 9 => ("BuoyTender", "today", "I", false)
  | 10 => ("BuoyTender", "nearness", "I", false)
  | _ => ("BuoyTender", "planned", "Z", false)
def tyX8 : Nat → FieldType := fun k => match k with
  | 0 => .array .int
  | 1 => .array (.object "BuoyTender$Mark")
  | 2 => .array .int
  | 3 => .object "BuoyTender$Warnings"
  | 4 => .object "BuoyTender$Ship"
  | 5 => .object "BuoyTender$Planner"
  | 6 => .object "BuoyTender$Survey"
  | 7 => .object "BuoyTender$Rhythm"
  | 8 => .int
  | 9 => .int
  | 10 => .int
  | _ => .boolean
abbrev wsX80 : List Cond := u_ws RX8 TX8 12
set_option maxRecDepth 20000 in
theorem nmX8 : ∀ a, a < 12 → ∀ b, b < 12 → a ≠ b → (TX8 a).2.1 ≠ (TX8 b).2.1 := nm_codes [391861817862259, 1569297951603, 1612313621107, 27049026655504721779, 411653077427564, 103701957149877618, 408423245440377, 26549405281999349092, 6740083379610387312244, 1599596683641, 26401615534635709299, 103701957149877604] (by decide +kernel)
theorem tyX8_ok : ∀ k, k < 12 → parseFieldDescriptor (TX8 k).2.2.1 = some (tyX8 k) := by decide +kernel
abbrev cX8_init : ByteArray := prog_1_method_1_code
def yX8_init : MethodName := ⟨RX8, "<init>", "()V"⟩
abbrev cX8_depth : ByteArray := prog_1_method_2_code
def yX8_depth : MethodName := ⟨RX8, "depth", "(IIIII)Z"⟩
abbrev cX8_mark : ByteArray := prog_1_method_3_code
def yX8_mark : MethodName := ⟨RX8, "mark", "(III)I"⟩
abbrev cX8_sight : ByteArray := prog_1_method_4_code
def yX8_sight : MethodName := ⟨RX8, "sight", "(I)Z"⟩
abbrev cX8_bearing : ByteArray := prog_1_method_5_code
def yX8_bearing : MethodName := ⟨RX8, "bearing", "(IIIIII)Z"⟩
abbrev cX8_sounding : ByteArray := prog_1_method_6_code
def yX8_sounding : MethodName := ⟨RX8, "sounding", "(III)Z"⟩
abbrev cX8_lies : ByteArray := prog_1_method_7_code
def yX8_lies : MethodName := ⟨RX8, "lies", "(II)I"⟩
abbrev cX8_day : ByteArray := prog_1_method_8_code
def yX8_day : MethodName := ⟨RX8, "day", "(I)Z"⟩
abbrev cX8_chain : ByteArray := prog_1_method_9_code
def yX8_chain : MethodName := ⟨RX8, "chain", "(IIII)Z"⟩
abbrev cX8_wear : ByteArray := prog_1_method_10_code
def yX8_wear : MethodName := ⟨RX8, "wear", "(III)Z"⟩
abbrev cX8_chainOf : ByteArray := prog_1_method_11_code
def yX8_chainOf : MethodName := ⟨RX8, "chainOf", "(II)I"⟩
abbrev cX8_light : ByteArray := prog_1_method_12_code
def yX8_light : MethodName := ⟨RX8, "light", "(III)Z"⟩
abbrev cX8_near : ByteArray := prog_1_method_13_code
def yX8_near : MethodName := ⟨RX8, "near", "(I)Z"⟩
abbrev cX8_alike : ByteArray := prog_1_method_14_code
def yX8_alike : MethodName := ⟨RX8, "alike", "(II)I"⟩
abbrev cX8_warn : ByteArray := prog_1_method_15_code
def yX8_warn : MethodName := ⟨RX8, "warn", "(II)I"⟩
abbrev cX8_cancel : ByteArray := prog_1_method_16_code
def yX8_cancel : MethodName := ⟨RX8, "cancel", "(I)Z"⟩
abbrev cX8_list : ByteArray := prog_1_method_17_code
def yX8_list : MethodName := ⟨RX8, "list", "(I)I"⟩
abbrev cX8_listed : ByteArray := prog_1_method_18_code
def yX8_listed : MethodName := ⟨RX8, "listed", "(II)I"⟩
abbrev cX8_warning : ByteArray := prog_1_method_19_code
def yX8_warning : MethodName := ⟨RX8, "warning", "(II)I"⟩
abbrev cX8_job : ByteArray := prog_1_method_20_code
def yX8_job : MethodName := ⟨RX8, "job", "(IIII)Z"⟩
abbrev cX8_weather : ByteArray := prog_1_method_21_code
def yX8_weather : MethodName := ⟨RX8, "weather", "(III)Z"⟩
abbrev cX8_ship : ByteArray := prog_1_method_22_code
def yX8_ship : MethodName := ⟨RX8, "ship", "(IIII)Z"⟩
abbrev cX8_at : ByteArray := prog_1_method_23_code
def yX8_at : MethodName := ⟨RX8, "at", "(IIII)Z"⟩
abbrev cX8_round : ByteArray := prog_1_method_24_code
def yX8_round : MethodName := ⟨RX8, "round", "(I)I"⟩
abbrev cX8_about : ByteArray := prog_1_method_25_code
def yX8_about : MethodName := ⟨RX8, "about", "(I)I"⟩
abbrev cX8_within : ByteArray := prog_1_method_26_code
def yX8_within : MethodName := ⟨RX8, "within", "(III)Z"⟩
abbrev cX8_isPlace : ByteArray := prog_1_method_27_code
def yX8_isPlace : MethodName := ⟨RX8, "isPlace", "(II)Z"⟩
abbrev cX8_isWay : ByteArray := prog_1_method_28_code
def yX8_isWay : MethodName := ⟨RX8, "isWay", "(II)Z"⟩
abbrev cX8_squareBetween : ByteArray := prog_1_method_29_code
def yX8_squareBetween : MethodName := ⟨RX8, "squareBetween", "(IIII)I"⟩
abbrev cX8_known : ByteArray := prog_1_method_30_code
def yX8_known : MethodName := ⟨RX8, "known", "(I)LBuoyTender$Mark;"⟩
abbrev cX8_thisMonth : ByteArray := prog_1_method_31_code
def yX8_thisMonth : MethodName := ⟨RX8, "thisMonth", "()I"⟩
abbrev cX8_surveyed : ByteArray := prog_1_method_32_code
def yX8_surveyed : MethodName := ⟨RX8, "surveyed", "(IZ)I"⟩
abbrev cX8_clashesNearby : ByteArray := prog_1_method_33_code
def yX8_clashesNearby : MethodName := ⟨RX8, "clashesNearby", "(ILBuoyTender$Mark;)Z"⟩
abbrev cX8_clashesWithin : ByteArray := prog_1_method_34_code
def yX8_clashesWithin : MethodName := ⟨RX8, "clashesWithin", "(I)Z"⟩
abbrev cX8_jobCount : ByteArray := prog_1_method_35_code
def yX8_jobCount : MethodName := ⟨RX8, "jobCount", "()I"⟩
def RX9 : String := "BuoyTenderModel"
def TX9 : u_T := fun k => match k with
  | 0 => ("BuoyTenderModel", "depth", "[I", true)
  | 1 => ("BuoyTenderModel", "marks", "I", false)
  | 2 => ("BuoyTenderModel", "stationX", "[I", true)
  | 3 => ("BuoyTenderModel", "stationY", "[I", true)
  | 4 => ("BuoyTenderModel", "radius", "[I", true)
  | 5 => ("BuoyTenderModel", "isOut", "[Z", true)
  | 6 => ("BuoyTenderModel", "isSighted", "[Z", true)
  | 7 => ("BuoyTenderModel", "clock", "I", false)
  | 8 => ("BuoyTenderModel", "chainMonth", "[I", true)
  | 9 => ("BuoyTenderModel", "thickness", "[I", true)
  | 10 => ("BuoyTenderModel", "least", "[I", true)
  | 11 => ("BuoyTenderModel", "ground", "[I", true)
  | 12 => ("BuoyTenderModel", "wear", "[I", true)
  | 13 => ("BuoyTenderModel", "steps", "[I", true)
  | 14 => ("BuoyTenderModel", "rhythm", "[I", true)
  | 15 => ("BuoyTenderModel", "nearness", "I", false)
  | 16 => ("BuoyTenderModel", "warnings", "I", false)
  | 17 => ("BuoyTenderModel", "warnMark", "[I", true)
  | 18 => ("BuoyTenderModel", "warnKind", "[I", true)
  | 19 => ("BuoyTenderModel", "warnFrom", "[I", true)
  | 20 => ("BuoyTenderModel", "warnTo", "[I", true)
  | 21 => ("BuoyTenderModel", "minutes", "[I", true)
  | 22 => ("BuoyTenderModel", "load", "[I", true)
  | 23 => ("BuoyTenderModel", "weight", "[I", true)
  | 24 => ("BuoyTenderModel", "tide", "[I", true)
  | 25 => ("BuoyTenderModel", "wind", "[I", true)
  | 26 => ("BuoyTenderModel", "pace", "I", false)
  | 27 => ("BuoyTenderModel", "draught", "I", false)
  | 28 => ("BuoyTenderModel", "mostWind", "I", false)
  | 29 => ("BuoyTenderModel", "carries", "I", false)
  | 30 => ("BuoyTenderModel", "shipX", "I", false)
  | 31 => ("BuoyTenderModel", "shipY", "I", false)
  | 32 => ("BuoyTenderModel", "begin", "I", false)
  | 33 => ("BuoyTenderModel", "last", "I", false)
  | 34 => ("BuoyTenderModel", "hadSteps", "[I", true)
  | 35 => ("BuoyTenderModel", "earliest", "[I", true)
  | 36 => ("BuoyTenderModel", "bestWeight", "I", false)
  | 37 => ("BuoyTenderModel", "bestBack", "I", false)
  | 38 => ("BuoyTenderModel", "many", "I", false)
  | 39 => ("BuoyTenderModel", "row", "[I", true)
  | 40 => ("BuoyTenderModel", "rowBegin", "[I", true)
  | 41 => ("BuoyTenderModel", "loadOf", "[I", true)
  | 42 => ("BuoyTenderModel", "weightOf", "[I", true)
  | 43 => ("BuoyTenderModel", "isKnown", "Z", false)
  | 44 => ("BuoyTenderModel", "foundWeight", "I", false)
  | _ => ("BuoyTenderModel", "foundBack", "I", false)
def tyX9 : Nat → FieldType := fun k => match k with
  | 0 => .array .int
  | 1 => .int
  | 2 => .array .int
  | 3 => .array .int
  | 4 => .array .int
  | 5 => .array .boolean
  | 6 => .array .boolean
  | 7 => .int
  | 8 => .array .int
  | 9 => .array .int
  | 10 => .array .int
  | 11 => .array .int
  | 12 => .array .int
  | 13 => .array .int
  | 14 => .array .int
  | 15 => .int
  | 16 => .int
  | 17 => .array .int
  | 18 => .array .int
  | 19 => .array .int
  | 20 => .array .int
  | 21 => .array .int
  | 22 => .array .int
  | 23 => .array .int
  | 24 => .array .int
  | 25 => .array .int
  | 26 => .int
  | 27 => .int
  | 28 => .int
  | 29 => .int
  | 30 => .int
  | 31 => .int
  | 32 => .int
  | 33 => .int
  | 34 => .array .int
  | 35 => .array .int
  | 36 => .int
  | 37 => .int
  | 38 => .int
  | 39 => .array .int
  | 40 => .array .int
  | 41 => .array .int
  | 42 => .array .int
  | 43 => .boolean
  | 44 => .int
  | _ => .int
abbrev wsX90 : List Cond := u_ws RX9 TX9 46
set_option maxRecDepth 20000 in
theorem nmX9 : ∀ a, a < 46 → ∀ b, b < 46 → a ≠ b → (TX9 a).2.1 ≠ (TX9 b).2.1 := nm_codes [1530710226024, 1569297951603, 26766125637982711384, 26766125637982711385, 407237598737779, 1552417781108, 6667584712239431837028, 1526532629355, 1678365582065162938905704, 6869712449385517118323, 1565068981108, 395216170610276, 6298100082, 1595385671795, 407268016547949, 26401615534635709299, 27049026655504721779, 27049026655034110571, 27049026655001079396, 27049026654917783405, 412735392076911, 102854289637270899, 6114206052, 412752420497524, 6248031333, 6298365540, 6180397925, 100330854616098932, 26332392489778507364, 100030760905958771, 1595184607320, 1595184607321, 1522119698798, 6113293172, 25968147235992858739, 25751989954231497588, 1673589175457803802208372, 25536944205241344875, 6130069113, 24276855, 26692684643501042030, 400700607844198, 27050142629725753190, 101739234405087086, 433321792325271334095906932, 6611965825275394089835] (by decide +kernel)
theorem tyX9_ok : ∀ k, k < 46 → parseFieldDescriptor (TX9 k).2.2.1 = some (tyX9 k) := by decide +kernel
abbrev cX9_init : ByteArray := prog_11_method_1_code
def yX9_init : MethodName := ⟨RX9, "<init>", "()V"⟩
abbrev cX9_in : ByteArray := prog_11_method_2_code
def yX9_in : MethodName := ⟨RX9, "in", "(III)Z"⟩
abbrev cX9_isPlace : ByteArray := prog_11_method_3_code
def yX9_isPlace : MethodName := ⟨RX9, "isPlace", "(II)Z"⟩
abbrev cX9_isMark : ByteArray := prog_11_method_4_code
def yX9_isMark : MethodName := ⟨RX9, "isMark", "(I)Z"⟩
abbrev cX9_depth : ByteArray := prog_11_method_5_code
def yX9_depth : MethodName := ⟨RX9, "depth", "(IIIII)Z"⟩
abbrev cX9_mark : ByteArray := prog_11_method_6_code
def yX9_mark : MethodName := ⟨RX9, "mark", "(III)I"⟩
abbrev cX9_sight : ByteArray := prog_11_method_7_code
def yX9_sight : MethodName := ⟨RX9, "sight", "(I)Z"⟩
abbrev cX9_isWay : ByteArray := prog_11_method_8_code
def yX9_isWay : MethodName := ⟨RX9, "isWay", "(II)Z"⟩
abbrev cX9_bearing : ByteArray := prog_11_method_9_code
def yX9_bearing : MethodName := ⟨RX9, "bearing", "(IIIIII)Z"⟩
abbrev cX9_sounding : ByteArray := prog_11_method_10_code
def yX9_sounding : MethodName := ⟨RX9, "sounding", "(III)Z"⟩
abbrev cX9_square : ByteArray := prog_11_method_11_code
def yX9_square : MethodName := ⟨RX9, "square", "(II)I"⟩
abbrev cX9_lies : ByteArray := prog_11_method_12_code
def yX9_lies : MethodName := ⟨RX9, "lies", "(II)I"⟩
abbrev cX9_day : ByteArray := prog_11_method_13_code
def yX9_day : MethodName := ⟨RX9, "day", "(I)Z"⟩
abbrev cX9_chain : ByteArray := prog_11_method_14_code
def yX9_chain : MethodName := ⟨RX9, "chain", "(IIII)Z"⟩
abbrev cX9_wear : ByteArray := prog_11_method_15_code
def yX9_wear : MethodName := ⟨RX9, "wear", "(III)Z"⟩
abbrev cX9_chainOf : ByteArray := prog_11_method_16_code
def yX9_chainOf : MethodName := ⟨RX9, "chainOf", "(II)I"⟩
abbrev cX9_isAlike : ByteArray := prog_11_method_17_code
def yX9_isAlike : MethodName := ⟨RX9, "isAlike", "(II)Z"⟩
abbrev cX9_isNear : ByteArray := prog_11_method_18_code
def yX9_isNear : MethodName := ⟨RX9, "isNear", "(III)Z"⟩
abbrev cX9_clashes : ByteArray := prog_11_method_19_code
def yX9_clashes : MethodName := ⟨RX9, "clashes", "(II)Z"⟩
abbrev cX9_light : ByteArray := prog_11_method_20_code
def yX9_light : MethodName := ⟨RX9, "light", "(III)Z"⟩
abbrev cX9_near : ByteArray := prog_11_method_21_code
def yX9_near : MethodName := ⟨RX9, "near", "(I)Z"⟩
abbrev cX9_alike : ByteArray := prog_11_method_22_code
def yX9_alike : MethodName := ⟨RX9, "alike", "(II)I"⟩
abbrev cX9_warn : ByteArray := prog_11_method_23_code
def yX9_warn : MethodName := ⟨RX9, "warn", "(II)I"⟩
abbrev cX9_cancel : ByteArray := prog_11_method_24_code
def yX9_cancel : MethodName := ⟨RX9, "cancel", "(I)Z"⟩
abbrev cX9_isForce : ByteArray := prog_11_method_25_code
def yX9_isForce : MethodName := ⟨RX9, "isForce", "(II)Z"⟩
abbrev cX9_list : ByteArray := prog_11_method_26_code
def yX9_list : MethodName := ⟨RX9, "list", "(I)I"⟩
abbrev cX9_listed : ByteArray := prog_11_method_27_code
def yX9_listed : MethodName := ⟨RX9, "listed", "(II)I"⟩
abbrev cX9_warning : ByteArray := prog_11_method_28_code
def yX9_warning : MethodName := ⟨RX9, "warning", "(II)I"⟩
abbrev cX9_job : ByteArray := prog_11_method_29_code
def yX9_job : MethodName := ⟨RX9, "job", "(IIII)Z"⟩
abbrev cX9_weather : ByteArray := prog_11_method_30_code
def yX9_weather : MethodName := ⟨RX9, "weather", "(III)Z"⟩
abbrev cX9_ship : ByteArray := prog_11_method_31_code
def yX9_ship : MethodName := ⟨RX9, "ship", "(IIII)Z"⟩
abbrev cX9_at : ByteArray := prog_11_method_32_code
def yX9_at : MethodName := ⟨RX9, "at", "(IIII)Z"⟩
abbrev cX9_greater : ByteArray := prog_11_method_33_code
def yX9_greater : MethodName := ⟨RX9, "greater", "(II)I"⟩
abbrev cX9_way : ByteArray := prog_11_method_34_code
def yX9_way : MethodName := ⟨RX9, "way", "(II)I"⟩
abbrev cX9_begins : ByteArray := prog_11_method_35_code
def yX9_begins : MethodName := ⟨RX9, "begins", "(II)I"⟩
abbrev cX9_sums : ByteArray := prog_11_method_36_code
def yX9_sums : MethodName := ⟨RX9, "sums", "()V"⟩
abbrev cX9_goesOn : ByteArray := prog_11_method_37_code
def yX9_goesOn : MethodName := ⟨RX9, "goesOn", "(III)V"⟩
abbrev cX9_back : ByteArray := prog_11_method_38_code
def yX9_back : MethodName := ⟨RX9, "back", "(III)V"⟩
abbrev cX9_steps : ByteArray := prog_11_method_39_code
def yX9_steps : MethodName := ⟨RX9, "steps", "(III)V"⟩
abbrev cX9_does : ByteArray := prog_11_method_40_code
def yX9_does : MethodName := ⟨RX9, "does", "(IIII)I"⟩
abbrev cX9_rounds : ByteArray := prog_11_method_41_code
def yX9_rounds : MethodName := ⟨RX9, "rounds", "()V"⟩
abbrev cX9_round : ByteArray := prog_11_method_42_code
def yX9_round : MethodName := ⟨RX9, "round", "(I)I"⟩
abbrev cX9_about : ByteArray := prog_11_method_43_code
def yX9_about : MethodName := ⟨RX9, "about", "(I)I"⟩
def RJ9 : String := "java/lang/Math"
def TJ9 : u_T := fun k => match k with
  | _ => ("", "", "", false)
def tyJ9 : Nat → FieldType := fun k => match k with
  | _ => .int
abbrev wsJ90 : List Cond := u_ws RJ9 TJ9 0
theorem nmJ9 : ∀ a, a < 0 → ∀ b, b < 0 → a ≠ b → (TJ9 a).2.1 ≠ (TJ9 b).2.1 := by decide +kernel
theorem tyJ9_ok : ∀ k, k < 0 → parseFieldDescriptor (TJ9 k).2.2.1 = some (tyJ9 k) := by decide +kernel
abbrev cJ9_abs_0f7a4 : ByteArray := prog_12_method_59_code
def yJ9_abs_0f7a4 : MethodName := ⟨RJ9, "abs", "(I)I"⟩
abbrev cJ9_max_7cf53 : ByteArray := prog_12_method_65_code
def yJ9_max_7cf53 : MethodName := ⟨RJ9, "max", "(II)I"⟩
abbrev cJ9_min_7cf53 : ByteArray := prog_12_method_69_code
def yJ9_min_7cf53 : MethodName := ⟨RJ9, "min", "(II)I"⟩
def RJ10 : String := "java/lang/System"
def TJ10 : u_T := fun k => match k with
  | _ => ("", "", "", false)
def tyJ10 : Nat → FieldType := fun k => match k with
  | _ => .int
abbrev wsJ100 : List Cond := u_ws RJ10 TJ10 0
theorem nmJ10 : ∀ a, a < 0 → ∀ b, b < 0 → a ≠ b → (TJ10 a).2.1 ≠ (TJ10 b).2.1 := by decide +kernel
theorem tyJ10_ok : ∀ k, k < 0 → parseFieldDescriptor (TJ10 k).2.2.1 = some (tyJ10 k) := by decide +kernel
def RJ7 : String := "java/util/Arrays"
def TJ7 : u_T := fun k => match k with
  | _ => ("", "", "", false)
def tyJ7 : Nat → FieldType := fun k => match k with
  | _ => .int
abbrev wsJ70 : List Cond := u_ws RJ7 TJ7 0
theorem nmJ7 : ∀ a, a < 0 → ∀ b, b < 0 → a ≠ b → (TJ7 a).2.1 ≠ (TJ7 b).2.1 := by decide +kernel
theorem tyJ7_ok : ∀ k, k < 0 → parseFieldDescriptor (TJ7 k).2.2.1 = some (tyJ7 k) := by decide +kernel
abbrev cJ7_fill_d0a16 : ByteArray := prog_14_method_101_code
def yJ7_fill_d0a16 : MethodName := ⟨RJ7, "fill", "([JJ)V"⟩
def RL : String := "BuoyTenderLaw"
def wsX0_init : List Cond := .code yX0_init cX0_init 1 none :: ([.methodLink RX0 3 objectInit, .instanceMethod objectInit, .code objectInit ⟨#[0xb1]⟩ 1 none])
def wsX0_lay : List Cond := .code yX0_lay cX0_lay 5 none :: ([.fieldLink RX0 9 "BuoyTender$Chain" "laid" "Z", .fieldLink RX0 15 "BuoyTender$Chain" "thickness" "I", .fieldLink RX0 19 "BuoyTender$Chain" "least" "I", .fieldLink RX0 22 "BuoyTender$Chain" "kind" "I", .fieldLink RX0 25 "BuoyTender$Chain" "since" "I"] ++ wsX00)
def wsX0_wornIn : List Cond := .code yX0_wornIn cX0_wornIn 4 (some .int) :: ([.fieldLink RX0 22 "BuoyTender$Chain" "kind" "I"] ++ wsX00)
def wsX0_leftBehind : List Cond := .code yX0_leftBehind cX0_leftBehind 5 (some .int) :: ([.fieldLink RX0 15 "BuoyTender$Chain" "thickness" "I", .fieldLink RX0 25 "BuoyTender$Chain" "since" "I", .methodLink RX0 28 yX0_wornIn, .instanceMethod yX0_wornIn, .selects RX0 yX0_wornIn yX0_wornIn, .initialized RX0, .code yX0_wornIn cX0_wornIn 4 (some .int), .fieldLink RX0 22 "BuoyTender$Chain" "kind" "I"] ++ wsX00)
def wsX0_lifeEnds : List Cond := .code yX0_lifeEnds cX0_lifeEnds 4 (some .int) :: ([.fieldLink RX0 15 "BuoyTender$Chain" "thickness" "I", .fieldLink RX0 25 "BuoyTender$Chain" "since" "I", .fieldLink RX0 19 "BuoyTender$Chain" "least" "I", .methodLink RX0 28 yX0_wornIn, .instanceMethod yX0_wornIn, .selects RX0 yX0_wornIn yX0_wornIn, .initialized RX0, .code yX0_wornIn cX0_wornIn 4 (some .int), .fieldLink RX0 22 "BuoyTender$Chain" "kind" "I"] ++ wsX00)
def wsX5_init : List Cond := .code yX5_init cX5_init 1 none :: ([.methodLink RX5 3 objectInit, .instanceMethod objectInit, .code objectInit ⟨#[0xb1]⟩ 1 none, .arrayClass .long, .fieldLink RX5 9 "BuoyTender$Sighting" "ruledOut" "[J", .fieldLink RX5 15 "BuoyTender$Sighting" "deepest" "I"] ++ wsX50)
def wsX3_init : List Cond := .code yX3_init cX3_init 1 none :: ([.methodLink RX3 3 objectInit, .instanceMethod objectInit, .code objectInit ⟨#[0xb1]⟩ 1 none, .arrayClass .int, .fieldLink RX3 9 "BuoyTender$Rhythm" "steps" "[I"] ++ wsX30)
def wsX1_init_r1 : List Cond := [Cond.methodLink RX1 1 objectInit, Cond.instanceMethod objectInit, Cond.code objectInit ⟨#[0xb1]⟩ 1 none, Cond.classLink RX1 7 RX5, Cond.instantiable RX5 4, Cond.initialized RX5, Cond.fieldLink RX1 10 "BuoyTender$Mark" "sighting" "LBuoyTender$Sighting;", Cond.classLink RX1 16 RX0, Cond.instantiable RX0 5, Cond.initialized RX0, Cond.fieldLink RX1 19 "BuoyTender$Mark" "chain" "LBuoyTender$Chain;", Cond.classLink RX1 23 RX3, Cond.instantiable RX3 2, Cond.initialized RX3, Cond.fieldLink RX1 26 "BuoyTender$Mark" "rhythm" "LBuoyTender$Rhythm;", Cond.fieldLink RX1 30 "BuoyTender$Mark" "x" "I", Cond.fieldLink RX1 34 "BuoyTender$Mark" "y" "I", Cond.fieldLink RX1 37 "BuoyTender$Mark" "radius" "I", Cond.instanceMethod yX5_init, Cond.code yX5_init cX5_init 1 none, Cond.methodLink RX5 3 objectInit, Cond.arrayClass .long, Cond.fieldLink RX5 9 "BuoyTender$Sighting" "ruledOut" "[J", Cond.fieldLink RX5 15 "BuoyTender$Sighting" "deepest" "I"]
def wsX1_init_r2 : List Cond := [Cond.instanceMethod yX0_init, Cond.code yX0_init cX0_init 1 none, Cond.methodLink RX0 3 objectInit, Cond.instanceMethod yX3_init, Cond.code yX3_init cX3_init 1 none, Cond.methodLink RX3 3 objectInit, Cond.arrayClass .int, Cond.fieldLink RX3 9 "BuoyTender$Rhythm" "steps" "[I"]
def wsX1_init : List Cond := .code yX1_init cX1_init 4 none :: ((wsX1_init_r1 ++ wsX1_init_r2) ++ wsX50 ++ wsX10 ++ wsX00 ++ wsX30)
def wsX8_squareBetween : List Cond := .code yX8_squareBetween cX8_squareBetween 4 (some .int) :: ([])
def wsX1_isNear : List Cond := .code yX1_isNear cX1_isNear 3 (some .boolean) :: ([.fieldLink RX1 30 "BuoyTender$Mark" "x" "I", .fieldLink RX1 34 "BuoyTender$Mark" "y" "I", .static yX8_squareBetween, .initialized RX8, .code yX8_squareBetween cX8_squareBetween 4 (some .int)] ++ wsX10)
def wsX2_init : List Cond := .code yX2_init cX2_init 1 none :: ([.methodLink RX2 3 objectInit, .instanceMethod objectInit, .code objectInit ⟨#[0xb1]⟩ 1 none, .arrayClass .int, .fieldLink RX2 9 "BuoyTender$Planner" "numbers" "[I", .fieldLink RX2 15 "BuoyTender$Planner" "minutes" "[I", .fieldLink RX2 18 "BuoyTender$Planner" "loads" "[I", .fieldLink RX2 21 "BuoyTender$Planner" "weights" "[I", .fieldLink RX2 24 "BuoyTender$Planner" "ways" "[I", .fieldLink RX2 27 "BuoyTender$Planner" "opensIn" "[I", .fieldLink RX2 30 "BuoyTender$Planner" "openedIn" "[I", .fieldLink RX2 33 "BuoyTender$Planner" "ends" "[I", .fieldLink RX2 36 "BuoyTender$Planner" "backs" "[I", .fieldLink RX2 39 "BuoyTender$Planner" "tried" "[I", .fieldLink RX2 42 "BuoyTender$Planner" "order" "[I", .fieldLink RX2 45 "BuoyTender$Planner" "begins" "[I"] ++ wsX20)
def wsX4_mayBegin : List Cond := .code yX4_mayBegin cX4_mayBegin 3 (some .boolean) :: ([.fieldLink RX4 9 "BuoyTender$Ship" "tides" "[I", .fieldLink RX4 28 "BuoyTender$Ship" "draught" "I", .fieldLink RX4 15 "BuoyTender$Ship" "winds" "[I", .fieldLink RX4 25 "BuoyTender$Ship" "mostWind" "I"] ++ wsX40)
def wsX2_openHours : List Cond := .code yX2_openHours cX2_openHours 7 none :: ([.fieldLink RX2 30 "BuoyTender$Planner" "openedIn" "[I", .fieldLink RX2 27 "BuoyTender$Planner" "opensIn" "[I", .instanceMethod yX4_mayBegin, .initialized RX4, .selects RX4 yX4_mayBegin yX4_mayBegin, .code yX4_mayBegin cX4_mayBegin 3 (some .boolean), .fieldLink RX4 9 "BuoyTender$Ship" "tides" "[I", .fieldLink RX4 28 "BuoyTender$Ship" "draught" "I", .fieldLink RX4 15 "BuoyTender$Ship" "winds" "[I", .fieldLink RX4 25 "BuoyTender$Ship" "mostWind" "I"] ++ wsX20 ++ wsX40)
def wsX2_gather : List Cond := .code yX2_gather cX2_gather 7 none :: ([.fieldLink RX2 76 "BuoyTender$Planner" "count" "I", .fieldLink RX2 9 "BuoyTender$Planner" "numbers" "[I", .fieldLink RX2 15 "BuoyTender$Planner" "minutes" "[I", .fieldLink RX2 18 "BuoyTender$Planner" "loads" "[I", .fieldLink RX2 21 "BuoyTender$Planner" "weights" "[I", .methodLink RX2 95 yX2_openHours, .instanceMethod yX2_openHours, .selects RX2 yX2_openHours yX2_openHours, .initialized RX2, .code yX2_openHours cX2_openHours 7 none, .fieldLink RX2 30 "BuoyTender$Planner" "openedIn" "[I", .fieldLink RX2 27 "BuoyTender$Planner" "opensIn" "[I", .instanceMethod yX4_mayBegin, .initialized RX4, .selects RX4 yX4_mayBegin yX4_mayBegin, .code yX4_mayBegin cX4_mayBegin 3 (some .boolean), .fieldLink RX4 9 "BuoyTender$Ship" "tides" "[I", .fieldLink RX4 28 "BuoyTender$Ship" "draught" "I", .fieldLink RX4 15 "BuoyTender$Ship" "winds" "[I", .fieldLink RX4 25 "BuoyTender$Ship" "mostWind" "I"] ++ wsX20 ++ wsX10 ++ wsX40)
def wsX2_markOfJob : List Cond := .code yX2_markOfJob cX2_markOfJob 4 (some (.object "BuoyTender$Mark")) :: ([.fieldLink RX2 9 "BuoyTender$Planner" "numbers" "[I"] ++ wsX20)
def wsX2_way : List Cond := .code yX2_way cX2_way 4 (some .int) :: ([.methodLink RX2 115 Lib.Math.abs.name, .static Lib.Math.abs.name, .initialized "java/lang/Math", .code Lib.Math.abs.name Lib.Math.abs.code 1 (some .int), .methodLink RX2 121 Lib.Math.max.name, .static Lib.Math.max.name, .code Lib.Math.max.name Lib.Math.max.code 2 (some .int)] ++ wsX10 ++ wsX40)
def wsX2_measure : List Cond := .code yX2_measure cX2_measure 7 none :: ([.fieldLink RX2 76 "BuoyTender$Planner" "count" "I", .fieldLink RX2 24 "BuoyTender$Planner" "ways" "[I", .methodLink RX2 105 yX2_markOfJob, .instanceMethod yX2_markOfJob, .selects RX2 yX2_markOfJob yX2_markOfJob, .initialized RX2, .code yX2_markOfJob cX2_markOfJob 4 (some (.object "BuoyTender$Mark")), .fieldLink RX2 9 "BuoyTender$Planner" "numbers" "[I", .methodLink RX2 109 yX2_way, .static yX2_way, .code yX2_way cX2_way 4 (some .int), .methodLink RX2 115 Lib.Math.abs.name, .static Lib.Math.abs.name, .initialized "java/lang/Math", .code Lib.Math.abs.name Lib.Math.abs.code 1 (some .int), .methodLink RX2 121 Lib.Math.max.name, .static Lib.Math.max.name, .code Lib.Math.max.name Lib.Math.max.code 2 (some .int)] ++ wsX20 ++ wsX10 ++ wsX40)
def wsX2_isIn : List Cond := .code yX2_isIn cX2_isIn 2 (some .boolean) :: ([])
def wsX2_sumOver : List Cond := .code yX2_sumOver cX2_sumOver 5 (some .int) :: ([.fieldLink RX2 76 "BuoyTender$Planner" "count" "I", .methodLink RX2 128 yX2_isIn, .static yX2_isIn, .initialized RX2, .code yX2_isIn cX2_isIn 2 (some .boolean)] ++ wsX20)
def wsX2_without : List Cond := .code yX2_without cX2_without 2 (some .int) :: ([])
def wsX2_beginFrom : List Cond := .code yX2_beginFrom cX2_beginFrom 5 (some .int) :: ([.constant RX2 131 (1000000), .fieldLink RX2 27 "BuoyTender$Planner" "opensIn" "[I"] ++ wsX20)
def wsX2_earliestEnd : List Cond := .code yX2_earliestEnd cX2_earliestEnd 7 (some .int) :: ([.fieldLink RX2 24 "BuoyTender$Planner" "ways" "[I", .constant RX2 131 (1000000), .fieldLink RX2 76 "BuoyTender$Planner" "count" "I", .fieldLink RX2 33 "BuoyTender$Planner" "ends" "[I", .methodLink RX2 133 Lib.Math.min.name, .static Lib.Math.min.name, .initialized "java/lang/Math", .code Lib.Math.min.name Lib.Math.min.code 2 (some .int), .fieldLink RX2 15 "BuoyTender$Planner" "minutes" "[I", .methodLink RX2 153 yX2_without, .static yX2_without, .initialized RX2, .code yX2_without cX2_without 2 (some .int), .methodLink RX2 128 yX2_isIn, .static yX2_isIn, .code yX2_isIn cX2_isIn 2 (some .boolean), .methodLink RX2 156 yX2_beginFrom, .instanceMethod yX2_beginFrom, .selects RX2 yX2_beginFrom yX2_beginFrom, .code yX2_beginFrom cX2_beginFrom 5 (some .int), .fieldLink RX2 27 "BuoyTender$Planner" "opensIn" "[I"] ++ wsX40 ++ wsX20)
def wsX2_findEarliestEnds_r1 : List Cond := [Cond.fieldLink RX2 36 "BuoyTender$Planner" "backs" "[I", Cond.fieldLink RX2 76 "BuoyTender$Planner" "count" "I", Cond.constant RX2 131 (1000000), Cond.fieldLink RX2 18 "BuoyTender$Planner" "loads" "[I", Cond.fieldLink RX2 33 "BuoyTender$Planner" "ends" "[I", Cond.fieldLink RX2 24 "BuoyTender$Planner" "ways" "[I", Cond.methodLink RX2 133 Lib.Math.min.name, Cond.static Lib.Math.min.name, Cond.initialized "java/lang/Math", Cond.code Lib.Math.min.name Lib.Math.min.code 2 (some .int), Cond.methodLink RX2 139 yX2_sumOver, Cond.instanceMethod yX2_sumOver, Cond.selects RX2 yX2_sumOver yX2_sumOver, Cond.initialized RX2, Cond.code yX2_sumOver cX2_sumOver 5 (some .int), Cond.methodLink RX2 128 yX2_isIn, Cond.static yX2_isIn, Cond.code yX2_isIn cX2_isIn 2 (some .boolean), Cond.methodLink RX2 146 yX2_earliestEnd, Cond.instanceMethod yX2_earliestEnd, Cond.selects RX2 yX2_earliestEnd yX2_earliestEnd, Cond.code yX2_earliestEnd cX2_earliestEnd 7 (some .int), Cond.fieldLink RX2 15 "BuoyTender$Planner" "minutes" "[I", Cond.methodLink RX2 153 yX2_without]
def wsX2_findEarliestEnds_r2 : List Cond := [Cond.static yX2_without, Cond.code yX2_without cX2_without 2 (some .int), Cond.methodLink RX2 156 yX2_beginFrom, Cond.instanceMethod yX2_beginFrom, Cond.selects RX2 yX2_beginFrom yX2_beginFrom, Cond.code yX2_beginFrom cX2_beginFrom 5 (some .int), Cond.fieldLink RX2 27 "BuoyTender$Planner" "opensIn" "[I"]
def wsX2_findEarliestEnds : List Cond := .code yX2_findEarliestEnds cX2_findEarliestEnds 7 none :: ((wsX2_findEarliestEnds_r1 ++ wsX2_findEarliestEnds_r2) ++ wsX20 ++ wsX40)
def wsX2_chooseBest : List Cond := .code yX2_chooseBest cX2_chooseBest 3 none :: ([.fieldLink RX2 159 "BuoyTender$Planner" "bestWeight" "I", .fieldLink RX2 36 "BuoyTender$Planner" "backs" "[I", .fieldLink RX2 162 "BuoyTender$Planner" "bestBack" "I", .fieldLink RX2 76 "BuoyTender$Planner" "count" "I", .constant RX2 131 (1000000), .fieldLink RX2 21 "BuoyTender$Planner" "weights" "[I", .methodLink RX2 139 yX2_sumOver, .instanceMethod yX2_sumOver, .selects RX2 yX2_sumOver yX2_sumOver, .initialized RX2, .code yX2_sumOver cX2_sumOver 5 (some .int), .methodLink RX2 128 yX2_isIn, .static yX2_isIn, .code yX2_isIn cX2_isIn 2 (some .boolean)] ++ wsX20)
def wsX2_beginUpTo : List Cond := .code yX2_beginUpTo cX2_beginUpTo 6 (some .int) :: ([.constant RX2 132 (-1000000), .methodLink RX2 133 Lib.Math.min.name, .static Lib.Math.min.name, .initialized "java/lang/Math", .code Lib.Math.min.name Lib.Math.min.code 2 (some .int), .fieldLink RX2 30 "BuoyTender$Planner" "openedIn" "[I"] ++ wsX20)
def wsX2_latestEnd_r1 : List Cond := [Cond.fieldLink RX2 162 "BuoyTender$Planner" "bestBack" "I", Cond.fieldLink RX2 24 "BuoyTender$Planner" "ways" "[I", Cond.constant RX2 132 (-1000000), Cond.fieldLink RX2 76 "BuoyTender$Planner" "count" "I", Cond.fieldLink RX2 33 "BuoyTender$Planner" "ends" "[I", Cond.fieldLink RX2 15 "BuoyTender$Planner" "minutes" "[I", Cond.methodLink RX2 121 Lib.Math.max.name, Cond.static Lib.Math.max.name, Cond.initialized "java/lang/Math", Cond.code Lib.Math.max.name Lib.Math.max.code 2 (some .int), Cond.methodLink RX2 128 yX2_isIn, Cond.static yX2_isIn, Cond.initialized RX2, Cond.code yX2_isIn cX2_isIn 2 (some .boolean), Cond.methodLink RX2 153 yX2_without, Cond.static yX2_without, Cond.code yX2_without cX2_without 2 (some .int), Cond.methodLink RX2 168 yX2_beginUpTo, Cond.instanceMethod yX2_beginUpTo, Cond.selects RX2 yX2_beginUpTo yX2_beginUpTo, Cond.code yX2_beginUpTo cX2_beginUpTo 6 (some .int), Cond.methodLink RX2 133 Lib.Math.min.name, Cond.static Lib.Math.min.name, Cond.code Lib.Math.min.name Lib.Math.min.code 2 (some .int)]
def wsX2_latestEnd_r2 : List Cond := [Cond.fieldLink RX2 30 "BuoyTender$Planner" "openedIn" "[I"]
def wsX2_latestEnd : List Cond := .code yX2_latestEnd cX2_latestEnd 6 (some .int) :: ((wsX2_latestEnd_r1 ++ wsX2_latestEnd_r2) ++ wsX20)
def wsX2_findLatestEnds_r1 : List Cond := [Cond.fieldLink RX2 76 "BuoyTender$Planner" "count" "I", Cond.fieldLink RX2 33 "BuoyTender$Planner" "ends" "[I", Cond.constant RX2 132 (-1000000), Cond.methodLink RX2 128 yX2_isIn, Cond.static yX2_isIn, Cond.initialized RX2, Cond.code yX2_isIn cX2_isIn 2 (some .boolean), Cond.methodLink RX2 165 yX2_latestEnd, Cond.instanceMethod yX2_latestEnd, Cond.selects RX2 yX2_latestEnd yX2_latestEnd, Cond.code yX2_latestEnd cX2_latestEnd 6 (some .int), Cond.fieldLink RX2 162 "BuoyTender$Planner" "bestBack" "I", Cond.fieldLink RX2 24 "BuoyTender$Planner" "ways" "[I", Cond.fieldLink RX2 15 "BuoyTender$Planner" "minutes" "[I", Cond.methodLink RX2 121 Lib.Math.max.name, Cond.static Lib.Math.max.name, Cond.initialized "java/lang/Math", Cond.code Lib.Math.max.name Lib.Math.max.code 2 (some .int), Cond.methodLink RX2 153 yX2_without, Cond.static yX2_without, Cond.code yX2_without cX2_without 2 (some .int), Cond.methodLink RX2 168 yX2_beginUpTo, Cond.instanceMethod yX2_beginUpTo, Cond.selects RX2 yX2_beginUpTo yX2_beginUpTo]
def wsX2_findLatestEnds_r2 : List Cond := [Cond.code yX2_beginUpTo cX2_beginUpTo 6 (some .int), Cond.methodLink RX2 133 Lib.Math.min.name, Cond.static Lib.Math.min.name, Cond.code Lib.Math.min.name Lib.Math.min.code 2 (some .int), Cond.fieldLink RX2 30 "BuoyTender$Planner" "openedIn" "[I"]
def wsX2_findLatestEnds : List Cond := .code yX2_findLatestEnds cX2_findLatestEnds 3 none :: ((wsX2_findLatestEnds_r1 ++ wsX2_findLatestEnds_r2) ++ wsX20)
def wsX2_lowestNext : List Cond := .code yX2_lowestNext cX2_lowestNext 6 (some .int) :: ([.fieldLink RX2 76 "BuoyTender$Planner" "count" "I", .fieldLink RX2 24 "BuoyTender$Planner" "ways" "[I", .fieldLink RX2 15 "BuoyTender$Planner" "minutes" "[I", .fieldLink RX2 33 "BuoyTender$Planner" "ends" "[I", .methodLink RX2 128 yX2_isIn, .static yX2_isIn, .initialized RX2, .code yX2_isIn cX2_isIn 2 (some .boolean), .methodLink RX2 156 yX2_beginFrom, .instanceMethod yX2_beginFrom, .selects RX2 yX2_beginFrom yX2_beginFrom, .code yX2_beginFrom cX2_beginFrom 5 (some .int), .constant RX2 131 (1000000), .fieldLink RX2 27 "BuoyTender$Planner" "opensIn" "[I", .methodLink RX2 153 yX2_without, .static yX2_without, .code yX2_without cX2_without 2 (some .int)] ++ wsX20)
def wsX2_tryFirstOrder : List Cond := .code yX2_tryFirstOrder cX2_tryFirstOrder 9 (some .int) :: ([.fieldLink RX2 76 "BuoyTender$Planner" "count" "I", .fieldLink RX2 39 "BuoyTender$Planner" "tried" "[I", .fieldLink RX2 24 "BuoyTender$Planner" "ways" "[I", .fieldLink RX2 15 "BuoyTender$Planner" "minutes" "[I", .methodLink RX2 185 yX2_lowestNext, .instanceMethod yX2_lowestNext, .selects RX2 yX2_lowestNext yX2_lowestNext, .initialized RX2, .code yX2_lowestNext cX2_lowestNext 6 (some .int), .fieldLink RX2 33 "BuoyTender$Planner" "ends" "[I", .methodLink RX2 128 yX2_isIn, .static yX2_isIn, .code yX2_isIn cX2_isIn 2 (some .boolean), .methodLink RX2 156 yX2_beginFrom, .instanceMethod yX2_beginFrom, .selects RX2 yX2_beginFrom yX2_beginFrom, .code yX2_beginFrom cX2_beginFrom 5 (some .int), .constant RX2 131 (1000000), .fieldLink RX2 27 "BuoyTender$Planner" "opensIn" "[I", .methodLink RX2 153 yX2_without, .static yX2_without, .code yX2_without cX2_without 2 (some .int)] ++ wsX40 ++ wsX20)
def wsX2_isTriedFirst : List Cond := .code yX2_isTriedFirst cX2_isTriedFirst 3 (some .boolean) :: ([.fieldLink RX2 72 "BuoyTender$Planner" "length" "I", .fieldLink RX2 39 "BuoyTender$Planner" "tried" "[I", .fieldLink RX2 42 "BuoyTender$Planner" "order" "[I"] ++ wsX20)
def wsX2_chooseOrder_r1 : List Cond := [Cond.fieldLink RX2 72 "BuoyTender$Planner" "length" "I", Cond.fieldLink RX2 76 "BuoyTender$Planner" "count" "I", Cond.fieldLink RX2 36 "BuoyTender$Planner" "backs" "[I", Cond.fieldLink RX2 162 "BuoyTender$Planner" "bestBack" "I", Cond.fieldLink RX2 21 "BuoyTender$Planner" "weights" "[I", Cond.fieldLink RX2 159 "BuoyTender$Planner" "bestWeight" "I", Cond.fieldLink RX2 39 "BuoyTender$Planner" "tried" "[I", Cond.fieldLink RX2 42 "BuoyTender$Planner" "order" "[I", Cond.methodLink RX2 179 arraycopyName, Cond.native arraycopyName, Cond.static arraycopyName, Cond.initialized "java/lang/System", Cond.methodLink RX2 139 yX2_sumOver, Cond.instanceMethod yX2_sumOver, Cond.selects RX2 yX2_sumOver yX2_sumOver, Cond.initialized RX2, Cond.code yX2_sumOver cX2_sumOver 5 (some .int), Cond.methodLink RX2 128 yX2_isIn, Cond.static yX2_isIn, Cond.code yX2_isIn cX2_isIn 2 (some .boolean), Cond.methodLink RX2 171 yX2_tryFirstOrder, Cond.instanceMethod yX2_tryFirstOrder, Cond.selects RX2 yX2_tryFirstOrder yX2_tryFirstOrder, Cond.code yX2_tryFirstOrder cX2_tryFirstOrder 9 (some .int)]
def wsX2_chooseOrder_r2 : List Cond := [Cond.fieldLink RX2 24 "BuoyTender$Planner" "ways" "[I", Cond.fieldLink RX2 15 "BuoyTender$Planner" "minutes" "[I", Cond.methodLink RX2 185 yX2_lowestNext, Cond.instanceMethod yX2_lowestNext, Cond.selects RX2 yX2_lowestNext yX2_lowestNext, Cond.code yX2_lowestNext cX2_lowestNext 6 (some .int), Cond.fieldLink RX2 33 "BuoyTender$Planner" "ends" "[I", Cond.methodLink RX2 156 yX2_beginFrom, Cond.instanceMethod yX2_beginFrom, Cond.selects RX2 yX2_beginFrom yX2_beginFrom, Cond.code yX2_beginFrom cX2_beginFrom 5 (some .int), Cond.constant RX2 131 (1000000), Cond.fieldLink RX2 27 "BuoyTender$Planner" "opensIn" "[I", Cond.methodLink RX2 153 yX2_without, Cond.static yX2_without, Cond.code yX2_without cX2_without 2 (some .int), Cond.methodLink RX2 175 yX2_isTriedFirst, Cond.instanceMethod yX2_isTriedFirst, Cond.selects RX2 yX2_isTriedFirst yX2_isTriedFirst, Cond.code yX2_isTriedFirst cX2_isTriedFirst 3 (some .boolean)]
def wsX2_chooseOrder : List Cond := .code yX2_chooseOrder cX2_chooseOrder 4 none :: ((wsX2_chooseOrder_r1 ++ wsX2_chooseOrder_r2) ++ wsX20 ++ wsX40)
def wsX2_timeOrder : List Cond := .code yX2_timeOrder cX2_timeOrder 6 none :: ([.fieldLink RX2 72 "BuoyTender$Planner" "length" "I", .fieldLink RX2 42 "BuoyTender$Planner" "order" "[I", .fieldLink RX2 45 "BuoyTender$Planner" "begins" "[I", .fieldLink RX2 24 "BuoyTender$Planner" "ways" "[I", .fieldLink RX2 15 "BuoyTender$Planner" "minutes" "[I", .methodLink RX2 156 yX2_beginFrom, .instanceMethod yX2_beginFrom, .selects RX2 yX2_beginFrom yX2_beginFrom, .initialized RX2, .code yX2_beginFrom cX2_beginFrom 5 (some .int), .constant RX2 131 (1000000), .fieldLink RX2 27 "BuoyTender$Planner" "opensIn" "[I"] ++ wsX40 ++ wsX20)
def wsX2_plan_r1 : List Cond := [Cond.methodLink RX2 48 yX2_gather, Cond.instanceMethod yX2_gather, Cond.selects RX2 yX2_gather yX2_gather, Cond.initialized RX2, Cond.code yX2_gather cX2_gather 7 none, Cond.fieldLink RX2 76 "BuoyTender$Planner" "count" "I", Cond.fieldLink RX2 9 "BuoyTender$Planner" "numbers" "[I", Cond.fieldLink RX2 15 "BuoyTender$Planner" "minutes" "[I", Cond.fieldLink RX2 18 "BuoyTender$Planner" "loads" "[I", Cond.fieldLink RX2 21 "BuoyTender$Planner" "weights" "[I", Cond.methodLink RX2 95 yX2_openHours, Cond.instanceMethod yX2_openHours, Cond.selects RX2 yX2_openHours yX2_openHours, Cond.code yX2_openHours cX2_openHours 7 none, Cond.fieldLink RX2 30 "BuoyTender$Planner" "openedIn" "[I", Cond.fieldLink RX2 27 "BuoyTender$Planner" "opensIn" "[I", Cond.instanceMethod yX4_mayBegin, Cond.initialized RX4, Cond.selects RX4 yX4_mayBegin yX4_mayBegin, Cond.code yX4_mayBegin cX4_mayBegin 3 (some .boolean), Cond.fieldLink RX4 9 "BuoyTender$Ship" "tides" "[I", Cond.fieldLink RX4 28 "BuoyTender$Ship" "draught" "I", Cond.fieldLink RX4 15 "BuoyTender$Ship" "winds" "[I", Cond.fieldLink RX4 25 "BuoyTender$Ship" "mostWind" "I"]
def wsX2_plan_r2 : List Cond := [Cond.methodLink RX2 52 yX2_measure, Cond.instanceMethod yX2_measure, Cond.selects RX2 yX2_measure yX2_measure, Cond.code yX2_measure cX2_measure 7 none, Cond.fieldLink RX2 24 "BuoyTender$Planner" "ways" "[I", Cond.methodLink RX2 105 yX2_markOfJob, Cond.instanceMethod yX2_markOfJob, Cond.selects RX2 yX2_markOfJob yX2_markOfJob, Cond.code yX2_markOfJob cX2_markOfJob 4 (some (.object "BuoyTender$Mark")), Cond.methodLink RX2 109 yX2_way, Cond.static yX2_way, Cond.code yX2_way cX2_way 4 (some .int), Cond.methodLink RX2 115 Lib.Math.abs.name, Cond.static Lib.Math.abs.name, Cond.initialized "java/lang/Math", Cond.code Lib.Math.abs.name Lib.Math.abs.code 1 (some .int), Cond.methodLink RX2 121 Lib.Math.max.name, Cond.static Lib.Math.max.name, Cond.code Lib.Math.max.name Lib.Math.max.code 2 (some .int), Cond.methodLink RX2 56 yX2_findEarliestEnds, Cond.instanceMethod yX2_findEarliestEnds, Cond.selects RX2 yX2_findEarliestEnds yX2_findEarliestEnds, Cond.code yX2_findEarliestEnds cX2_findEarliestEnds 7 none, Cond.fieldLink RX2 36 "BuoyTender$Planner" "backs" "[I"]
def wsX2_plan_r3 : List Cond := [Cond.constant RX2 131 (1000000), Cond.fieldLink RX2 33 "BuoyTender$Planner" "ends" "[I", Cond.methodLink RX2 133 Lib.Math.min.name, Cond.static Lib.Math.min.name, Cond.code Lib.Math.min.name Lib.Math.min.code 2 (some .int), Cond.methodLink RX2 139 yX2_sumOver, Cond.instanceMethod yX2_sumOver, Cond.selects RX2 yX2_sumOver yX2_sumOver, Cond.code yX2_sumOver cX2_sumOver 5 (some .int), Cond.methodLink RX2 128 yX2_isIn, Cond.static yX2_isIn, Cond.code yX2_isIn cX2_isIn 2 (some .boolean), Cond.methodLink RX2 146 yX2_earliestEnd, Cond.instanceMethod yX2_earliestEnd, Cond.selects RX2 yX2_earliestEnd yX2_earliestEnd, Cond.code yX2_earliestEnd cX2_earliestEnd 7 (some .int), Cond.methodLink RX2 153 yX2_without, Cond.static yX2_without, Cond.code yX2_without cX2_without 2 (some .int), Cond.methodLink RX2 156 yX2_beginFrom, Cond.instanceMethod yX2_beginFrom, Cond.selects RX2 yX2_beginFrom yX2_beginFrom, Cond.code yX2_beginFrom cX2_beginFrom 5 (some .int), Cond.methodLink RX2 60 yX2_chooseBest]
def wsX2_plan_r4 : List Cond := [Cond.instanceMethod yX2_chooseBest, Cond.selects RX2 yX2_chooseBest yX2_chooseBest, Cond.code yX2_chooseBest cX2_chooseBest 3 none, Cond.fieldLink RX2 159 "BuoyTender$Planner" "bestWeight" "I", Cond.fieldLink RX2 162 "BuoyTender$Planner" "bestBack" "I", Cond.methodLink RX2 63 yX2_findLatestEnds, Cond.instanceMethod yX2_findLatestEnds, Cond.selects RX2 yX2_findLatestEnds yX2_findLatestEnds, Cond.code yX2_findLatestEnds cX2_findLatestEnds 3 none, Cond.constant RX2 132 (-1000000), Cond.methodLink RX2 165 yX2_latestEnd, Cond.instanceMethod yX2_latestEnd, Cond.selects RX2 yX2_latestEnd yX2_latestEnd, Cond.code yX2_latestEnd cX2_latestEnd 6 (some .int), Cond.methodLink RX2 168 yX2_beginUpTo, Cond.instanceMethod yX2_beginUpTo, Cond.selects RX2 yX2_beginUpTo yX2_beginUpTo, Cond.code yX2_beginUpTo cX2_beginUpTo 6 (some .int), Cond.methodLink RX2 66 yX2_chooseOrder, Cond.instanceMethod yX2_chooseOrder, Cond.selects RX2 yX2_chooseOrder yX2_chooseOrder, Cond.code yX2_chooseOrder cX2_chooseOrder 4 none, Cond.fieldLink RX2 72 "BuoyTender$Planner" "length" "I", Cond.fieldLink RX2 39 "BuoyTender$Planner" "tried" "[I"]
def wsX2_plan_r5 : List Cond := [Cond.fieldLink RX2 42 "BuoyTender$Planner" "order" "[I", Cond.methodLink RX2 179 arraycopyName, Cond.native arraycopyName, Cond.static arraycopyName, Cond.initialized "java/lang/System", Cond.methodLink RX2 171 yX2_tryFirstOrder, Cond.instanceMethod yX2_tryFirstOrder, Cond.selects RX2 yX2_tryFirstOrder yX2_tryFirstOrder, Cond.code yX2_tryFirstOrder cX2_tryFirstOrder 9 (some .int), Cond.methodLink RX2 185 yX2_lowestNext, Cond.instanceMethod yX2_lowestNext, Cond.selects RX2 yX2_lowestNext yX2_lowestNext, Cond.code yX2_lowestNext cX2_lowestNext 6 (some .int), Cond.methodLink RX2 175 yX2_isTriedFirst, Cond.instanceMethod yX2_isTriedFirst, Cond.selects RX2 yX2_isTriedFirst yX2_isTriedFirst, Cond.code yX2_isTriedFirst cX2_isTriedFirst 3 (some .boolean), Cond.methodLink RX2 69 yX2_timeOrder, Cond.instanceMethod yX2_timeOrder, Cond.selects RX2 yX2_timeOrder yX2_timeOrder, Cond.code yX2_timeOrder cX2_timeOrder 6 none, Cond.fieldLink RX2 45 "BuoyTender$Planner" "begins" "[I"]
def wsX2_plan : List Cond := .code yX2_plan cX2_plan 4 none :: ((wsX2_plan_r1 ++ (wsX2_plan_r2 ++ (wsX2_plan_r3 ++ (wsX2_plan_r4 ++ wsX2_plan_r5)))) ++ wsX20 ++ wsX10 ++ wsX40)
def wsX2_loadDone : List Cond := .code yX2_loadDone cX2_loadDone 3 (some .int) :: ([.fieldLink RX2 72 "BuoyTender$Planner" "length" "I", .fieldLink RX2 18 "BuoyTender$Planner" "loads" "[I", .fieldLink RX2 42 "BuoyTender$Planner" "order" "[I"] ++ wsX20)
def wsX2_step : List Cond := .code yX2_step cX2_step 2 (some .int) :: ([.fieldLink RX2 72 "BuoyTender$Planner" "length" "I", .fieldLink RX2 9 "BuoyTender$Planner" "numbers" "[I", .fieldLink RX2 42 "BuoyTender$Planner" "order" "[I", .fieldLink RX2 45 "BuoyTender$Planner" "begins" "[I"] ++ wsX20)
def wsX3_isLit : List Cond := .code yX3_isLit cX3_isLit 1 (some .boolean) :: ([.fieldLink RX3 15 "BuoyTender$Rhythm" "many" "I"] ++ wsX30)
def wsX3_goDark : List Cond := .code yX3_goDark cX3_goDark 1 none :: ([.fieldLink RX3 15 "BuoyTender$Rhythm" "many" "I"] ++ wsX30)
def wsX8_within : List Cond := .code yX8_within cX8_within 3 (some .boolean) :: ([])
def wsX3_read : List Cond := .code yX3_read cX3_read 6 (some .boolean) :: ([.fieldLink RX3 9 "BuoyTender$Rhythm" "steps" "[I", .fieldLink RX3 15 "BuoyTender$Rhythm" "many" "I", .static yX8_within, .initialized RX8, .code yX8_within cX8_within 3 (some .boolean)] ++ wsX30)
def wsX3_copyFrom : List Cond := .code yX3_copyFrom cX3_copyFrom 2 none :: ([.fieldLink RX3 9 "BuoyTender$Rhythm" "steps" "[I", .methodLink RX3 23 arraycopyName, .native arraycopyName, .static arraycopyName, .initialized "java/lang/System", .fieldLink RX3 15 "BuoyTender$Rhythm" "many" "I"] ++ wsX30)
def wsX3_matchesTurned : List Cond := .code yX3_matchesTurned cX3_matchesTurned 4 (some .boolean) :: ([.fieldLink RX3 15 "BuoyTender$Rhythm" "many" "I", .fieldLink RX3 9 "BuoyTender$Rhythm" "steps" "[I"] ++ wsX30)
def wsX3_matches : List Cond := .code yX3_matches cX3_matches 3 (some .boolean) :: ([.fieldLink RX3 15 "BuoyTender$Rhythm" "many" "I", .methodLink RX3 29 yX3_matchesTurned, .instanceMethod yX3_matchesTurned, .selects RX3 yX3_matchesTurned yX3_matchesTurned, .initialized RX3, .code yX3_matchesTurned cX3_matchesTurned 4 (some .boolean), .fieldLink RX3 9 "BuoyTender$Rhythm" "steps" "[I"] ++ wsX30)
def wsX4_init : List Cond := .code yX4_init cX4_init 1 none :: ([.methodLink RX4 3 objectInit, .instanceMethod objectInit, .code objectInit ⟨#[0xb1]⟩ 1 none, .arrayClass .int, .fieldLink RX4 9 "BuoyTender$Ship" "tides" "[I", .fieldLink RX4 15 "BuoyTender$Ship" "winds" "[I", .fieldLink RX4 18 "BuoyTender$Ship" "end" "I", .fieldLink RX4 22 "BuoyTender$Ship" "pace" "I", .fieldLink RX4 25 "BuoyTender$Ship" "mostWind" "I"] ++ wsX40)
def wsJ7_fill_d0a16 : List Cond := .code yJ7_fill_d0a16 cJ7_fill_d0a16 5 none :: ([])
def wsX5_begin : List Cond := .code yX5_begin cX5_begin 1 none :: ([.fieldLink RX5 9 "BuoyTender$Sighting" "ruledOut" "[J", .fieldLink RX5 25 "BuoyTender$Sighting" "shallowest" "I", .fieldLink RX5 15 "BuoyTender$Sighting" "deepest" "I", .fieldLink RX5 28 "BuoyTender$Sighting" "told" "Z", .methodLink RX5 19 yJ7_fill_d0a16, .static yJ7_fill_d0a16, .initialized RJ7, .code yJ7_fill_d0a16 cJ7_fill_d0a16 5 none] ++ wsX50)
def wsX5_tellBearing : List Cond := .code yX5_tellBearing cX5_tellBearing 12 none :: ([.fieldLink RX5 9 "BuoyTender$Sighting" "ruledOut" "[J", .fieldLink RX5 28 "BuoyTender$Sighting" "told" "Z"] ++ wsX50)
def wsX5_tellSounding : List Cond := .code yX5_tellSounding cX5_tellSounding 3 none :: ([.fieldLink RX5 25 "BuoyTender$Sighting" "shallowest" "I", .methodLink RX5 32 Lib.Math.max.name, .static Lib.Math.max.name, .initialized "java/lang/Math", .code Lib.Math.max.name Lib.Math.max.code 2 (some .int), .fieldLink RX5 15 "BuoyTender$Sighting" "deepest" "I", .methodLink RX5 38 Lib.Math.min.name, .static Lib.Math.min.name, .code Lib.Math.min.name Lib.Math.min.code 2 (some .int), .fieldLink RX5 28 "BuoyTender$Sighting" "told" "Z"] ++ wsX50)
def wsX6_init : List Cond := .code yX6_init cX6_init 1 none :: ([.methodLink RX6 3 objectInit, .instanceMethod objectInit, .code objectInit ⟨#[0xb1]⟩ 1 none])
def wsX6_count : List Cond := .code yX6_count cX6_count 4 none :: ([.fieldLink RX6 9 "BuoyTender$Survey" "left" "I", .fieldLink RX6 18 "BuoyTender$Survey" "leastX" "I", .methodLink RX6 52 Lib.Math.min.name, .static Lib.Math.min.name, .initialized "java/lang/Math", .code Lib.Math.min.name Lib.Math.min.code 2 (some .int), .fieldLink RX6 21 "BuoyTender$Survey" "leastY" "I", .fieldLink RX6 24 "BuoyTender$Survey" "mostX" "I", .methodLink RX6 58 Lib.Math.max.name, .static Lib.Math.max.name, .code Lib.Math.max.name Lib.Math.max.code 2 (some .int), .fieldLink RX6 27 "BuoyTender$Survey" "mostY" "I", .fieldLink RX6 15 "BuoyTender$Survey" "inRadius" "I", .static yX8_squareBetween, .initialized RX8, .code yX8_squareBetween cX8_squareBetween 4 (some .int)] ++ wsX60 ++ wsX10)
def wsX6_take : List Cond := .code yX6_take cX6_take 8 none :: ([.fieldLink RX6 9 "BuoyTender$Survey" "left" "I", .fieldLink RX6 15 "BuoyTender$Survey" "inRadius" "I", .fieldLink RX6 18 "BuoyTender$Survey" "leastX" "I", .fieldLink RX6 21 "BuoyTender$Survey" "leastY" "I", .fieldLink RX6 24 "BuoyTender$Survey" "mostX" "I", .fieldLink RX6 27 "BuoyTender$Survey" "mostY" "I", .methodLink RX6 48 yX6_count, .instanceMethod yX6_count, .selects RX6 yX6_count yX6_count, .initialized RX6, .code yX6_count cX6_count 4 none, .methodLink RX6 52 Lib.Math.min.name, .static Lib.Math.min.name, .initialized "java/lang/Math", .code Lib.Math.min.name Lib.Math.min.code 2 (some .int), .methodLink RX6 58 Lib.Math.max.name, .static Lib.Math.max.name, .code Lib.Math.max.name Lib.Math.max.code 2 (some .int), .static yX8_squareBetween, .initialized RX8, .code yX8_squareBetween cX8_squareBetween 4 (some .int)] ++ wsX60 ++ wsX10 ++ wsX50)
def wsX6_how : List Cond := .code yX6_how cX6_how 1 (some .int) :: ([.fieldLink RX6 9 "BuoyTender$Survey" "left" "I", .fieldLink RX6 15 "BuoyTender$Survey" "inRadius" "I"] ++ wsX60)
def wsX7_init : List Cond := .code yX7_init cX7_init 1 none :: ([.methodLink RX7 3 objectInit, .instanceMethod objectInit, .code objectInit ⟨#[0xb1]⟩ 1 none, .arrayClass .int, .fieldLink RX7 9 "BuoyTender$Warnings" "markOf" "[I", .fieldLink RX7 15 "BuoyTender$Warnings" "reasonOf" "[I", .fieldLink RX7 18 "BuoyTender$Warnings" "toldOn" "[I", .fieldLink RX7 21 "BuoyTender$Warnings" "cancelledOn" "[I"] ++ wsX70)
def wsX7_has : List Cond := .code yX7_has cX7_has 2 (some .boolean) :: ([.fieldLink RX7 24 "BuoyTender$Warnings" "count" "I"] ++ wsX70)
def wsX7_isOpen : List Cond := .code yX7_isOpen cX7_isOpen 4 (some .boolean) :: ([.fieldLink RX7 24 "BuoyTender$Warnings" "count" "I", .fieldLink RX7 9 "BuoyTender$Warnings" "markOf" "[I", .fieldLink RX7 15 "BuoyTender$Warnings" "reasonOf" "[I", .fieldLink RX7 21 "BuoyTender$Warnings" "cancelledOn" "[I"] ++ wsX70)
def wsX7_tell : List Cond := .code yX7_tell cX7_tell 5 (some .int) :: ([.fieldLink RX7 24 "BuoyTender$Warnings" "count" "I", .fieldLink RX7 9 "BuoyTender$Warnings" "markOf" "[I", .fieldLink RX7 15 "BuoyTender$Warnings" "reasonOf" "[I", .fieldLink RX7 18 "BuoyTender$Warnings" "toldOn" "[I", .fieldLink RX7 21 "BuoyTender$Warnings" "cancelledOn" "[I", .methodLink RX7 28 yX7_isOpen, .instanceMethod yX7_isOpen, .selects RX7 yX7_isOpen yX7_isOpen, .initialized RX7, .code yX7_isOpen cX7_isOpen 4 (some .boolean)] ++ wsX70)
def wsX7_end : List Cond := .code yX7_end cX7_end 3 (some .boolean) :: ([.fieldLink RX7 21 "BuoyTender$Warnings" "cancelledOn" "[I", .methodLink RX7 32 yX7_has, .instanceMethod yX7_has, .selects RX7 yX7_has yX7_has, .initialized RX7, .code yX7_has cX7_has 2 (some .boolean), .fieldLink RX7 24 "BuoyTender$Warnings" "count" "I"] ++ wsX70)
def wsX7_isOutOn : List Cond := .code yX7_isOutOn cX7_isOutOn 3 (some .boolean) :: ([.fieldLink RX7 18 "BuoyTender$Warnings" "toldOn" "[I", .fieldLink RX7 21 "BuoyTender$Warnings" "cancelledOn" "[I"] ++ wsX70)
def wsX7_countOn : List Cond := .code yX7_countOn cX7_countOn 4 (some .int) :: ([.fieldLink RX7 24 "BuoyTender$Warnings" "count" "I", .methodLink RX7 36 yX7_isOutOn, .instanceMethod yX7_isOutOn, .selects RX7 yX7_isOutOn yX7_isOutOn, .initialized RX7, .code yX7_isOutOn cX7_isOutOn 3 (some .boolean), .fieldLink RX7 18 "BuoyTender$Warnings" "toldOn" "[I", .fieldLink RX7 21 "BuoyTender$Warnings" "cancelledOn" "[I"] ++ wsX70)
def wsX7_numberOn : List Cond := .code yX7_numberOn cX7_numberOn 5 (some .int) :: ([.fieldLink RX7 24 "BuoyTender$Warnings" "count" "I", .methodLink RX7 36 yX7_isOutOn, .instanceMethod yX7_isOutOn, .selects RX7 yX7_isOutOn yX7_isOutOn, .initialized RX7, .code yX7_isOutOn cX7_isOutOn 3 (some .boolean), .fieldLink RX7 18 "BuoyTender$Warnings" "toldOn" "[I", .fieldLink RX7 21 "BuoyTender$Warnings" "cancelledOn" "[I"] ++ wsX70)
def wsX8_init_r1 : List Cond := [Cond.methodLink RX8 1 objectInit, Cond.instanceMethod objectInit, Cond.code objectInit ⟨#[0xb1]⟩ 1 none, Cond.arrayClass .int, Cond.fieldLink RX8 9 "BuoyTender" "depths" "[I", Cond.classLink RX8 13 RX1, Cond.fieldLink RX8 15 "BuoyTender" "marks" "[LBuoyTender$Mark;", Cond.fieldLink RX8 19 "BuoyTender" "wears" "[I", Cond.classLink RX8 22 RX7, Cond.instantiable RX7 5, Cond.initialized RX7, Cond.fieldLink RX8 25 "BuoyTender" "warnings" "LBuoyTender$Warnings;", Cond.classLink RX8 29 RX4, Cond.instantiable RX4 10, Cond.initialized RX4, Cond.fieldLink RX8 32 "BuoyTender" "vessel" "LBuoyTender$Ship;", Cond.classLink RX8 36 RX2, Cond.instantiable RX2 16, Cond.initialized RX2, Cond.fieldLink RX8 39 "BuoyTender" "planner" "LBuoyTender$Planner;", Cond.classLink RX8 43 RX6, Cond.instantiable RX6 6, Cond.initialized RX6, Cond.fieldLink RX8 46 "BuoyTender" "survey" "LBuoyTender$Survey;"]
def wsX8_init_r2 : List Cond := [Cond.classLink RX8 50 RX3, Cond.instantiable RX3 2, Cond.initialized RX3, Cond.fieldLink RX8 53 "BuoyTender" "proposed" "LBuoyTender$Rhythm;", Cond.instanceMethod yX7_init, Cond.code yX7_init cX7_init 1 none, Cond.methodLink RX7 3 objectInit, Cond.fieldLink RX7 9 "BuoyTender$Warnings" "markOf" "[I", Cond.fieldLink RX7 15 "BuoyTender$Warnings" "reasonOf" "[I", Cond.fieldLink RX7 18 "BuoyTender$Warnings" "toldOn" "[I", Cond.fieldLink RX7 21 "BuoyTender$Warnings" "cancelledOn" "[I", Cond.instanceMethod yX4_init, Cond.code yX4_init cX4_init 1 none, Cond.methodLink RX4 3 objectInit, Cond.fieldLink RX4 9 "BuoyTender$Ship" "tides" "[I", Cond.fieldLink RX4 15 "BuoyTender$Ship" "winds" "[I", Cond.fieldLink RX4 18 "BuoyTender$Ship" "end" "I", Cond.fieldLink RX4 22 "BuoyTender$Ship" "pace" "I", Cond.fieldLink RX4 25 "BuoyTender$Ship" "mostWind" "I", Cond.instanceMethod yX2_init, Cond.code yX2_init cX2_init 1 none, Cond.methodLink RX2 3 objectInit, Cond.fieldLink RX2 9 "BuoyTender$Planner" "numbers" "[I", Cond.fieldLink RX2 15 "BuoyTender$Planner" "minutes" "[I"]
def wsX8_init_r3 : List Cond := [Cond.fieldLink RX2 18 "BuoyTender$Planner" "loads" "[I", Cond.fieldLink RX2 21 "BuoyTender$Planner" "weights" "[I", Cond.fieldLink RX2 24 "BuoyTender$Planner" "ways" "[I", Cond.fieldLink RX2 27 "BuoyTender$Planner" "opensIn" "[I", Cond.fieldLink RX2 30 "BuoyTender$Planner" "openedIn" "[I", Cond.fieldLink RX2 33 "BuoyTender$Planner" "ends" "[I", Cond.fieldLink RX2 36 "BuoyTender$Planner" "backs" "[I", Cond.fieldLink RX2 39 "BuoyTender$Planner" "tried" "[I", Cond.fieldLink RX2 42 "BuoyTender$Planner" "order" "[I", Cond.fieldLink RX2 45 "BuoyTender$Planner" "begins" "[I", Cond.instanceMethod yX6_init, Cond.code yX6_init cX6_init 1 none, Cond.methodLink RX6 3 objectInit, Cond.instanceMethod yX3_init, Cond.code yX3_init cX3_init 1 none, Cond.methodLink RX3 3 objectInit, Cond.fieldLink RX3 9 "BuoyTender$Rhythm" "steps" "[I"]
def wsX8_init : List Cond := .code yX8_init cX8_init 1 none :: ((wsX8_init_r1 ++ (wsX8_init_r2 ++ wsX8_init_r3)) ++ wsX80 ++ wsX70 ++ wsX40 ++ wsX20 ++ wsX60 ++ wsX30)
def wsX8_isPlace : List Cond := .code yX8_isPlace cX8_isPlace 2 (some .boolean) :: ([.methodLink RX8 61 yX8_within, .static yX8_within, .initialized RX8, .code yX8_within cX8_within 3 (some .boolean)])
def wsX8_depth : List Cond := .code yX8_depth cX8_depth 8 (some .boolean) :: ([.fieldLink RX8 9 "BuoyTender" "depths" "[I", .fieldLink RX8 65 "BuoyTender" "planned" "Z", .methodLink RX8 57 yX8_isPlace, .static yX8_isPlace, .initialized RX8, .code yX8_isPlace cX8_isPlace 2 (some .boolean), .methodLink RX8 61 yX8_within, .static yX8_within, .code yX8_within cX8_within 3 (some .boolean)] ++ wsX80)
def wsX8_mark_r1 : List Cond := [Cond.fieldLink RX8 69 "BuoyTender" "markCount" "I", Cond.fieldLink RX8 15 "BuoyTender" "marks" "[LBuoyTender$Mark;", Cond.classLink RX8 13 RX1, Cond.instantiable RX1 9, Cond.initialized RX1, Cond.methodLink RX8 57 yX8_isPlace, Cond.static yX8_isPlace, Cond.initialized RX8, Cond.code yX8_isPlace cX8_isPlace 2 (some .boolean), Cond.methodLink RX8 61 yX8_within, Cond.static yX8_within, Cond.code yX8_within cX8_within 3 (some .boolean), Cond.instanceMethod yX1_init, Cond.code yX1_init cX1_init 4 none, Cond.methodLink RX1 1 objectInit, Cond.instanceMethod objectInit, Cond.code objectInit ⟨#[0xb1]⟩ 1 none, Cond.classLink RX1 7 RX5, Cond.instantiable RX5 4, Cond.initialized RX5, Cond.fieldLink RX1 10 "BuoyTender$Mark" "sighting" "LBuoyTender$Sighting;", Cond.classLink RX1 16 RX0, Cond.instantiable RX0 5, Cond.initialized RX0]
def wsX8_mark_r2 : List Cond := [Cond.fieldLink RX1 19 "BuoyTender$Mark" "chain" "LBuoyTender$Chain;", Cond.classLink RX1 23 RX3, Cond.instantiable RX3 2, Cond.initialized RX3, Cond.fieldLink RX1 26 "BuoyTender$Mark" "rhythm" "LBuoyTender$Rhythm;", Cond.fieldLink RX1 30 "BuoyTender$Mark" "x" "I", Cond.fieldLink RX1 34 "BuoyTender$Mark" "y" "I", Cond.fieldLink RX1 37 "BuoyTender$Mark" "radius" "I", Cond.instanceMethod yX5_init, Cond.code yX5_init cX5_init 1 none, Cond.methodLink RX5 3 objectInit, Cond.arrayClass .long, Cond.fieldLink RX5 9 "BuoyTender$Sighting" "ruledOut" "[J", Cond.fieldLink RX5 15 "BuoyTender$Sighting" "deepest" "I", Cond.instanceMethod yX0_init, Cond.code yX0_init cX0_init 1 none, Cond.methodLink RX0 3 objectInit, Cond.instanceMethod yX3_init, Cond.code yX3_init cX3_init 1 none, Cond.methodLink RX3 3 objectInit, Cond.arrayClass .int, Cond.fieldLink RX3 9 "BuoyTender$Rhythm" "steps" "[I"]
def wsX8_mark : List Cond := .code yX8_mark cX8_mark 5 (some .int) :: ((wsX8_mark_r1 ++ wsX8_mark_r2) ++ wsX80 ++ wsX10 ++ wsX50 ++ wsX00 ++ wsX30)
def wsX8_known : List Cond := .code yX8_known cX8_known 2 (some (.object "BuoyTender$Mark")) :: ([.fieldLink RX8 69 "BuoyTender" "markCount" "I", .fieldLink RX8 15 "BuoyTender" "marks" "[LBuoyTender$Mark;"] ++ wsX80)
def wsX8_sight : List Cond := .code yX8_sight cX8_sight 3 (some .boolean) :: ([.methodLink RX8 76 yX8_known, .instanceMethod yX8_known, .selects RX8 yX8_known yX8_known, .initialized RX8, .code yX8_known cX8_known 2 (some (.object "BuoyTender$Mark")), .fieldLink RX8 69 "BuoyTender" "markCount" "I", .fieldLink RX8 15 "BuoyTender" "marks" "[LBuoyTender$Mark;", .instanceMethod yX5_begin, .initialized RX5, .selects RX5 yX5_begin yX5_begin, .code yX5_begin cX5_begin 1 none, .fieldLink RX5 9 "BuoyTender$Sighting" "ruledOut" "[J", .fieldLink RX5 25 "BuoyTender$Sighting" "shallowest" "I", .fieldLink RX5 15 "BuoyTender$Sighting" "deepest" "I", .fieldLink RX5 28 "BuoyTender$Sighting" "told" "Z", .methodLink RX5 19 yJ7_fill_d0a16, .static yJ7_fill_d0a16, .initialized RJ7, .code yJ7_fill_d0a16 cJ7_fill_d0a16 5 none] ++ wsX10 ++ wsX80 ++ wsX50)
def wsX8_isWay : List Cond := .code yX8_isWay cX8_isWay 2 (some .boolean) :: ([.methodLink RX8 61 yX8_within, .static yX8_within, .initialized RX8, .code yX8_within cX8_within 3 (some .boolean)])
def wsX8_bearing : List Cond := .code yX8_bearing cX8_bearing 9 (some .boolean) :: ([.methodLink RX8 76 yX8_known, .instanceMethod yX8_known, .selects RX8 yX8_known yX8_known, .initialized RX8, .code yX8_known cX8_known 2 (some (.object "BuoyTender$Mark")), .fieldLink RX8 69 "BuoyTender" "markCount" "I", .fieldLink RX8 15 "BuoyTender" "marks" "[LBuoyTender$Mark;", .methodLink RX8 89 yX8_isWay, .static yX8_isWay, .code yX8_isWay cX8_isWay 2 (some .boolean), .methodLink RX8 61 yX8_within, .static yX8_within, .code yX8_within cX8_within 3 (some .boolean), .instanceMethod yX5_tellBearing, .initialized RX5, .selects RX5 yX5_tellBearing yX5_tellBearing, .code yX5_tellBearing cX5_tellBearing 12 none, .fieldLink RX5 9 "BuoyTender$Sighting" "ruledOut" "[J", .fieldLink RX5 28 "BuoyTender$Sighting" "told" "Z"] ++ wsX10 ++ wsX80 ++ wsX50)
def wsX8_sounding : List Cond := .code yX8_sounding cX8_sounding 5 (some .boolean) :: ([.methodLink RX8 76 yX8_known, .instanceMethod yX8_known, .selects RX8 yX8_known yX8_known, .initialized RX8, .code yX8_known cX8_known 2 (some (.object "BuoyTender$Mark")), .fieldLink RX8 69 "BuoyTender" "markCount" "I", .fieldLink RX8 15 "BuoyTender" "marks" "[LBuoyTender$Mark;", .methodLink RX8 61 yX8_within, .static yX8_within, .code yX8_within cX8_within 3 (some .boolean), .instanceMethod yX5_tellSounding, .initialized RX5, .selects RX5 yX5_tellSounding yX5_tellSounding, .code yX5_tellSounding cX5_tellSounding 3 none, .fieldLink RX5 25 "BuoyTender$Sighting" "shallowest" "I", .methodLink RX5 32 Lib.Math.max.name, .static Lib.Math.max.name, .initialized "java/lang/Math", .code Lib.Math.max.name Lib.Math.max.code 2 (some .int), .fieldLink RX5 15 "BuoyTender$Sighting" "deepest" "I", .methodLink RX5 38 Lib.Math.min.name, .static Lib.Math.min.name, .code Lib.Math.min.name Lib.Math.min.code 2 (some .int), .fieldLink RX5 28 "BuoyTender$Sighting" "told" "Z"] ++ wsX10 ++ wsX80 ++ wsX50)
def wsX8_surveyed : List Cond := .code yX8_surveyed cX8_surveyed 3 (some .int) :: ([.fieldLink RX8 46 "BuoyTender" "survey" "LBuoyTender$Survey;", .instanceMethod yX6_how, .initialized RX6, .selects RX6 yX6_how yX6_how, .code yX6_how cX6_how 1 (some .int), .fieldLink RX6 9 "BuoyTender$Survey" "left" "I", .fieldLink RX6 15 "BuoyTender$Survey" "inRadius" "I"] ++ wsX80 ++ wsX60)
def wsX8_lies_r1 : List Cond := [Cond.fieldLink RX8 46 "BuoyTender" "survey" "LBuoyTender$Survey;", Cond.fieldLink RX8 9 "BuoyTender" "depths" "[I", Cond.methodLink RX8 76 yX8_known, Cond.instanceMethod yX8_known, Cond.selects RX8 yX8_known yX8_known, Cond.initialized RX8, Cond.code yX8_known cX8_known 2 (some (.object "BuoyTender$Mark")), Cond.fieldLink RX8 69 "BuoyTender" "markCount" "I", Cond.fieldLink RX8 15 "BuoyTender" "marks" "[LBuoyTender$Mark;", Cond.methodLink RX8 61 yX8_within, Cond.static yX8_within, Cond.code yX8_within cX8_within 3 (some .boolean), Cond.instanceMethod yX6_take, Cond.initialized RX6, Cond.selects RX6 yX6_take yX6_take, Cond.code yX6_take cX6_take 8 none, Cond.fieldLink RX6 9 "BuoyTender$Survey" "left" "I", Cond.fieldLink RX6 15 "BuoyTender$Survey" "inRadius" "I", Cond.fieldLink RX6 18 "BuoyTender$Survey" "leastX" "I", Cond.fieldLink RX6 21 "BuoyTender$Survey" "leastY" "I", Cond.fieldLink RX6 24 "BuoyTender$Survey" "mostX" "I", Cond.fieldLink RX6 27 "BuoyTender$Survey" "mostY" "I", Cond.methodLink RX6 48 yX6_count, Cond.instanceMethod yX6_count]
def wsX8_lies_r2 : List Cond := [Cond.selects RX6 yX6_count yX6_count, Cond.code yX6_count cX6_count 4 none, Cond.methodLink RX6 52 Lib.Math.min.name, Cond.static Lib.Math.min.name, Cond.initialized "java/lang/Math", Cond.code Lib.Math.min.name Lib.Math.min.code 2 (some .int), Cond.methodLink RX6 58 Lib.Math.max.name, Cond.static Lib.Math.max.name, Cond.code Lib.Math.max.name Lib.Math.max.code 2 (some .int), Cond.static yX8_squareBetween, Cond.code yX8_squareBetween cX8_squareBetween 4 (some .int), Cond.methodLink RX8 116 yX8_surveyed, Cond.instanceMethod yX8_surveyed, Cond.selects RX8 yX8_surveyed yX8_surveyed, Cond.code yX8_surveyed cX8_surveyed 3 (some .int), Cond.instanceMethod yX6_how, Cond.selects RX6 yX6_how yX6_how, Cond.code yX6_how cX6_how 1 (some .int)]
def wsX8_lies : List Cond := .code yX8_lies cX8_lies 4 (some .int) :: ((wsX8_lies_r1 ++ wsX8_lies_r2) ++ wsX10 ++ wsX80 ++ wsX50 ++ wsX60)
def wsX8_day : List Cond := .code yX8_day cX8_day 2 (some .boolean) :: ([.fieldLink RX8 120 "BuoyTender" "today" "I", .methodLink RX8 61 yX8_within, .static yX8_within, .initialized RX8, .code yX8_within cX8_within 3 (some .boolean)] ++ wsX80)
def wsX8_thisMonth : List Cond := .code yX8_thisMonth cX8_thisMonth 1 (some .int) :: ([.fieldLink RX8 120 "BuoyTender" "today" "I"] ++ wsX80)
def wsX8_chain : List Cond := .code yX8_chain cX8_chain 6 (some .boolean) :: ([.methodLink RX8 76 yX8_known, .instanceMethod yX8_known, .selects RX8 yX8_known yX8_known, .initialized RX8, .code yX8_known cX8_known 2 (some (.object "BuoyTender$Mark")), .fieldLink RX8 69 "BuoyTender" "markCount" "I", .fieldLink RX8 15 "BuoyTender" "marks" "[LBuoyTender$Mark;", .methodLink RX8 61 yX8_within, .static yX8_within, .code yX8_within cX8_within 3 (some .boolean), .methodLink RX8 127 yX8_thisMonth, .instanceMethod yX8_thisMonth, .selects RX8 yX8_thisMonth yX8_thisMonth, .code yX8_thisMonth cX8_thisMonth 1 (some .int), .fieldLink RX8 120 "BuoyTender" "today" "I", .instanceMethod yX0_lay, .initialized RX0, .selects RX0 yX0_lay yX0_lay, .code yX0_lay cX0_lay 5 none, .fieldLink RX0 9 "BuoyTender$Chain" "laid" "Z", .fieldLink RX0 15 "BuoyTender$Chain" "thickness" "I", .fieldLink RX0 19 "BuoyTender$Chain" "least" "I", .fieldLink RX0 22 "BuoyTender$Chain" "kind" "I", .fieldLink RX0 25 "BuoyTender$Chain" "since" "I"] ++ wsX10 ++ wsX80 ++ wsX00)
def wsX8_wear : List Cond := .code yX8_wear cX8_wear 4 (some .boolean) :: ([.fieldLink RX8 19 "BuoyTender" "wears" "[I", .methodLink RX8 61 yX8_within, .static yX8_within, .initialized RX8, .code yX8_within cX8_within 3 (some .boolean)] ++ wsX80)
def wsX8_chainOf_r1 : List Cond := [Cond.fieldLink RX8 19 "BuoyTender" "wears" "[I", Cond.methodLink RX8 144 Lib.Math.max.name, Cond.static Lib.Math.max.name, Cond.initialized "java/lang/Math", Cond.code Lib.Math.max.name Lib.Math.max.code 2 (some .int), Cond.methodLink RX8 76 yX8_known, Cond.instanceMethod yX8_known, Cond.selects RX8 yX8_known yX8_known, Cond.initialized RX8, Cond.code yX8_known cX8_known 2 (some (.object "BuoyTender$Mark")), Cond.fieldLink RX8 69 "BuoyTender" "markCount" "I", Cond.fieldLink RX8 15 "BuoyTender" "marks" "[LBuoyTender$Mark;", Cond.methodLink RX8 127 yX8_thisMonth, Cond.instanceMethod yX8_thisMonth, Cond.selects RX8 yX8_thisMonth yX8_thisMonth, Cond.code yX8_thisMonth cX8_thisMonth 1 (some .int), Cond.fieldLink RX8 120 "BuoyTender" "today" "I", Cond.instanceMethod yX0_leftBehind, Cond.initialized RX0, Cond.selects RX0 yX0_leftBehind yX0_leftBehind, Cond.code yX0_leftBehind cX0_leftBehind 5 (some .int), Cond.fieldLink RX0 15 "BuoyTender$Chain" "thickness" "I", Cond.fieldLink RX0 25 "BuoyTender$Chain" "since" "I", Cond.methodLink RX0 28 yX0_wornIn]
def wsX8_chainOf_r2 : List Cond := [Cond.instanceMethod yX0_wornIn, Cond.selects RX0 yX0_wornIn yX0_wornIn, Cond.code yX0_wornIn cX0_wornIn 4 (some .int), Cond.fieldLink RX0 22 "BuoyTender$Chain" "kind" "I", Cond.instanceMethod yX0_lifeEnds, Cond.selects RX0 yX0_lifeEnds yX0_lifeEnds, Cond.code yX0_lifeEnds cX0_lifeEnds 4 (some .int), Cond.fieldLink RX0 19 "BuoyTender$Chain" "least" "I"]
def wsX8_chainOf : List Cond := .code yX8_chainOf cX8_chainOf 4 (some .int) :: ((wsX8_chainOf_r1 ++ wsX8_chainOf_r2) ++ wsX10 ++ wsX00 ++ wsX80)
def wsX8_clashesNearby_r1 : List Cond := [Cond.fieldLink RX8 69 "BuoyTender" "markCount" "I", Cond.fieldLink RX8 178 "BuoyTender" "nearness" "I", Cond.fieldLink RX8 53 "BuoyTender" "proposed" "LBuoyTender$Rhythm;", Cond.methodLink RX8 76 yX8_known, Cond.instanceMethod yX8_known, Cond.selects RX8 yX8_known yX8_known, Cond.initialized RX8, Cond.code yX8_known cX8_known 2 (some (.object "BuoyTender$Mark")), Cond.fieldLink RX8 15 "BuoyTender" "marks" "[LBuoyTender$Mark;", Cond.instanceMethod yX1_isNear, Cond.initialized RX1, Cond.selects RX1 yX1_isNear yX1_isNear, Cond.code yX1_isNear cX1_isNear 3 (some .boolean), Cond.fieldLink RX1 30 "BuoyTender$Mark" "x" "I", Cond.fieldLink RX1 34 "BuoyTender$Mark" "y" "I", Cond.static yX8_squareBetween, Cond.code yX8_squareBetween cX8_squareBetween 4 (some .int), Cond.instanceMethod yX3_matches, Cond.initialized RX3, Cond.selects RX3 yX3_matches yX3_matches, Cond.code yX3_matches cX3_matches 3 (some .boolean), Cond.fieldLink RX3 15 "BuoyTender$Rhythm" "many" "I", Cond.methodLink RX3 29 yX3_matchesTurned, Cond.instanceMethod yX3_matchesTurned]
def wsX8_clashesNearby_r2 : List Cond := [Cond.selects RX3 yX3_matchesTurned yX3_matchesTurned, Cond.code yX3_matchesTurned cX3_matchesTurned 4 (some .boolean), Cond.fieldLink RX3 9 "BuoyTender$Rhythm" "steps" "[I"]
def wsX8_clashesNearby : List Cond := .code yX8_clashesNearby cX8_clashesNearby 5 (some .boolean) :: ((wsX8_clashesNearby_r1 ++ wsX8_clashesNearby_r2) ++ wsX80 ++ wsX10 ++ wsX30)
def wsX8_light_r1 : List Cond := [Cond.fieldLink RX8 53 "BuoyTender" "proposed" "LBuoyTender$Rhythm;", Cond.methodLink RX8 76 yX8_known, Cond.instanceMethod yX8_known, Cond.selects RX8 yX8_known yX8_known, Cond.initialized RX8, Cond.code yX8_known cX8_known 2 (some (.object "BuoyTender$Mark")), Cond.fieldLink RX8 69 "BuoyTender" "markCount" "I", Cond.fieldLink RX8 15 "BuoyTender" "marks" "[LBuoyTender$Mark;", Cond.instanceMethod yX3_goDark, Cond.initialized RX3, Cond.selects RX3 yX3_goDark yX3_goDark, Cond.code yX3_goDark cX3_goDark 1 none, Cond.fieldLink RX3 15 "BuoyTender$Rhythm" "many" "I", Cond.instanceMethod yX3_read, Cond.selects RX3 yX3_read yX3_read, Cond.code yX3_read cX3_read 6 (some .boolean), Cond.fieldLink RX3 9 "BuoyTender$Rhythm" "steps" "[I", Cond.static yX8_within, Cond.code yX8_within cX8_within 3 (some .boolean), Cond.methodLink RX8 166 yX8_clashesNearby, Cond.instanceMethod yX8_clashesNearby, Cond.selects RX8 yX8_clashesNearby yX8_clashesNearby, Cond.code yX8_clashesNearby cX8_clashesNearby 5 (some .boolean), Cond.fieldLink RX8 178 "BuoyTender" "nearness" "I"]
def wsX8_light_r2 : List Cond := [Cond.instanceMethod yX1_isNear, Cond.initialized RX1, Cond.selects RX1 yX1_isNear yX1_isNear, Cond.code yX1_isNear cX1_isNear 3 (some .boolean), Cond.fieldLink RX1 30 "BuoyTender$Mark" "x" "I", Cond.fieldLink RX1 34 "BuoyTender$Mark" "y" "I", Cond.static yX8_squareBetween, Cond.code yX8_squareBetween cX8_squareBetween 4 (some .int), Cond.instanceMethod yX3_matches, Cond.selects RX3 yX3_matches yX3_matches, Cond.code yX3_matches cX3_matches 3 (some .boolean), Cond.methodLink RX3 29 yX3_matchesTurned, Cond.instanceMethod yX3_matchesTurned, Cond.selects RX3 yX3_matchesTurned yX3_matchesTurned, Cond.code yX3_matchesTurned cX3_matchesTurned 4 (some .boolean), Cond.instanceMethod yX3_copyFrom, Cond.selects RX3 yX3_copyFrom yX3_copyFrom, Cond.code yX3_copyFrom cX3_copyFrom 2 none, Cond.methodLink RX3 23 arraycopyName, Cond.native arraycopyName, Cond.static arraycopyName, Cond.initialized "java/lang/System"]
def wsX8_light : List Cond := .code yX8_light cX8_light 5 (some .boolean) :: ((wsX8_light_r1 ++ wsX8_light_r2) ++ wsX10 ++ wsX80 ++ wsX30)
def wsX8_clashesWithin_r1 : List Cond := [Cond.fieldLink RX8 69 "BuoyTender" "markCount" "I", Cond.methodLink RX8 76 yX8_known, Cond.instanceMethod yX8_known, Cond.selects RX8 yX8_known yX8_known, Cond.initialized RX8, Cond.code yX8_known cX8_known 2 (some (.object "BuoyTender$Mark")), Cond.fieldLink RX8 15 "BuoyTender" "marks" "[LBuoyTender$Mark;", Cond.instanceMethod yX1_isNear, Cond.initialized RX1, Cond.selects RX1 yX1_isNear yX1_isNear, Cond.code yX1_isNear cX1_isNear 3 (some .boolean), Cond.fieldLink RX1 30 "BuoyTender$Mark" "x" "I", Cond.fieldLink RX1 34 "BuoyTender$Mark" "y" "I", Cond.static yX8_squareBetween, Cond.code yX8_squareBetween cX8_squareBetween 4 (some .int), Cond.instanceMethod yX3_matches, Cond.initialized RX3, Cond.selects RX3 yX3_matches yX3_matches, Cond.code yX3_matches cX3_matches 3 (some .boolean), Cond.fieldLink RX3 15 "BuoyTender$Rhythm" "many" "I", Cond.methodLink RX3 29 yX3_matchesTurned, Cond.instanceMethod yX3_matchesTurned, Cond.selects RX3 yX3_matchesTurned yX3_matchesTurned, Cond.code yX3_matchesTurned cX3_matchesTurned 4 (some .boolean)]
def wsX8_clashesWithin_r2 : List Cond := [Cond.fieldLink RX3 9 "BuoyTender$Rhythm" "steps" "[I"]
def wsX8_clashesWithin : List Cond := .code yX8_clashesWithin cX8_clashesWithin 6 (some .boolean) :: ((wsX8_clashesWithin_r1 ++ wsX8_clashesWithin_r2) ++ wsX80 ++ wsX10 ++ wsX30)
def wsX8_near_r1 : List Cond := [Cond.fieldLink RX8 178 "BuoyTender" "nearness" "I", Cond.methodLink RX8 61 yX8_within, Cond.static yX8_within, Cond.initialized RX8, Cond.code yX8_within cX8_within 3 (some .boolean), Cond.methodLink RX8 174 yX8_clashesWithin, Cond.instanceMethod yX8_clashesWithin, Cond.selects RX8 yX8_clashesWithin yX8_clashesWithin, Cond.code yX8_clashesWithin cX8_clashesWithin 6 (some .boolean), Cond.fieldLink RX8 69 "BuoyTender" "markCount" "I", Cond.methodLink RX8 76 yX8_known, Cond.instanceMethod yX8_known, Cond.selects RX8 yX8_known yX8_known, Cond.code yX8_known cX8_known 2 (some (.object "BuoyTender$Mark")), Cond.fieldLink RX8 15 "BuoyTender" "marks" "[LBuoyTender$Mark;", Cond.instanceMethod yX1_isNear, Cond.initialized RX1, Cond.selects RX1 yX1_isNear yX1_isNear, Cond.code yX1_isNear cX1_isNear 3 (some .boolean), Cond.fieldLink RX1 30 "BuoyTender$Mark" "x" "I", Cond.fieldLink RX1 34 "BuoyTender$Mark" "y" "I", Cond.static yX8_squareBetween, Cond.code yX8_squareBetween cX8_squareBetween 4 (some .int), Cond.instanceMethod yX3_matches]
def wsX8_near_r2 : List Cond := [Cond.initialized RX3, Cond.selects RX3 yX3_matches yX3_matches, Cond.code yX3_matches cX3_matches 3 (some .boolean), Cond.fieldLink RX3 15 "BuoyTender$Rhythm" "many" "I", Cond.methodLink RX3 29 yX3_matchesTurned, Cond.instanceMethod yX3_matchesTurned, Cond.selects RX3 yX3_matchesTurned yX3_matchesTurned, Cond.code yX3_matchesTurned cX3_matchesTurned 4 (some .boolean), Cond.fieldLink RX3 9 "BuoyTender$Rhythm" "steps" "[I"]
def wsX8_near : List Cond := .code yX8_near cX8_near 2 (some .boolean) :: ((wsX8_near_r1 ++ wsX8_near_r2) ++ wsX80 ++ wsX10 ++ wsX30)
def wsX8_alike : List Cond := .code yX8_alike cX8_alike 5 (some .int) :: ([.methodLink RX8 76 yX8_known, .instanceMethod yX8_known, .selects RX8 yX8_known yX8_known, .initialized RX8, .code yX8_known cX8_known 2 (some (.object "BuoyTender$Mark")), .fieldLink RX8 69 "BuoyTender" "markCount" "I", .fieldLink RX8 15 "BuoyTender" "marks" "[LBuoyTender$Mark;", .instanceMethod yX3_isLit, .initialized RX3, .selects RX3 yX3_isLit yX3_isLit, .code yX3_isLit cX3_isLit 1 (some .boolean), .fieldLink RX3 15 "BuoyTender$Rhythm" "many" "I", .instanceMethod yX3_matches, .selects RX3 yX3_matches yX3_matches, .code yX3_matches cX3_matches 3 (some .boolean), .methodLink RX3 29 yX3_matchesTurned, .instanceMethod yX3_matchesTurned, .selects RX3 yX3_matchesTurned yX3_matchesTurned, .code yX3_matchesTurned cX3_matchesTurned 4 (some .boolean), .fieldLink RX3 9 "BuoyTender$Rhythm" "steps" "[I"] ++ wsX10 ++ wsX80 ++ wsX30)
def wsX8_warn_r1 : List Cond := [Cond.fieldLink RX8 25 "BuoyTender" "warnings" "LBuoyTender$Warnings;", Cond.fieldLink RX8 120 "BuoyTender" "today" "I", Cond.methodLink RX8 76 yX8_known, Cond.instanceMethod yX8_known, Cond.selects RX8 yX8_known yX8_known, Cond.initialized RX8, Cond.code yX8_known cX8_known 2 (some (.object "BuoyTender$Mark")), Cond.fieldLink RX8 69 "BuoyTender" "markCount" "I", Cond.fieldLink RX8 15 "BuoyTender" "marks" "[LBuoyTender$Mark;", Cond.methodLink RX8 61 yX8_within, Cond.static yX8_within, Cond.code yX8_within cX8_within 3 (some .boolean), Cond.instanceMethod yX7_tell, Cond.initialized RX7, Cond.selects RX7 yX7_tell yX7_tell, Cond.code yX7_tell cX7_tell 5 (some .int), Cond.fieldLink RX7 24 "BuoyTender$Warnings" "count" "I", Cond.fieldLink RX7 9 "BuoyTender$Warnings" "markOf" "[I", Cond.fieldLink RX7 15 "BuoyTender$Warnings" "reasonOf" "[I", Cond.fieldLink RX7 18 "BuoyTender$Warnings" "toldOn" "[I", Cond.fieldLink RX7 21 "BuoyTender$Warnings" "cancelledOn" "[I", Cond.methodLink RX7 28 yX7_isOpen, Cond.instanceMethod yX7_isOpen, Cond.selects RX7 yX7_isOpen yX7_isOpen]
def wsX8_warn_r2 : List Cond := [Cond.code yX7_isOpen cX7_isOpen 4 (some .boolean)]
def wsX8_warn : List Cond := .code yX8_warn cX8_warn 3 (some .int) :: ((wsX8_warn_r1 ++ wsX8_warn_r2) ++ wsX80 ++ wsX70)
def wsX8_cancel : List Cond := .code yX8_cancel cX8_cancel 2 (some .boolean) :: ([.fieldLink RX8 25 "BuoyTender" "warnings" "LBuoyTender$Warnings;", .fieldLink RX8 120 "BuoyTender" "today" "I", .instanceMethod yX7_end, .initialized RX7, .selects RX7 yX7_end yX7_end, .code yX7_end cX7_end 3 (some .boolean), .fieldLink RX7 21 "BuoyTender$Warnings" "cancelledOn" "[I", .methodLink RX7 32 yX7_has, .instanceMethod yX7_has, .selects RX7 yX7_has yX7_has, .code yX7_has cX7_has 2 (some .boolean), .fieldLink RX7 24 "BuoyTender$Warnings" "count" "I"] ++ wsX80 ++ wsX70)
def wsX8_list : List Cond := .code yX8_list cX8_list 2 (some .int) :: ([.fieldLink RX8 120 "BuoyTender" "today" "I", .fieldLink RX8 25 "BuoyTender" "warnings" "LBuoyTender$Warnings;", .methodLink RX8 61 yX8_within, .static yX8_within, .initialized RX8, .code yX8_within cX8_within 3 (some .boolean), .instanceMethod yX7_countOn, .initialized RX7, .selects RX7 yX7_countOn yX7_countOn, .code yX7_countOn cX7_countOn 4 (some .int), .fieldLink RX7 24 "BuoyTender$Warnings" "count" "I", .methodLink RX7 36 yX7_isOutOn, .instanceMethod yX7_isOutOn, .selects RX7 yX7_isOutOn yX7_isOutOn, .code yX7_isOutOn cX7_isOutOn 3 (some .boolean), .fieldLink RX7 18 "BuoyTender$Warnings" "toldOn" "[I", .fieldLink RX7 21 "BuoyTender$Warnings" "cancelledOn" "[I"] ++ wsX80 ++ wsX70)
def wsX8_listed : List Cond := .code yX8_listed cX8_listed 3 (some .int) :: ([.fieldLink RX8 120 "BuoyTender" "today" "I", .fieldLink RX8 25 "BuoyTender" "warnings" "LBuoyTender$Warnings;", .methodLink RX8 61 yX8_within, .static yX8_within, .initialized RX8, .code yX8_within cX8_within 3 (some .boolean), .instanceMethod yX7_numberOn, .initialized RX7, .selects RX7 yX7_numberOn yX7_numberOn, .code yX7_numberOn cX7_numberOn 5 (some .int), .fieldLink RX7 24 "BuoyTender$Warnings" "count" "I", .methodLink RX7 36 yX7_isOutOn, .instanceMethod yX7_isOutOn, .selects RX7 yX7_isOutOn yX7_isOutOn, .code yX7_isOutOn cX7_isOutOn 3 (some .boolean), .fieldLink RX7 18 "BuoyTender$Warnings" "toldOn" "[I", .fieldLink RX7 21 "BuoyTender$Warnings" "cancelledOn" "[I"] ++ wsX80 ++ wsX70)
def wsX8_warning : List Cond := .code yX8_warning cX8_warning 3 (some .int) :: ([.fieldLink RX8 25 "BuoyTender" "warnings" "LBuoyTender$Warnings;", .instanceMethod yX7_has, .initialized RX7, .selects RX7 yX7_has yX7_has, .code yX7_has cX7_has 2 (some .boolean), .fieldLink RX7 24 "BuoyTender$Warnings" "count" "I"] ++ wsX80 ++ wsX70)
def wsX8_job : List Cond := .code yX8_job cX8_job 6 (some .boolean) :: ([.fieldLink RX8 65 "BuoyTender" "planned" "Z", .methodLink RX8 76 yX8_known, .instanceMethod yX8_known, .selects RX8 yX8_known yX8_known, .initialized RX8, .code yX8_known cX8_known 2 (some (.object "BuoyTender$Mark")), .fieldLink RX8 69 "BuoyTender" "markCount" "I", .fieldLink RX8 15 "BuoyTender" "marks" "[LBuoyTender$Mark;", .methodLink RX8 61 yX8_within, .static yX8_within, .code yX8_within cX8_within 3 (some .boolean)] ++ wsX10 ++ wsX80)
def wsX8_weather : List Cond := .code yX8_weather cX8_weather 4 (some .boolean) :: ([.fieldLink RX8 32 "BuoyTender" "vessel" "LBuoyTender$Ship;", .fieldLink RX8 65 "BuoyTender" "planned" "Z", .methodLink RX8 61 yX8_within, .static yX8_within, .initialized RX8, .code yX8_within cX8_within 3 (some .boolean)] ++ wsX80 ++ wsX40)
def wsX8_ship : List Cond := .code yX8_ship cX8_ship 5 (some .boolean) :: ([.fieldLink RX8 32 "BuoyTender" "vessel" "LBuoyTender$Ship;", .fieldLink RX8 65 "BuoyTender" "planned" "Z", .methodLink RX8 61 yX8_within, .static yX8_within, .initialized RX8, .code yX8_within cX8_within 3 (some .boolean)] ++ wsX80 ++ wsX40)
def wsX8_at : List Cond := .code yX8_at cX8_at 5 (some .boolean) :: ([.fieldLink RX8 32 "BuoyTender" "vessel" "LBuoyTender$Ship;", .fieldLink RX8 65 "BuoyTender" "planned" "Z", .methodLink RX8 57 yX8_isPlace, .static yX8_isPlace, .initialized RX8, .code yX8_isPlace cX8_isPlace 2 (some .boolean), .methodLink RX8 61 yX8_within, .static yX8_within, .code yX8_within cX8_within 3 (some .boolean)] ++ wsX80 ++ wsX40)
def wsX8_round_r1 : List Cond := [Cond.fieldLink RX8 65 "BuoyTender" "planned" "Z", Cond.fieldLink RX8 39 "BuoyTender" "planner" "LBuoyTender$Planner;", Cond.fieldLink RX8 15 "BuoyTender" "marks" "[LBuoyTender$Mark;", Cond.fieldLink RX8 9 "BuoyTender" "depths" "[I", Cond.fieldLink RX8 32 "BuoyTender" "vessel" "LBuoyTender$Ship;", Cond.instanceMethod yX2_plan, Cond.initialized RX2, Cond.selects RX2 yX2_plan yX2_plan, Cond.code yX2_plan cX2_plan 4 none, Cond.methodLink RX2 48 yX2_gather, Cond.instanceMethod yX2_gather, Cond.selects RX2 yX2_gather yX2_gather, Cond.code yX2_gather cX2_gather 7 none, Cond.fieldLink RX2 76 "BuoyTender$Planner" "count" "I", Cond.fieldLink RX2 9 "BuoyTender$Planner" "numbers" "[I", Cond.fieldLink RX2 15 "BuoyTender$Planner" "minutes" "[I", Cond.fieldLink RX2 18 "BuoyTender$Planner" "loads" "[I", Cond.fieldLink RX2 21 "BuoyTender$Planner" "weights" "[I", Cond.methodLink RX2 95 yX2_openHours, Cond.instanceMethod yX2_openHours, Cond.selects RX2 yX2_openHours yX2_openHours, Cond.code yX2_openHours cX2_openHours 7 none, Cond.fieldLink RX2 30 "BuoyTender$Planner" "openedIn" "[I", Cond.fieldLink RX2 27 "BuoyTender$Planner" "opensIn" "[I"]
def wsX8_round_r2 : List Cond := [Cond.instanceMethod yX4_mayBegin, Cond.initialized RX4, Cond.selects RX4 yX4_mayBegin yX4_mayBegin, Cond.code yX4_mayBegin cX4_mayBegin 3 (some .boolean), Cond.fieldLink RX4 9 "BuoyTender$Ship" "tides" "[I", Cond.fieldLink RX4 28 "BuoyTender$Ship" "draught" "I", Cond.fieldLink RX4 15 "BuoyTender$Ship" "winds" "[I", Cond.fieldLink RX4 25 "BuoyTender$Ship" "mostWind" "I", Cond.methodLink RX2 52 yX2_measure, Cond.instanceMethod yX2_measure, Cond.selects RX2 yX2_measure yX2_measure, Cond.code yX2_measure cX2_measure 7 none, Cond.fieldLink RX2 24 "BuoyTender$Planner" "ways" "[I", Cond.methodLink RX2 105 yX2_markOfJob, Cond.instanceMethod yX2_markOfJob, Cond.selects RX2 yX2_markOfJob yX2_markOfJob, Cond.code yX2_markOfJob cX2_markOfJob 4 (some (.object "BuoyTender$Mark")), Cond.methodLink RX2 109 yX2_way, Cond.static yX2_way, Cond.code yX2_way cX2_way 4 (some .int), Cond.methodLink RX2 115 Lib.Math.abs.name, Cond.static Lib.Math.abs.name, Cond.initialized "java/lang/Math", Cond.code Lib.Math.abs.name Lib.Math.abs.code 1 (some .int)]
def wsX8_round_r3 : List Cond := [Cond.methodLink RX2 121 Lib.Math.max.name, Cond.static Lib.Math.max.name, Cond.code Lib.Math.max.name Lib.Math.max.code 2 (some .int), Cond.methodLink RX2 56 yX2_findEarliestEnds, Cond.instanceMethod yX2_findEarliestEnds, Cond.selects RX2 yX2_findEarliestEnds yX2_findEarliestEnds, Cond.code yX2_findEarliestEnds cX2_findEarliestEnds 7 none, Cond.fieldLink RX2 36 "BuoyTender$Planner" "backs" "[I", Cond.constant RX2 131 (1000000), Cond.fieldLink RX2 33 "BuoyTender$Planner" "ends" "[I", Cond.methodLink RX2 133 Lib.Math.min.name, Cond.static Lib.Math.min.name, Cond.code Lib.Math.min.name Lib.Math.min.code 2 (some .int), Cond.methodLink RX2 139 yX2_sumOver, Cond.instanceMethod yX2_sumOver, Cond.selects RX2 yX2_sumOver yX2_sumOver, Cond.code yX2_sumOver cX2_sumOver 5 (some .int), Cond.methodLink RX2 128 yX2_isIn, Cond.static yX2_isIn, Cond.code yX2_isIn cX2_isIn 2 (some .boolean), Cond.methodLink RX2 146 yX2_earliestEnd, Cond.instanceMethod yX2_earliestEnd, Cond.selects RX2 yX2_earliestEnd yX2_earliestEnd, Cond.code yX2_earliestEnd cX2_earliestEnd 7 (some .int)]
def wsX8_round_r4 : List Cond := [Cond.methodLink RX2 153 yX2_without, Cond.static yX2_without, Cond.code yX2_without cX2_without 2 (some .int), Cond.methodLink RX2 156 yX2_beginFrom, Cond.instanceMethod yX2_beginFrom, Cond.selects RX2 yX2_beginFrom yX2_beginFrom, Cond.code yX2_beginFrom cX2_beginFrom 5 (some .int), Cond.methodLink RX2 60 yX2_chooseBest, Cond.instanceMethod yX2_chooseBest, Cond.selects RX2 yX2_chooseBest yX2_chooseBest, Cond.code yX2_chooseBest cX2_chooseBest 3 none, Cond.fieldLink RX2 159 "BuoyTender$Planner" "bestWeight" "I", Cond.fieldLink RX2 162 "BuoyTender$Planner" "bestBack" "I", Cond.methodLink RX2 63 yX2_findLatestEnds, Cond.instanceMethod yX2_findLatestEnds, Cond.selects RX2 yX2_findLatestEnds yX2_findLatestEnds, Cond.code yX2_findLatestEnds cX2_findLatestEnds 3 none, Cond.constant RX2 132 (-1000000), Cond.methodLink RX2 165 yX2_latestEnd, Cond.instanceMethod yX2_latestEnd, Cond.selects RX2 yX2_latestEnd yX2_latestEnd, Cond.code yX2_latestEnd cX2_latestEnd 6 (some .int), Cond.methodLink RX2 168 yX2_beginUpTo, Cond.instanceMethod yX2_beginUpTo]
def wsX8_round_r5 : List Cond := [Cond.selects RX2 yX2_beginUpTo yX2_beginUpTo, Cond.code yX2_beginUpTo cX2_beginUpTo 6 (some .int), Cond.methodLink RX2 66 yX2_chooseOrder, Cond.instanceMethod yX2_chooseOrder, Cond.selects RX2 yX2_chooseOrder yX2_chooseOrder, Cond.code yX2_chooseOrder cX2_chooseOrder 4 none, Cond.fieldLink RX2 72 "BuoyTender$Planner" "length" "I", Cond.fieldLink RX2 39 "BuoyTender$Planner" "tried" "[I", Cond.fieldLink RX2 42 "BuoyTender$Planner" "order" "[I", Cond.methodLink RX2 179 arraycopyName, Cond.native arraycopyName, Cond.static arraycopyName, Cond.initialized "java/lang/System", Cond.methodLink RX2 171 yX2_tryFirstOrder, Cond.instanceMethod yX2_tryFirstOrder, Cond.selects RX2 yX2_tryFirstOrder yX2_tryFirstOrder, Cond.code yX2_tryFirstOrder cX2_tryFirstOrder 9 (some .int), Cond.methodLink RX2 185 yX2_lowestNext, Cond.instanceMethod yX2_lowestNext, Cond.selects RX2 yX2_lowestNext yX2_lowestNext, Cond.code yX2_lowestNext cX2_lowestNext 6 (some .int), Cond.methodLink RX2 175 yX2_isTriedFirst, Cond.instanceMethod yX2_isTriedFirst, Cond.selects RX2 yX2_isTriedFirst yX2_isTriedFirst]
def wsX8_round_r6 : List Cond := [Cond.code yX2_isTriedFirst cX2_isTriedFirst 3 (some .boolean), Cond.methodLink RX2 69 yX2_timeOrder, Cond.instanceMethod yX2_timeOrder, Cond.selects RX2 yX2_timeOrder yX2_timeOrder, Cond.code yX2_timeOrder cX2_timeOrder 6 none, Cond.fieldLink RX2 45 "BuoyTender$Planner" "begins" "[I", Cond.instanceMethod yX2_loadDone, Cond.selects RX2 yX2_loadDone yX2_loadDone, Cond.code yX2_loadDone cX2_loadDone 3 (some .int), Cond.instanceMethod yX2_step, Cond.selects RX2 yX2_step yX2_step, Cond.code yX2_step cX2_step 2 (some .int)]
def wsX8_round : List Cond := .code yX8_round cX8_round 2 (some .int) :: ((wsX8_round_r1 ++ (wsX8_round_r2 ++ (wsX8_round_r3 ++ (wsX8_round_r4 ++ (wsX8_round_r5 ++ wsX8_round_r6))))) ++ wsX80 ++ wsX20 ++ wsX10 ++ wsX40)
def wsX8_jobCount : List Cond := .code yX8_jobCount cX8_jobCount 4 (some .int) :: ([.fieldLink RX8 69 "BuoyTender" "markCount" "I", .methodLink RX8 76 yX8_known, .instanceMethod yX8_known, .selects RX8 yX8_known yX8_known, .initialized RX8, .code yX8_known cX8_known 2 (some (.object "BuoyTender$Mark")), .fieldLink RX8 15 "BuoyTender" "marks" "[LBuoyTender$Mark;"] ++ wsX80 ++ wsX10)
def wsX8_about : List Cond := .code yX8_about cX8_about 2 (some .int) :: ([.fieldLink RX8 69 "BuoyTender" "markCount" "I", .fieldLink RX8 120 "BuoyTender" "today" "I", .fieldLink RX8 25 "BuoyTender" "warnings" "LBuoyTender$Warnings;", .fieldLink RX8 178 "BuoyTender" "nearness" "I", .fieldLink RX8 32 "BuoyTender" "vessel" "LBuoyTender$Ship;", .methodLink RX8 274 yX8_jobCount, .instanceMethod yX8_jobCount, .selects RX8 yX8_jobCount yX8_jobCount, .initialized RX8, .code yX8_jobCount cX8_jobCount 4 (some .int), .methodLink RX8 76 yX8_known, .instanceMethod yX8_known, .selects RX8 yX8_known yX8_known, .code yX8_known cX8_known 2 (some (.object "BuoyTender$Mark")), .fieldLink RX8 15 "BuoyTender" "marks" "[LBuoyTender$Mark;"] ++ wsX80 ++ wsX70 ++ wsX40 ++ wsX10)
def wsX9_init_r1 : List Cond := [Cond.methodLink RX9 1 objectInit, Cond.instanceMethod objectInit, Cond.code objectInit ⟨#[0xb1]⟩ 1 none, Cond.arrayClass .int, Cond.fieldLink RX9 7 "BuoyTenderModel" "depth" "[I", Cond.fieldLink RX9 13 "BuoyTenderModel" "stationX" "[I", Cond.fieldLink RX9 16 "BuoyTenderModel" "stationY" "[I", Cond.fieldLink RX9 19 "BuoyTenderModel" "radius" "[I", Cond.arrayClass .boolean, Cond.fieldLink RX9 22 "BuoyTenderModel" "isOut" "[Z", Cond.fieldLink RX9 26 "BuoyTenderModel" "isSighted" "[Z", Cond.fieldLink RX9 29 "BuoyTenderModel" "chainMonth" "[I", Cond.fieldLink RX9 32 "BuoyTenderModel" "thickness" "[I", Cond.fieldLink RX9 35 "BuoyTenderModel" "least" "[I", Cond.fieldLink RX9 38 "BuoyTenderModel" "ground" "[I", Cond.fieldLink RX9 41 "BuoyTenderModel" "wear" "[I", Cond.fieldLink RX9 44 "BuoyTenderModel" "steps" "[I", Cond.fieldLink RX9 47 "BuoyTenderModel" "rhythm" "[I", Cond.fieldLink RX9 50 "BuoyTenderModel" "warnMark" "[I", Cond.fieldLink RX9 53 "BuoyTenderModel" "warnKind" "[I", Cond.fieldLink RX9 56 "BuoyTenderModel" "warnFrom" "[I", Cond.fieldLink RX9 59 "BuoyTenderModel" "warnTo" "[I", Cond.fieldLink RX9 62 "BuoyTenderModel" "minutes" "[I", Cond.fieldLink RX9 65 "BuoyTenderModel" "load" "[I"]
def wsX9_init_r2 : List Cond := [Cond.fieldLink RX9 68 "BuoyTenderModel" "weight" "[I", Cond.fieldLink RX9 71 "BuoyTenderModel" "tide" "[I", Cond.fieldLink RX9 74 "BuoyTenderModel" "wind" "[I", Cond.fieldLink RX9 77 "BuoyTenderModel" "pace" "I", Cond.fieldLink RX9 81 "BuoyTenderModel" "mostWind" "I", Cond.fieldLink RX9 84 "BuoyTenderModel" "last" "I", Cond.fieldLink RX9 87 "BuoyTenderModel" "hadSteps" "[I", Cond.fieldLink RX9 90 "BuoyTenderModel" "earliest" "[I", Cond.fieldLink RX9 93 "BuoyTenderModel" "row" "[I", Cond.fieldLink RX9 96 "BuoyTenderModel" "rowBegin" "[I", Cond.fieldLink RX9 99 "BuoyTenderModel" "loadOf" "[I", Cond.fieldLink RX9 102 "BuoyTenderModel" "weightOf" "[I"]
def wsX9_init : List Cond := .code yX9_init cX9_init 1 none :: ((wsX9_init_r1 ++ wsX9_init_r2) ++ wsX90)
def wsX9_in : List Cond := .code yX9_in cX9_in 3 (some .boolean) :: ([])
def wsX9_isPlace : List Cond := .code yX9_isPlace cX9_isPlace 2 (some .boolean) :: ([.methodLink RX9 105 yX9_in, .static yX9_in, .initialized RX9, .code yX9_in cX9_in 3 (some .boolean)])
def wsX9_isMark : List Cond := .code yX9_isMark cX9_isMark 2 (some .boolean) :: ([.fieldLink RX9 109 "BuoyTenderModel" "marks" "I", .methodLink RX9 105 yX9_in, .static yX9_in, .initialized RX9, .code yX9_in cX9_in 3 (some .boolean)] ++ wsX90)
def wsX9_depth : List Cond := .code yX9_depth cX9_depth 8 (some .boolean) :: ([.fieldLink RX9 7 "BuoyTenderModel" "depth" "[I", .fieldLink RX9 116 "BuoyTenderModel" "isKnown" "Z", .methodLink RX9 112 yX9_isPlace, .static yX9_isPlace, .initialized RX9, .code yX9_isPlace cX9_isPlace 2 (some .boolean), .methodLink RX9 105 yX9_in, .static yX9_in, .code yX9_in cX9_in 3 (some .boolean)] ++ wsX90)
def wsX9_mark : List Cond := .code yX9_mark cX9_mark 4 (some .int) :: ([.fieldLink RX9 109 "BuoyTenderModel" "marks" "I", .fieldLink RX9 13 "BuoyTenderModel" "stationX" "[I", .fieldLink RX9 16 "BuoyTenderModel" "stationY" "[I", .fieldLink RX9 19 "BuoyTenderModel" "radius" "[I", .fieldLink RX9 116 "BuoyTenderModel" "isKnown" "Z", .methodLink RX9 112 yX9_isPlace, .static yX9_isPlace, .initialized RX9, .code yX9_isPlace cX9_isPlace 2 (some .boolean), .methodLink RX9 105 yX9_in, .static yX9_in, .code yX9_in cX9_in 3 (some .boolean)] ++ wsX90)
def wsX9_sight : List Cond := .code yX9_sight cX9_sight 3 (some .boolean) :: ([.fieldLink RX9 22 "BuoyTenderModel" "isOut" "[Z", .fieldLink RX9 26 "BuoyTenderModel" "isSighted" "[Z", .methodLink RX9 120 yX9_isMark, .instanceMethod yX9_isMark, .selects RX9 yX9_isMark yX9_isMark, .initialized RX9, .code yX9_isMark cX9_isMark 2 (some .boolean), .fieldLink RX9 109 "BuoyTenderModel" "marks" "I", .methodLink RX9 105 yX9_in, .static yX9_in, .code yX9_in cX9_in 3 (some .boolean)] ++ wsX90)
def wsX9_isWay : List Cond := .code yX9_isWay cX9_isWay 2 (some .boolean) :: ([.methodLink RX9 105 yX9_in, .static yX9_in, .initialized RX9, .code yX9_in cX9_in 3 (some .boolean)])
def wsX9_bearing : List Cond := .code yX9_bearing cX9_bearing 10 (some .boolean) :: ([.fieldLink RX9 13 "BuoyTenderModel" "stationX" "[I", .fieldLink RX9 16 "BuoyTenderModel" "stationY" "[I", .fieldLink RX9 22 "BuoyTenderModel" "isOut" "[Z", .fieldLink RX9 26 "BuoyTenderModel" "isSighted" "[Z", .methodLink RX9 120 yX9_isMark, .instanceMethod yX9_isMark, .selects RX9 yX9_isMark yX9_isMark, .initialized RX9, .code yX9_isMark cX9_isMark 2 (some .boolean), .fieldLink RX9 109 "BuoyTenderModel" "marks" "I", .methodLink RX9 105 yX9_in, .static yX9_in, .code yX9_in cX9_in 3 (some .boolean), .methodLink RX9 124 yX9_isWay, .static yX9_isWay, .code yX9_isWay cX9_isWay 2 (some .boolean)] ++ wsX90)
def wsX9_sounding : List Cond := .code yX9_sounding cX9_sounding 5 (some .boolean) :: ([.fieldLink RX9 22 "BuoyTenderModel" "isOut" "[Z", .fieldLink RX9 7 "BuoyTenderModel" "depth" "[I", .fieldLink RX9 26 "BuoyTenderModel" "isSighted" "[Z", .methodLink RX9 120 yX9_isMark, .instanceMethod yX9_isMark, .selects RX9 yX9_isMark yX9_isMark, .initialized RX9, .code yX9_isMark cX9_isMark 2 (some .boolean), .fieldLink RX9 109 "BuoyTenderModel" "marks" "I", .methodLink RX9 105 yX9_in, .static yX9_in, .code yX9_in cX9_in 3 (some .boolean)] ++ wsX90)
def wsX9_square : List Cond := .code yX9_square cX9_square 2 (some .int) :: ([])
def wsX9_lies : List Cond := .code yX9_lies cX9_lies 12 (some .int) :: ([.fieldLink RX9 22 "BuoyTenderModel" "isOut" "[Z", .fieldLink RX9 13 "BuoyTenderModel" "stationX" "[I", .fieldLink RX9 16 "BuoyTenderModel" "stationY" "[I", .fieldLink RX9 19 "BuoyTenderModel" "radius" "[I", .fieldLink RX9 26 "BuoyTenderModel" "isSighted" "[Z", .methodLink RX9 120 yX9_isMark, .instanceMethod yX9_isMark, .selects RX9 yX9_isMark yX9_isMark, .initialized RX9, .code yX9_isMark cX9_isMark 2 (some .boolean), .fieldLink RX9 109 "BuoyTenderModel" "marks" "I", .methodLink RX9 105 yX9_in, .static yX9_in, .code yX9_in cX9_in 3 (some .boolean), .methodLink RX9 127 yX9_square, .static yX9_square, .code yX9_square cX9_square 2 (some .int)] ++ wsX90)
def wsX9_day : List Cond := .code yX9_day cX9_day 2 (some .boolean) :: ([.fieldLink RX9 131 "BuoyTenderModel" "clock" "I", .methodLink RX9 105 yX9_in, .static yX9_in, .initialized RX9, .code yX9_in cX9_in 3 (some .boolean)] ++ wsX90)
def wsX9_chain : List Cond := .code yX9_chain cX9_chain 5 (some .boolean) :: ([.fieldLink RX9 29 "BuoyTenderModel" "chainMonth" "[I", .fieldLink RX9 131 "BuoyTenderModel" "clock" "I", .fieldLink RX9 32 "BuoyTenderModel" "thickness" "[I", .fieldLink RX9 35 "BuoyTenderModel" "least" "[I", .fieldLink RX9 38 "BuoyTenderModel" "ground" "[I", .methodLink RX9 120 yX9_isMark, .instanceMethod yX9_isMark, .selects RX9 yX9_isMark yX9_isMark, .initialized RX9, .code yX9_isMark cX9_isMark 2 (some .boolean), .fieldLink RX9 109 "BuoyTenderModel" "marks" "I", .methodLink RX9 105 yX9_in, .static yX9_in, .code yX9_in cX9_in 3 (some .boolean)] ++ wsX90)
def wsX9_wear : List Cond := .code yX9_wear cX9_wear 4 (some .boolean) :: ([.fieldLink RX9 41 "BuoyTenderModel" "wear" "[I", .methodLink RX9 105 yX9_in, .static yX9_in, .initialized RX9, .code yX9_in cX9_in 3 (some .boolean)] ++ wsX90)
def wsX9_chainOf : List Cond := .code yX9_chainOf cX9_chainOf 7 (some .int) :: ([.fieldLink RX9 29 "BuoyTenderModel" "chainMonth" "[I", .fieldLink RX9 32 "BuoyTenderModel" "thickness" "[I", .fieldLink RX9 41 "BuoyTenderModel" "wear" "[I", .fieldLink RX9 38 "BuoyTenderModel" "ground" "[I", .fieldLink RX9 35 "BuoyTenderModel" "least" "[I", .fieldLink RX9 131 "BuoyTenderModel" "clock" "I", .methodLink RX9 120 yX9_isMark, .instanceMethod yX9_isMark, .selects RX9 yX9_isMark yX9_isMark, .initialized RX9, .code yX9_isMark cX9_isMark 2 (some .boolean), .fieldLink RX9 109 "BuoyTenderModel" "marks" "I", .methodLink RX9 105 yX9_in, .static yX9_in, .code yX9_in cX9_in 3 (some .boolean)] ++ wsX90)
def wsX9_isAlike : List Cond := .code yX9_isAlike cX9_isAlike 7 (some .boolean) :: ([.fieldLink RX9 44 "BuoyTenderModel" "steps" "[I", .fieldLink RX9 47 "BuoyTenderModel" "rhythm" "[I"] ++ wsX90)
def wsX9_isNear : List Cond := .code yX9_isNear cX9_isNear 4 (some .boolean) :: ([.fieldLink RX9 13 "BuoyTenderModel" "stationX" "[I", .fieldLink RX9 16 "BuoyTenderModel" "stationY" "[I", .methodLink RX9 127 yX9_square, .static yX9_square, .initialized RX9, .code yX9_square cX9_square 2 (some .int)] ++ wsX90)
def wsX9_clashes : List Cond := .code yX9_clashes cX9_clashes 5 (some .boolean) :: ([.fieldLink RX9 109 "BuoyTenderModel" "marks" "I", .methodLink RX9 134 yX9_isNear, .instanceMethod yX9_isNear, .selects RX9 yX9_isNear yX9_isNear, .initialized RX9, .code yX9_isNear cX9_isNear 4 (some .boolean), .fieldLink RX9 13 "BuoyTenderModel" "stationX" "[I", .fieldLink RX9 16 "BuoyTenderModel" "stationY" "[I", .methodLink RX9 127 yX9_square, .static yX9_square, .code yX9_square cX9_square 2 (some .int), .methodLink RX9 137 yX9_isAlike, .instanceMethod yX9_isAlike, .selects RX9 yX9_isAlike yX9_isAlike, .code yX9_isAlike cX9_isAlike 7 (some .boolean), .fieldLink RX9 44 "BuoyTenderModel" "steps" "[I", .fieldLink RX9 47 "BuoyTenderModel" "rhythm" "[I"] ++ wsX90)
def wsX9_light_r1 : List Cond := [Cond.fieldLink RX9 44 "BuoyTenderModel" "steps" "[I", Cond.fieldLink RX9 87 "BuoyTenderModel" "hadSteps" "[I", Cond.fieldLink RX9 47 "BuoyTenderModel" "rhythm" "[I", Cond.fieldLink RX9 140 "BuoyTenderModel" "nearness" "I", Cond.methodLink RX9 120 yX9_isMark, Cond.instanceMethod yX9_isMark, Cond.selects RX9 yX9_isMark yX9_isMark, Cond.initialized RX9, Cond.code yX9_isMark cX9_isMark 2 (some .boolean), Cond.fieldLink RX9 109 "BuoyTenderModel" "marks" "I", Cond.methodLink RX9 105 yX9_in, Cond.static yX9_in, Cond.code yX9_in cX9_in 3 (some .boolean), Cond.methodLink RX9 143 yX9_clashes, Cond.instanceMethod yX9_clashes, Cond.selects RX9 yX9_clashes yX9_clashes, Cond.code yX9_clashes cX9_clashes 5 (some .boolean), Cond.methodLink RX9 134 yX9_isNear, Cond.instanceMethod yX9_isNear, Cond.selects RX9 yX9_isNear yX9_isNear, Cond.code yX9_isNear cX9_isNear 4 (some .boolean), Cond.fieldLink RX9 13 "BuoyTenderModel" "stationX" "[I", Cond.fieldLink RX9 16 "BuoyTenderModel" "stationY" "[I", Cond.methodLink RX9 127 yX9_square]
def wsX9_light_r2 : List Cond := [Cond.static yX9_square, Cond.code yX9_square cX9_square 2 (some .int), Cond.methodLink RX9 137 yX9_isAlike, Cond.instanceMethod yX9_isAlike, Cond.selects RX9 yX9_isAlike yX9_isAlike, Cond.code yX9_isAlike cX9_isAlike 7 (some .boolean)]
def wsX9_light : List Cond := .code yX9_light cX9_light 8 (some .boolean) :: ((wsX9_light_r1 ++ wsX9_light_r2) ++ wsX90)
def wsX9_near_r1 : List Cond := [Cond.fieldLink RX9 109 "BuoyTenderModel" "marks" "I", Cond.fieldLink RX9 140 "BuoyTenderModel" "nearness" "I", Cond.methodLink RX9 105 yX9_in, Cond.static yX9_in, Cond.initialized RX9, Cond.code yX9_in cX9_in 3 (some .boolean), Cond.methodLink RX9 143 yX9_clashes, Cond.instanceMethod yX9_clashes, Cond.selects RX9 yX9_clashes yX9_clashes, Cond.code yX9_clashes cX9_clashes 5 (some .boolean), Cond.methodLink RX9 134 yX9_isNear, Cond.instanceMethod yX9_isNear, Cond.selects RX9 yX9_isNear yX9_isNear, Cond.code yX9_isNear cX9_isNear 4 (some .boolean), Cond.fieldLink RX9 13 "BuoyTenderModel" "stationX" "[I", Cond.fieldLink RX9 16 "BuoyTenderModel" "stationY" "[I", Cond.methodLink RX9 127 yX9_square, Cond.static yX9_square, Cond.code yX9_square cX9_square 2 (some .int), Cond.methodLink RX9 137 yX9_isAlike, Cond.instanceMethod yX9_isAlike, Cond.selects RX9 yX9_isAlike yX9_isAlike, Cond.code yX9_isAlike cX9_isAlike 7 (some .boolean), Cond.fieldLink RX9 44 "BuoyTenderModel" "steps" "[I"]
def wsX9_near_r2 : List Cond := [Cond.fieldLink RX9 47 "BuoyTenderModel" "rhythm" "[I"]
def wsX9_near : List Cond := .code yX9_near cX9_near 3 (some .boolean) :: ((wsX9_near_r1 ++ wsX9_near_r2) ++ wsX90)
def wsX9_alike : List Cond := .code yX9_alike cX9_alike 3 (some .int) :: ([.fieldLink RX9 44 "BuoyTenderModel" "steps" "[I", .methodLink RX9 120 yX9_isMark, .instanceMethod yX9_isMark, .selects RX9 yX9_isMark yX9_isMark, .initialized RX9, .code yX9_isMark cX9_isMark 2 (some .boolean), .fieldLink RX9 109 "BuoyTenderModel" "marks" "I", .methodLink RX9 105 yX9_in, .static yX9_in, .code yX9_in cX9_in 3 (some .boolean), .methodLink RX9 137 yX9_isAlike, .instanceMethod yX9_isAlike, .selects RX9 yX9_isAlike yX9_isAlike, .code yX9_isAlike cX9_isAlike 7 (some .boolean), .fieldLink RX9 47 "BuoyTenderModel" "rhythm" "[I"] ++ wsX90)
def wsX9_warn : List Cond := .code yX9_warn cX9_warn 4 (some .int) :: ([.fieldLink RX9 146 "BuoyTenderModel" "warnings" "I", .fieldLink RX9 50 "BuoyTenderModel" "warnMark" "[I", .fieldLink RX9 53 "BuoyTenderModel" "warnKind" "[I", .fieldLink RX9 59 "BuoyTenderModel" "warnTo" "[I", .fieldLink RX9 56 "BuoyTenderModel" "warnFrom" "[I", .fieldLink RX9 131 "BuoyTenderModel" "clock" "I", .methodLink RX9 120 yX9_isMark, .instanceMethod yX9_isMark, .selects RX9 yX9_isMark yX9_isMark, .initialized RX9, .code yX9_isMark cX9_isMark 2 (some .boolean), .fieldLink RX9 109 "BuoyTenderModel" "marks" "I", .methodLink RX9 105 yX9_in, .static yX9_in, .code yX9_in cX9_in 3 (some .boolean)] ++ wsX90)
def wsX9_cancel : List Cond := .code yX9_cancel cX9_cancel 2 (some .boolean) :: ([.fieldLink RX9 146 "BuoyTenderModel" "warnings" "I", .fieldLink RX9 59 "BuoyTenderModel" "warnTo" "[I", .fieldLink RX9 131 "BuoyTenderModel" "clock" "I", .methodLink RX9 105 yX9_in, .static yX9_in, .initialized RX9, .code yX9_in cX9_in 3 (some .boolean)] ++ wsX90)
def wsX9_isForce : List Cond := .code yX9_isForce cX9_isForce 3 (some .boolean) :: ([.fieldLink RX9 56 "BuoyTenderModel" "warnFrom" "[I", .fieldLink RX9 59 "BuoyTenderModel" "warnTo" "[I"] ++ wsX90)
def wsX9_list : List Cond := .code yX9_list cX9_list 4 (some .int) :: ([.fieldLink RX9 131 "BuoyTenderModel" "clock" "I", .fieldLink RX9 146 "BuoyTenderModel" "warnings" "I", .methodLink RX9 105 yX9_in, .static yX9_in, .initialized RX9, .code yX9_in cX9_in 3 (some .boolean), .methodLink RX9 149 yX9_isForce, .instanceMethod yX9_isForce, .selects RX9 yX9_isForce yX9_isForce, .code yX9_isForce cX9_isForce 3 (some .boolean), .fieldLink RX9 56 "BuoyTenderModel" "warnFrom" "[I", .fieldLink RX9 59 "BuoyTenderModel" "warnTo" "[I"] ++ wsX90)
def wsX9_listed : List Cond := .code yX9_listed cX9_listed 5 (some .int) :: ([.fieldLink RX9 146 "BuoyTenderModel" "warnings" "I", .fieldLink RX9 131 "BuoyTenderModel" "clock" "I", .methodLink RX9 105 yX9_in, .static yX9_in, .initialized RX9, .code yX9_in cX9_in 3 (some .boolean), .methodLink RX9 149 yX9_isForce, .instanceMethod yX9_isForce, .selects RX9 yX9_isForce yX9_isForce, .code yX9_isForce cX9_isForce 3 (some .boolean), .fieldLink RX9 56 "BuoyTenderModel" "warnFrom" "[I", .fieldLink RX9 59 "BuoyTenderModel" "warnTo" "[I"] ++ wsX90)
def wsX9_warning : List Cond := .code yX9_warning cX9_warning 3 (some .int) :: ([.fieldLink RX9 146 "BuoyTenderModel" "warnings" "I", .fieldLink RX9 50 "BuoyTenderModel" "warnMark" "[I", .fieldLink RX9 53 "BuoyTenderModel" "warnKind" "[I", .fieldLink RX9 56 "BuoyTenderModel" "warnFrom" "[I", .fieldLink RX9 59 "BuoyTenderModel" "warnTo" "[I", .methodLink RX9 105 yX9_in, .static yX9_in, .initialized RX9, .code yX9_in cX9_in 3 (some .boolean)] ++ wsX90)
def wsX9_job : List Cond := .code yX9_job cX9_job 5 (some .boolean) :: ([.fieldLink RX9 62 "BuoyTenderModel" "minutes" "[I", .fieldLink RX9 65 "BuoyTenderModel" "load" "[I", .fieldLink RX9 68 "BuoyTenderModel" "weight" "[I", .fieldLink RX9 116 "BuoyTenderModel" "isKnown" "Z", .methodLink RX9 120 yX9_isMark, .instanceMethod yX9_isMark, .selects RX9 yX9_isMark yX9_isMark, .initialized RX9, .code yX9_isMark cX9_isMark 2 (some .boolean), .fieldLink RX9 109 "BuoyTenderModel" "marks" "I", .methodLink RX9 105 yX9_in, .static yX9_in, .code yX9_in cX9_in 3 (some .boolean)] ++ wsX90)
def wsX9_weather : List Cond := .code yX9_weather cX9_weather 4 (some .boolean) :: ([.fieldLink RX9 71 "BuoyTenderModel" "tide" "[I", .fieldLink RX9 74 "BuoyTenderModel" "wind" "[I", .fieldLink RX9 116 "BuoyTenderModel" "isKnown" "Z", .methodLink RX9 105 yX9_in, .static yX9_in, .initialized RX9, .code yX9_in cX9_in 3 (some .boolean)] ++ wsX90)
def wsX9_ship : List Cond := .code yX9_ship cX9_ship 5 (some .boolean) :: ([.fieldLink RX9 77 "BuoyTenderModel" "pace" "I", .fieldLink RX9 152 "BuoyTenderModel" "draught" "I", .fieldLink RX9 81 "BuoyTenderModel" "mostWind" "I", .fieldLink RX9 155 "BuoyTenderModel" "carries" "I", .fieldLink RX9 116 "BuoyTenderModel" "isKnown" "Z", .methodLink RX9 105 yX9_in, .static yX9_in, .initialized RX9, .code yX9_in cX9_in 3 (some .boolean)] ++ wsX90)
def wsX9_at : List Cond := .code yX9_at cX9_at 5 (some .boolean) :: ([.fieldLink RX9 158 "BuoyTenderModel" "shipX" "I", .fieldLink RX9 161 "BuoyTenderModel" "shipY" "I", .fieldLink RX9 164 "BuoyTenderModel" "begin" "I", .fieldLink RX9 84 "BuoyTenderModel" "last" "I", .fieldLink RX9 116 "BuoyTenderModel" "isKnown" "Z", .methodLink RX9 112 yX9_isPlace, .static yX9_isPlace, .initialized RX9, .code yX9_isPlace cX9_isPlace 2 (some .boolean), .methodLink RX9 105 yX9_in, .static yX9_in, .code yX9_in cX9_in 3 (some .boolean)] ++ wsX90)
def wsX9_greater : List Cond := .code yX9_greater cX9_greater 2 (some .int) :: ([])
def wsX9_way : List Cond := .code yX9_way cX9_way 5 (some .int) :: ([.fieldLink RX9 158 "BuoyTenderModel" "shipX" "I", .fieldLink RX9 13 "BuoyTenderModel" "stationX" "[I", .fieldLink RX9 161 "BuoyTenderModel" "shipY" "I", .fieldLink RX9 16 "BuoyTenderModel" "stationY" "[I", .fieldLink RX9 77 "BuoyTenderModel" "pace" "I", .methodLink RX9 167 yX9_greater, .static yX9_greater, .initialized RX9, .code yX9_greater cX9_greater 2 (some .int)] ++ wsX90)
def wsX9_begins : List Cond := .code yX9_begins cX9_begins 5 (some .int) :: ([.fieldLink RX9 7 "BuoyTenderModel" "depth" "[I", .fieldLink RX9 13 "BuoyTenderModel" "stationX" "[I", .fieldLink RX9 16 "BuoyTenderModel" "stationY" "[I", .fieldLink RX9 71 "BuoyTenderModel" "tide" "[I", .fieldLink RX9 152 "BuoyTenderModel" "draught" "I", .fieldLink RX9 74 "BuoyTenderModel" "wind" "[I", .fieldLink RX9 81 "BuoyTenderModel" "mostWind" "I"] ++ wsX90)
def wsX9_sums : List Cond := .code yX9_sums cX9_sums 3 none :: ([.fieldLink RX9 109 "BuoyTenderModel" "marks" "I", .fieldLink RX9 99 "BuoyTenderModel" "loadOf" "[I", .fieldLink RX9 102 "BuoyTenderModel" "weightOf" "[I", .fieldLink RX9 65 "BuoyTenderModel" "load" "[I", .fieldLink RX9 68 "BuoyTenderModel" "weight" "[I"] ++ wsX90)
def wsX9_back : List Cond := .code yX9_back cX9_back 6 none :: ([.fieldLink RX9 102 "BuoyTenderModel" "weightOf" "[I", .fieldLink RX9 84 "BuoyTenderModel" "last" "I", .fieldLink RX9 170 "BuoyTenderModel" "foundWeight" "I", .fieldLink RX9 182 "BuoyTenderModel" "foundBack" "I", .methodLink RX9 179 yX9_way, .instanceMethod yX9_way, .selects RX9 yX9_way yX9_way, .initialized RX9, .code yX9_way cX9_way 5 (some .int), .fieldLink RX9 158 "BuoyTenderModel" "shipX" "I", .fieldLink RX9 13 "BuoyTenderModel" "stationX" "[I", .fieldLink RX9 161 "BuoyTenderModel" "shipY" "I", .fieldLink RX9 16 "BuoyTenderModel" "stationY" "[I", .fieldLink RX9 77 "BuoyTenderModel" "pace" "I", .methodLink RX9 167 yX9_greater, .static yX9_greater, .code yX9_greater cX9_greater 2 (some .int)] ++ wsX90)
def wsX9_does_r1 : List Cond := [Cond.fieldLink RX9 68 "BuoyTenderModel" "weight" "[I", Cond.fieldLink RX9 99 "BuoyTenderModel" "loadOf" "[I", Cond.fieldLink RX9 155 "BuoyTenderModel" "carries" "I", Cond.fieldLink RX9 62 "BuoyTenderModel" "minutes" "[I", Cond.fieldLink RX9 84 "BuoyTenderModel" "last" "I", Cond.methodLink RX9 179 yX9_way, Cond.instanceMethod yX9_way, Cond.selects RX9 yX9_way yX9_way, Cond.initialized RX9, Cond.code yX9_way cX9_way 5 (some .int), Cond.fieldLink RX9 158 "BuoyTenderModel" "shipX" "I", Cond.fieldLink RX9 13 "BuoyTenderModel" "stationX" "[I", Cond.fieldLink RX9 161 "BuoyTenderModel" "shipY" "I", Cond.fieldLink RX9 16 "BuoyTenderModel" "stationY" "[I", Cond.fieldLink RX9 77 "BuoyTenderModel" "pace" "I", Cond.methodLink RX9 167 yX9_greater, Cond.static yX9_greater, Cond.code yX9_greater cX9_greater 2 (some .int), Cond.methodLink RX9 189 yX9_begins, Cond.instanceMethod yX9_begins, Cond.selects RX9 yX9_begins yX9_begins, Cond.code yX9_begins cX9_begins 5 (some .int), Cond.fieldLink RX9 7 "BuoyTenderModel" "depth" "[I", Cond.fieldLink RX9 71 "BuoyTenderModel" "tide" "[I"]
def wsX9_does_r2 : List Cond := [Cond.fieldLink RX9 152 "BuoyTenderModel" "draught" "I", Cond.fieldLink RX9 74 "BuoyTenderModel" "wind" "[I", Cond.fieldLink RX9 81 "BuoyTenderModel" "mostWind" "I"]
def wsX9_does : List Cond := .code yX9_does cX9_does 6 (some .int) :: ((wsX9_does_r1 ++ wsX9_does_r2) ++ wsX90)
def wsX9_steps_r1 : List Cond := [Cond.fieldLink RX9 109 "BuoyTenderModel" "marks" "I", Cond.fieldLink RX9 90 "BuoyTenderModel" "earliest" "[I", Cond.methodLink RX9 185 yX9_does, Cond.instanceMethod yX9_does, Cond.selects RX9 yX9_does yX9_does, Cond.initialized RX9, Cond.code yX9_does cX9_does 6 (some .int), Cond.fieldLink RX9 68 "BuoyTenderModel" "weight" "[I", Cond.fieldLink RX9 99 "BuoyTenderModel" "loadOf" "[I", Cond.fieldLink RX9 155 "BuoyTenderModel" "carries" "I", Cond.fieldLink RX9 62 "BuoyTenderModel" "minutes" "[I", Cond.fieldLink RX9 84 "BuoyTenderModel" "last" "I", Cond.methodLink RX9 179 yX9_way, Cond.instanceMethod yX9_way, Cond.selects RX9 yX9_way yX9_way, Cond.code yX9_way cX9_way 5 (some .int), Cond.fieldLink RX9 158 "BuoyTenderModel" "shipX" "I", Cond.fieldLink RX9 13 "BuoyTenderModel" "stationX" "[I", Cond.fieldLink RX9 161 "BuoyTenderModel" "shipY" "I", Cond.fieldLink RX9 16 "BuoyTenderModel" "stationY" "[I", Cond.fieldLink RX9 77 "BuoyTenderModel" "pace" "I", Cond.methodLink RX9 167 yX9_greater, Cond.static yX9_greater, Cond.code yX9_greater cX9_greater 2 (some .int)]
def wsX9_steps_r2 : List Cond := [Cond.methodLink RX9 189 yX9_begins, Cond.instanceMethod yX9_begins, Cond.selects RX9 yX9_begins yX9_begins, Cond.code yX9_begins cX9_begins 5 (some .int), Cond.fieldLink RX9 7 "BuoyTenderModel" "depth" "[I", Cond.fieldLink RX9 71 "BuoyTenderModel" "tide" "[I", Cond.fieldLink RX9 152 "BuoyTenderModel" "draught" "I", Cond.fieldLink RX9 74 "BuoyTenderModel" "wind" "[I", Cond.fieldLink RX9 81 "BuoyTenderModel" "mostWind" "I"]
def wsX9_steps : List Cond := .code yX9_steps cX9_steps 7 none :: ((wsX9_steps_r1 ++ wsX9_steps_r2) ++ wsX90)
def wsX9_goesOn_r1 : List Cond := [Cond.fieldLink RX9 109 "BuoyTenderModel" "marks" "I", Cond.fieldLink RX9 90 "BuoyTenderModel" "earliest" "[I", Cond.fieldLink RX9 170 "BuoyTenderModel" "foundWeight" "I", Cond.methodLink RX9 173 yX9_back, Cond.instanceMethod yX9_back, Cond.selects RX9 yX9_back yX9_back, Cond.initialized RX9, Cond.code yX9_back cX9_back 6 none, Cond.fieldLink RX9 102 "BuoyTenderModel" "weightOf" "[I", Cond.fieldLink RX9 84 "BuoyTenderModel" "last" "I", Cond.fieldLink RX9 182 "BuoyTenderModel" "foundBack" "I", Cond.methodLink RX9 179 yX9_way, Cond.instanceMethod yX9_way, Cond.selects RX9 yX9_way yX9_way, Cond.code yX9_way cX9_way 5 (some .int), Cond.fieldLink RX9 158 "BuoyTenderModel" "shipX" "I", Cond.fieldLink RX9 13 "BuoyTenderModel" "stationX" "[I", Cond.fieldLink RX9 161 "BuoyTenderModel" "shipY" "I", Cond.fieldLink RX9 16 "BuoyTenderModel" "stationY" "[I", Cond.fieldLink RX9 77 "BuoyTenderModel" "pace" "I", Cond.methodLink RX9 167 yX9_greater, Cond.static yX9_greater, Cond.code yX9_greater cX9_greater 2 (some .int), Cond.methodLink RX9 177 yX9_steps]
def wsX9_goesOn_r2 : List Cond := [Cond.instanceMethod yX9_steps, Cond.selects RX9 yX9_steps yX9_steps, Cond.code yX9_steps cX9_steps 7 none, Cond.methodLink RX9 185 yX9_does, Cond.instanceMethod yX9_does, Cond.selects RX9 yX9_does yX9_does, Cond.code yX9_does cX9_does 6 (some .int), Cond.fieldLink RX9 68 "BuoyTenderModel" "weight" "[I", Cond.fieldLink RX9 99 "BuoyTenderModel" "loadOf" "[I", Cond.fieldLink RX9 155 "BuoyTenderModel" "carries" "I", Cond.fieldLink RX9 62 "BuoyTenderModel" "minutes" "[I", Cond.methodLink RX9 189 yX9_begins, Cond.instanceMethod yX9_begins, Cond.selects RX9 yX9_begins yX9_begins, Cond.code yX9_begins cX9_begins 5 (some .int), Cond.fieldLink RX9 7 "BuoyTenderModel" "depth" "[I", Cond.fieldLink RX9 71 "BuoyTenderModel" "tide" "[I", Cond.fieldLink RX9 152 "BuoyTenderModel" "draught" "I", Cond.fieldLink RX9 74 "BuoyTenderModel" "wind" "[I", Cond.fieldLink RX9 81 "BuoyTenderModel" "mostWind" "I"]
def wsX9_goesOn : List Cond := .code yX9_goesOn cX9_goesOn 8 none :: ((wsX9_goesOn_r1 ++ wsX9_goesOn_r2) ++ wsX90)
def wsX9_rounds_r1 : List Cond := [Cond.fieldLink RX9 116 "BuoyTenderModel" "isKnown" "Z", Cond.fieldLink RX9 195 "BuoyTenderModel" "many" "I", Cond.fieldLink RX9 164 "BuoyTenderModel" "begin" "I", Cond.fieldLink RX9 170 "BuoyTenderModel" "foundWeight" "I", Cond.fieldLink RX9 201 "BuoyTenderModel" "bestWeight" "I", Cond.fieldLink RX9 182 "BuoyTenderModel" "foundBack" "I", Cond.fieldLink RX9 204 "BuoyTenderModel" "bestBack" "I", Cond.fieldLink RX9 102 "BuoyTenderModel" "weightOf" "[I", Cond.fieldLink RX9 93 "BuoyTenderModel" "row" "[I", Cond.fieldLink RX9 96 "BuoyTenderModel" "rowBegin" "[I", Cond.fieldLink RX9 62 "BuoyTenderModel" "minutes" "[I", Cond.methodLink RX9 192 yX9_sums, Cond.instanceMethod yX9_sums, Cond.selects RX9 yX9_sums yX9_sums, Cond.initialized RX9, Cond.code yX9_sums cX9_sums 3 none, Cond.fieldLink RX9 109 "BuoyTenderModel" "marks" "I", Cond.fieldLink RX9 99 "BuoyTenderModel" "loadOf" "[I", Cond.fieldLink RX9 65 "BuoyTenderModel" "load" "[I", Cond.fieldLink RX9 68 "BuoyTenderModel" "weight" "[I", Cond.methodLink RX9 198 yX9_goesOn, Cond.instanceMethod yX9_goesOn, Cond.selects RX9 yX9_goesOn yX9_goesOn, Cond.code yX9_goesOn cX9_goesOn 8 none]
def wsX9_rounds_r2 : List Cond := [Cond.fieldLink RX9 90 "BuoyTenderModel" "earliest" "[I", Cond.methodLink RX9 173 yX9_back, Cond.instanceMethod yX9_back, Cond.selects RX9 yX9_back yX9_back, Cond.code yX9_back cX9_back 6 none, Cond.fieldLink RX9 84 "BuoyTenderModel" "last" "I", Cond.methodLink RX9 179 yX9_way, Cond.instanceMethod yX9_way, Cond.selects RX9 yX9_way yX9_way, Cond.code yX9_way cX9_way 5 (some .int), Cond.fieldLink RX9 158 "BuoyTenderModel" "shipX" "I", Cond.fieldLink RX9 13 "BuoyTenderModel" "stationX" "[I", Cond.fieldLink RX9 161 "BuoyTenderModel" "shipY" "I", Cond.fieldLink RX9 16 "BuoyTenderModel" "stationY" "[I", Cond.fieldLink RX9 77 "BuoyTenderModel" "pace" "I", Cond.methodLink RX9 167 yX9_greater, Cond.static yX9_greater, Cond.code yX9_greater cX9_greater 2 (some .int), Cond.methodLink RX9 177 yX9_steps, Cond.instanceMethod yX9_steps, Cond.selects RX9 yX9_steps yX9_steps, Cond.code yX9_steps cX9_steps 7 none, Cond.methodLink RX9 185 yX9_does, Cond.instanceMethod yX9_does]
def wsX9_rounds_r3 : List Cond := [Cond.selects RX9 yX9_does yX9_does, Cond.code yX9_does cX9_does 6 (some .int), Cond.fieldLink RX9 155 "BuoyTenderModel" "carries" "I", Cond.methodLink RX9 189 yX9_begins, Cond.instanceMethod yX9_begins, Cond.selects RX9 yX9_begins yX9_begins, Cond.code yX9_begins cX9_begins 5 (some .int), Cond.fieldLink RX9 7 "BuoyTenderModel" "depth" "[I", Cond.fieldLink RX9 71 "BuoyTenderModel" "tide" "[I", Cond.fieldLink RX9 152 "BuoyTenderModel" "draught" "I", Cond.fieldLink RX9 74 "BuoyTenderModel" "wind" "[I", Cond.fieldLink RX9 81 "BuoyTenderModel" "mostWind" "I"]
def wsX9_rounds : List Cond := .code yX9_rounds cX9_rounds 7 none :: ((wsX9_rounds_r1 ++ (wsX9_rounds_r2 ++ wsX9_rounds_r3)) ++ wsX90)
def wsX9_round_r1 : List Cond := [Cond.fieldLink RX9 195 "BuoyTenderModel" "many" "I", Cond.fieldLink RX9 65 "BuoyTenderModel" "load" "[I", Cond.fieldLink RX9 93 "BuoyTenderModel" "row" "[I", Cond.fieldLink RX9 201 "BuoyTenderModel" "bestWeight" "I", Cond.fieldLink RX9 204 "BuoyTenderModel" "bestBack" "I", Cond.fieldLink RX9 96 "BuoyTenderModel" "rowBegin" "[I", Cond.methodLink RX9 207 yX9_rounds, Cond.instanceMethod yX9_rounds, Cond.selects RX9 yX9_rounds yX9_rounds, Cond.initialized RX9, Cond.code yX9_rounds cX9_rounds 7 none, Cond.fieldLink RX9 116 "BuoyTenderModel" "isKnown" "Z", Cond.fieldLink RX9 164 "BuoyTenderModel" "begin" "I", Cond.fieldLink RX9 170 "BuoyTenderModel" "foundWeight" "I", Cond.fieldLink RX9 182 "BuoyTenderModel" "foundBack" "I", Cond.fieldLink RX9 102 "BuoyTenderModel" "weightOf" "[I", Cond.fieldLink RX9 62 "BuoyTenderModel" "minutes" "[I", Cond.methodLink RX9 192 yX9_sums, Cond.instanceMethod yX9_sums, Cond.selects RX9 yX9_sums yX9_sums, Cond.code yX9_sums cX9_sums 3 none, Cond.fieldLink RX9 109 "BuoyTenderModel" "marks" "I", Cond.fieldLink RX9 99 "BuoyTenderModel" "loadOf" "[I", Cond.fieldLink RX9 68 "BuoyTenderModel" "weight" "[I"]
def wsX9_round_r2 : List Cond := [Cond.methodLink RX9 198 yX9_goesOn, Cond.instanceMethod yX9_goesOn, Cond.selects RX9 yX9_goesOn yX9_goesOn, Cond.code yX9_goesOn cX9_goesOn 8 none, Cond.fieldLink RX9 90 "BuoyTenderModel" "earliest" "[I", Cond.methodLink RX9 173 yX9_back, Cond.instanceMethod yX9_back, Cond.selects RX9 yX9_back yX9_back, Cond.code yX9_back cX9_back 6 none, Cond.fieldLink RX9 84 "BuoyTenderModel" "last" "I", Cond.methodLink RX9 179 yX9_way, Cond.instanceMethod yX9_way, Cond.selects RX9 yX9_way yX9_way, Cond.code yX9_way cX9_way 5 (some .int), Cond.fieldLink RX9 158 "BuoyTenderModel" "shipX" "I", Cond.fieldLink RX9 13 "BuoyTenderModel" "stationX" "[I", Cond.fieldLink RX9 161 "BuoyTenderModel" "shipY" "I", Cond.fieldLink RX9 16 "BuoyTenderModel" "stationY" "[I", Cond.fieldLink RX9 77 "BuoyTenderModel" "pace" "I", Cond.methodLink RX9 167 yX9_greater, Cond.static yX9_greater, Cond.code yX9_greater cX9_greater 2 (some .int), Cond.methodLink RX9 177 yX9_steps, Cond.instanceMethod yX9_steps]
def wsX9_round_r3 : List Cond := [Cond.selects RX9 yX9_steps yX9_steps, Cond.code yX9_steps cX9_steps 7 none, Cond.methodLink RX9 185 yX9_does, Cond.instanceMethod yX9_does, Cond.selects RX9 yX9_does yX9_does, Cond.code yX9_does cX9_does 6 (some .int), Cond.fieldLink RX9 155 "BuoyTenderModel" "carries" "I", Cond.methodLink RX9 189 yX9_begins, Cond.instanceMethod yX9_begins, Cond.selects RX9 yX9_begins yX9_begins, Cond.code yX9_begins cX9_begins 5 (some .int), Cond.fieldLink RX9 7 "BuoyTenderModel" "depth" "[I", Cond.fieldLink RX9 71 "BuoyTenderModel" "tide" "[I", Cond.fieldLink RX9 152 "BuoyTenderModel" "draught" "I", Cond.fieldLink RX9 74 "BuoyTenderModel" "wind" "[I", Cond.fieldLink RX9 81 "BuoyTenderModel" "mostWind" "I", Cond.methodLink RX9 105 yX9_in, Cond.static yX9_in, Cond.code yX9_in cX9_in 3 (some .boolean)]
def wsX9_round : List Cond := .code yX9_round cX9_round 4 (some .int) :: ((wsX9_round_r1 ++ (wsX9_round_r2 ++ wsX9_round_r3)) ++ wsX90)
def wsX9_about : List Cond := .code yX9_about cX9_about 4 (some .int) :: ([.fieldLink RX9 109 "BuoyTenderModel" "marks" "I", .fieldLink RX9 68 "BuoyTenderModel" "weight" "[I", .fieldLink RX9 131 "BuoyTenderModel" "clock" "I", .fieldLink RX9 146 "BuoyTenderModel" "warnings" "I", .fieldLink RX9 140 "BuoyTenderModel" "nearness" "I", .fieldLink RX9 84 "BuoyTenderModel" "last" "I"] ++ wsX90)
def wsJ9_abs_0f7a4 : List Cond := .code yJ9_abs_0f7a4 cJ9_abs_0f7a4 1 (some .int) :: ([])
def wsJ9_max_7cf53 : List Cond := .code yJ9_max_7cf53 cJ9_max_7cf53 2 (some .int) :: ([])
def wsJ9_min_7cf53 : List Cond := .code yJ9_min_7cf53 cJ9_min_7cf53 2 (some .int) :: ([])
theorem dJ9_abs_0f7a4_0 : decode cJ9_abs_0f7a4 0 = .ok (.iload_n 0, 1) := by decide +kernel
theorem dJ9_abs_0f7a4_1 : decode cJ9_abs_0f7a4 1 = .ok (.ifCond .ge 8, 3) := by decide +kernel
theorem dJ9_abs_0f7a4_4 : decode cJ9_abs_0f7a4 4 = .ok (.iload_n 0, 1) := by decide +kernel
theorem dJ9_abs_0f7a4_5 : decode cJ9_abs_0f7a4 5 = .ok (.ineg, 1) := by decide +kernel
theorem dJ9_abs_0f7a4_6 : decode cJ9_abs_0f7a4 6 = .ok (.goto 4, 3) := by decide +kernel
theorem dJ9_abs_0f7a4_9 : decode cJ9_abs_0f7a4 9 = .ok (.iload_n 0, 1) := by decide +kernel
theorem dJ9_abs_0f7a4_10 : decode cJ9_abs_0f7a4 10 = .ok (.ireturn, 1) := by decide +kernel
theorem dJ9_max_7cf53_0 : decode cJ9_max_7cf53 0 = .ok (.iload_n 0, 1) := by decide +kernel
theorem dJ9_max_7cf53_1 : decode cJ9_max_7cf53 1 = .ok (.iload_n 1, 1) := by decide +kernel
theorem dJ9_max_7cf53_2 : decode cJ9_max_7cf53 2 = .ok (.if_icmp .lt 7, 3) := by decide +kernel
theorem dJ9_max_7cf53_5 : decode cJ9_max_7cf53 5 = .ok (.iload_n 0, 1) := by decide +kernel
theorem dJ9_max_7cf53_6 : decode cJ9_max_7cf53 6 = .ok (.goto 4, 3) := by decide +kernel
theorem dJ9_max_7cf53_9 : decode cJ9_max_7cf53 9 = .ok (.iload_n 1, 1) := by decide +kernel
theorem dJ9_max_7cf53_10 : decode cJ9_max_7cf53 10 = .ok (.ireturn, 1) := by decide +kernel
theorem dJ9_min_7cf53_0 : decode cJ9_min_7cf53 0 = .ok (.iload_n 0, 1) := by decide +kernel
theorem dJ9_min_7cf53_1 : decode cJ9_min_7cf53 1 = .ok (.iload_n 1, 1) := by decide +kernel
theorem dJ9_min_7cf53_2 : decode cJ9_min_7cf53 2 = .ok (.if_icmp .gt 7, 3) := by decide +kernel
theorem dJ9_min_7cf53_5 : decode cJ9_min_7cf53 5 = .ok (.iload_n 0, 1) := by decide +kernel
theorem dJ9_min_7cf53_6 : decode cJ9_min_7cf53 6 = .ok (.goto 4, 3) := by decide +kernel
theorem dJ9_min_7cf53_9 : decode cJ9_min_7cf53 9 = .ok (.iload_n 1, 1) := by decide +kernel
theorem dJ9_min_7cf53_10 : decode cJ9_min_7cf53 10 = .ok (.ireturn, 1) := by decide +kernel
theorem dJ7_fill_d0a16_0 : decode cJ7_fill_d0a16 0 = .ok (.iconst 0, 1) := by decide +kernel
theorem dJ7_fill_d0a16_1 : decode cJ7_fill_d0a16 1 = .ok (.istore_n 3, 1) := by decide +kernel
theorem dJ7_fill_d0a16_2 : decode cJ7_fill_d0a16 2 = .ok (.aload_n 0, 1) := by decide +kernel
theorem dJ7_fill_d0a16_3 : decode cJ7_fill_d0a16 3 = .ok (.arraylength, 1) := by decide +kernel
theorem dJ7_fill_d0a16_4 : decode cJ7_fill_d0a16 4 = .ok (.istore 4, 2) := by decide +kernel
theorem dJ7_fill_d0a16_6 : decode cJ7_fill_d0a16 6 = .ok (.iload_n 3, 1) := by decide +kernel
theorem dJ7_fill_d0a16_7 : decode cJ7_fill_d0a16 7 = .ok (.iload 4, 2) := by decide +kernel
theorem dJ7_fill_d0a16_9 : decode cJ7_fill_d0a16 9 = .ok (.if_icmp .ge 13, 3) := by decide +kernel
theorem dJ7_fill_d0a16_12 : decode cJ7_fill_d0a16 12 = .ok (.aload_n 0, 1) := by decide +kernel
theorem dJ7_fill_d0a16_13 : decode cJ7_fill_d0a16 13 = .ok (.iload_n 3, 1) := by decide +kernel
theorem dJ7_fill_d0a16_14 : decode cJ7_fill_d0a16 14 = .ok (.lload_n 1, 1) := by decide +kernel
theorem dJ7_fill_d0a16_15 : decode cJ7_fill_d0a16 15 = .ok (.lastore, 1) := by decide +kernel
theorem dJ7_fill_d0a16_16 : decode cJ7_fill_d0a16 16 = .ok (.iinc 3 1, 3) := by decide +kernel
theorem dJ7_fill_d0a16_19 : decode cJ7_fill_d0a16 19 = .ok (.goto (-13), 3) := by decide +kernel
theorem dJ7_fill_d0a16_22 : decode cJ7_fill_d0a16 22 = .ok (.return_, 1) := by decide +kernel
abbrev vwCl : List vw_C := [(RX0, TX0, 5), (RX1, TX1, 9), (RX2, TX2, 16), (RX3, TX3, 2), (RX4, TX4, 10), (RX5, TX5, 4), (RX6, TX6, 6), (RX7, TX7, 5), (RX8, TX8, 12), (RX9, TX9, 46)]
def SubW (ws big : List Cond) : Prop := ∀ w ∈ ws, w ∈ big
theorem subW_nil {big : List Cond} : SubW [] big := fun _ h => absurd h List.not_mem_nil
theorem subW_cons {a : Cond} {l big : List Cond} (h : a ∈ big) (t : SubW l big) : SubW (a :: l) big := fun w hw => (List.mem_cons.mp hw).elim (fun e => e ▸ h) (t w)
theorem subW_app {a b big : List Cond} (ha : SubW a big) (hb : SubW b big) : SubW (a ++ b) big := fun w hw => (List.mem_append.mp hw).elim (ha w) (hb w)
theorem memL {p : List Cond} {w : Cond} (i : Nat) (h : p[i]? = some w) : w ∈ p := List.mem_of_getElem? h
def goodW (ws : List Cond) : Prop := ∀ w ∈ ws, goodWord w = true
theorem goodW_of {ws : List Cond} (h : ws.all goodWord = true) : goodW ws := fun w hw => List.all_eq_true.mp h w hw
theorem goodW_app {a b : List Cond} (ha : goodW a) (hb : goodW b) : goodW (a ++ b) := fun w hw => (List.mem_append.mp hw).elim (ha w) (hb w)
theorem goodW_cons {a : Cond} {b : List Cond} (ha : goodWord a = true) (hb : goodW b) : goodW (a :: b) := fun w hw => (List.mem_cons.mp hw).elim (fun e => e ▸ ha) (hb w)
theorem goodIn_W {big ws : List Cond} (hg : goodW big) (h : SubW ws big) : GoodIn big ws := fun w hw => ⟨h w hw, good_of_word (hg w (h w hw))⟩
