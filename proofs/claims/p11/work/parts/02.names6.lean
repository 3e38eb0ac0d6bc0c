theorem dX9_rounds_223 : decode cX9_rounds 223 = .ok (.istore_n 2, 1) := by decide +kernel
theorem dX9_rounds_224 : decode cX9_rounds 224 = .ok (.goto (-167), 3) := by decide +kernel
theorem dX9_rounds_227 : decode cX9_rounds 227 = .ok (.return_, 1) := by decide +kernel
theorem sbX9_round_X9_round_r1 : SubW wsX9_round_r1 wsX9_round := fun _ h => (List.mem_cons_of_mem _ (List.mem_append_left _ (List.mem_append_left _ h)))
theorem sbX9_round_X9_round_r2 : SubW wsX9_round_r2 wsX9_round := fun _ h => (List.mem_cons_of_mem _ (List.mem_append_left _ (List.mem_append_right _ (List.mem_append_left _ h))))
theorem sbX9_round_X9_round_r3 : SubW wsX9_round_r3 wsX9_round := fun _ h => (List.mem_cons_of_mem _ (List.mem_append_left _ (List.mem_append_right _ (List.mem_append_right _ h))))
theorem mwX9_round_0 : (.code yX9_rounds cX9_rounds 7 none : Cond) ∈ wsX9_round := (sbX9_round_X9_round_r1 _ (memL 10 rfl))
theorem mwX9_round_1 : (.code yX9_goesOn cX9_goesOn 8 none : Cond) ∈ wsX9_round := (sbX9_round_X9_round_r2 _ (memL 3 rfl))
theorem mwX9_round_2 : (.selects RX9 yX9_goesOn yX9_goesOn : Cond) ∈ wsX9_round := (sbX9_round_X9_round_r2 _ (memL 2 rfl))
theorem mwX9_round_3 : (.instanceMethod yX9_goesOn : Cond) ∈ wsX9_round := (sbX9_round_X9_round_r2 _ (memL 1 rfl))
theorem mwX9_round_4 : (.methodLink RX9 198 yX9_goesOn : Cond) ∈ wsX9_round := (sbX9_round_X9_round_r2 _ (memL 0 rfl))
theorem mwX9_round_5 : (.fieldLink RX9 68 "BuoyTenderModel" "weight" "[I" : Cond) ∈ wsX9_round := (sbX9_round_X9_round_r1 _ (memL 23 rfl))
theorem mwX9_round_6 : (.fieldLink RX9 65 "BuoyTenderModel" "load" "[I" : Cond) ∈ wsX9_round := (sbX9_round_X9_round_r1 _ (memL 1 rfl))
theorem mwX9_round_7 : (.fieldLink RX9 99 "BuoyTenderModel" "loadOf" "[I" : Cond) ∈ wsX9_round := (sbX9_round_X9_round_r1 _ (memL 22 rfl))
theorem mwX9_round_8 : (.fieldLink RX9 109 "BuoyTenderModel" "marks" "I" : Cond) ∈ wsX9_round := (sbX9_round_X9_round_r1 _ (memL 21 rfl))
theorem mwX9_round_9 : (.code yX9_sums cX9_sums 3 none : Cond) ∈ wsX9_round := (sbX9_round_X9_round_r1 _ (memL 20 rfl))
theorem mwX9_round_10 : (.initialized RX9 : Cond) ∈ wsX9_round := (sbX9_round_X9_round_r1 _ (memL 9 rfl))
theorem mwX9_round_11 : (.selects RX9 yX9_sums yX9_sums : Cond) ∈ wsX9_round := (sbX9_round_X9_round_r1 _ (memL 19 rfl))
theorem mwX9_round_12 : (.instanceMethod yX9_sums : Cond) ∈ wsX9_round := (sbX9_round_X9_round_r1 _ (memL 18 rfl))
theorem mwX9_round_13 : (.methodLink RX9 192 yX9_sums : Cond) ∈ wsX9_round := (sbX9_round_X9_round_r1 _ (memL 17 rfl))
theorem mwX9_round_14 : (.fieldLink RX9 62 "BuoyTenderModel" "minutes" "[I" : Cond) ∈ wsX9_round := (sbX9_round_X9_round_r1 _ (memL 16 rfl))
theorem mwX9_round_15 : (.fieldLink RX9 96 "BuoyTenderModel" "rowBegin" "[I" : Cond) ∈ wsX9_round := (sbX9_round_X9_round_r1 _ (memL 5 rfl))
theorem mwX9_round_16 : (.fieldLink RX9 93 "BuoyTenderModel" "row" "[I" : Cond) ∈ wsX9_round := (sbX9_round_X9_round_r1 _ (memL 2 rfl))
theorem mwX9_round_17 : (.fieldLink RX9 102 "BuoyTenderModel" "weightOf" "[I" : Cond) ∈ wsX9_round := (sbX9_round_X9_round_r1 _ (memL 15 rfl))
theorem mwX9_round_18 : (.fieldLink RX9 204 "BuoyTenderModel" "bestBack" "I" : Cond) ∈ wsX9_round := (sbX9_round_X9_round_r1 _ (memL 4 rfl))
theorem mwX9_round_19 : (.fieldLink RX9 182 "BuoyTenderModel" "foundBack" "I" : Cond) ∈ wsX9_round := (sbX9_round_X9_round_r1 _ (memL 14 rfl))
theorem mwX9_round_20 : (.fieldLink RX9 201 "BuoyTenderModel" "bestWeight" "I" : Cond) ∈ wsX9_round := (sbX9_round_X9_round_r1 _ (memL 3 rfl))
theorem mwX9_round_21 : (.fieldLink RX9 170 "BuoyTenderModel" "foundWeight" "I" : Cond) ∈ wsX9_round := (sbX9_round_X9_round_r1 _ (memL 13 rfl))
theorem mwX9_round_22 : (.fieldLink RX9 164 "BuoyTenderModel" "begin" "I" : Cond) ∈ wsX9_round := (sbX9_round_X9_round_r1 _ (memL 12 rfl))
theorem mwX9_round_23 : (.fieldLink RX9 195 "BuoyTenderModel" "many" "I" : Cond) ∈ wsX9_round := (sbX9_round_X9_round_r1 _ (memL 0 rfl))
theorem mwX9_round_24 : (.fieldLink RX9 116 "BuoyTenderModel" "isKnown" "Z" : Cond) ∈ wsX9_round := (sbX9_round_X9_round_r1 _ (memL 11 rfl))
set_option maxRecDepth 20000 in
theorem sbX9_round_X9_rounds_r1 : SubW wsX9_rounds_r1 wsX9_round := (subW_cons mwX9_round_24 (subW_cons mwX9_round_23 (subW_cons mwX9_round_22 (subW_cons mwX9_round_21 (subW_cons mwX9_round_20 (subW_cons mwX9_round_19 (subW_cons mwX9_round_18 (subW_cons mwX9_round_17 (subW_cons mwX9_round_16 (subW_cons mwX9_round_15 (subW_cons mwX9_round_14 (subW_cons mwX9_round_13 (subW_cons mwX9_round_12 (subW_cons mwX9_round_11 (subW_cons mwX9_round_10 (subW_cons mwX9_round_9 (subW_cons mwX9_round_8 (subW_cons mwX9_round_7 (subW_cons mwX9_round_6 (subW_cons mwX9_round_5 (subW_cons mwX9_round_4 (subW_cons mwX9_round_3 (subW_cons mwX9_round_2 (subW_cons mwX9_round_1 subW_nil))))))))))))))))))))))))
theorem mwX9_round_25 : (.instanceMethod yX9_does : Cond) ∈ wsX9_round := (sbX9_round_X9_round_r3 _ (memL 3 rfl))
theorem mwX9_round_26 : (.methodLink RX9 185 yX9_does : Cond) ∈ wsX9_round := (sbX9_round_X9_round_r3 _ (memL 2 rfl))
theorem mwX9_round_27 : (.code yX9_steps cX9_steps 7 none : Cond) ∈ wsX9_round := (sbX9_round_X9_round_r3 _ (memL 1 rfl))
theorem mwX9_round_28 : (.selects RX9 yX9_steps yX9_steps : Cond) ∈ wsX9_round := (sbX9_round_X9_round_r3 _ (memL 0 rfl))
theorem mwX9_round_29 : (.instanceMethod yX9_steps : Cond) ∈ wsX9_round := (sbX9_round_X9_round_r2 _ (memL 23 rfl))
theorem mwX9_round_30 : (.methodLink RX9 177 yX9_steps : Cond) ∈ wsX9_round := (sbX9_round_X9_round_r2 _ (memL 22 rfl))
theorem mwX9_round_31 : (.code yX9_greater cX9_greater 2 (some .int) : Cond) ∈ wsX9_round := (sbX9_round_X9_round_r2 _ (memL 21 rfl))
theorem mwX9_round_32 : (.static yX9_greater : Cond) ∈ wsX9_round := (sbX9_round_X9_round_r2 _ (memL 20 rfl))
theorem mwX9_round_33 : (.methodLink RX9 167 yX9_greater : Cond) ∈ wsX9_round := (sbX9_round_X9_round_r2 _ (memL 19 rfl))
theorem mwX9_round_34 : (.fieldLink RX9 77 "BuoyTenderModel" "pace" "I" : Cond) ∈ wsX9_round := (sbX9_round_X9_round_r2 _ (memL 18 rfl))
theorem mwX9_round_35 : (.fieldLink RX9 16 "BuoyTenderModel" "stationY" "[I" : Cond) ∈ wsX9_round := (sbX9_round_X9_round_r2 _ (memL 17 rfl))
theorem mwX9_round_36 : (.fieldLink RX9 161 "BuoyTenderModel" "shipY" "I" : Cond) ∈ wsX9_round := (sbX9_round_X9_round_r2 _ (memL 16 rfl))
theorem mwX9_round_37 : (.fieldLink RX9 13 "BuoyTenderModel" "stationX" "[I" : Cond) ∈ wsX9_round := (sbX9_round_X9_round_r2 _ (memL 15 rfl))
theorem mwX9_round_38 : (.fieldLink RX9 158 "BuoyTenderModel" "shipX" "I" : Cond) ∈ wsX9_round := (sbX9_round_X9_round_r2 _ (memL 14 rfl))
theorem mwX9_round_39 : (.code yX9_way cX9_way 5 (some .int) : Cond) ∈ wsX9_round := (sbX9_round_X9_round_r2 _ (memL 13 rfl))
theorem mwX9_round_40 : (.selects RX9 yX9_way yX9_way : Cond) ∈ wsX9_round := (sbX9_round_X9_round_r2 _ (memL 12 rfl))
theorem mwX9_round_41 : (.instanceMethod yX9_way : Cond) ∈ wsX9_round := (sbX9_round_X9_round_r2 _ (memL 11 rfl))
theorem mwX9_round_42 : (.methodLink RX9 179 yX9_way : Cond) ∈ wsX9_round := (sbX9_round_X9_round_r2 _ (memL 10 rfl))
theorem mwX9_round_43 : (.fieldLink RX9 84 "BuoyTenderModel" "last" "I" : Cond) ∈ wsX9_round := (sbX9_round_X9_round_r2 _ (memL 9 rfl))
theorem mwX9_round_44 : (.code yX9_back cX9_back 6 none : Cond) ∈ wsX9_round := (sbX9_round_X9_round_r2 _ (memL 8 rfl))
theorem mwX9_round_45 : (.selects RX9 yX9_back yX9_back : Cond) ∈ wsX9_round := (sbX9_round_X9_round_r2 _ (memL 7 rfl))
theorem mwX9_round_46 : (.instanceMethod yX9_back : Cond) ∈ wsX9_round := (sbX9_round_X9_round_r2 _ (memL 6 rfl))
theorem mwX9_round_47 : (.methodLink RX9 173 yX9_back : Cond) ∈ wsX9_round := (sbX9_round_X9_round_r2 _ (memL 5 rfl))
theorem mwX9_round_48 : (.fieldLink RX9 90 "BuoyTenderModel" "earliest" "[I" : Cond) ∈ wsX9_round := (sbX9_round_X9_round_r2 _ (memL 4 rfl))
set_option maxRecDepth 20000 in
theorem sbX9_round_X9_rounds_r2 : SubW wsX9_rounds_r2 wsX9_round := (subW_cons mwX9_round_48 (subW_cons mwX9_round_47 (subW_cons mwX9_round_46 (subW_cons mwX9_round_45 (subW_cons mwX9_round_44 (subW_cons mwX9_round_43 (subW_cons mwX9_round_42 (subW_cons mwX9_round_41 (subW_cons mwX9_round_40 (subW_cons mwX9_round_39 (subW_cons mwX9_round_38 (subW_cons mwX9_round_37 (subW_cons mwX9_round_36 (subW_cons mwX9_round_35 (subW_cons mwX9_round_34 (subW_cons mwX9_round_33 (subW_cons mwX9_round_32 (subW_cons mwX9_round_31 (subW_cons mwX9_round_30 (subW_cons mwX9_round_29 (subW_cons mwX9_round_28 (subW_cons mwX9_round_27 (subW_cons mwX9_round_26 (subW_cons mwX9_round_25 subW_nil))))))))))))))))))))))))
theorem mwX9_round_49 : (.fieldLink RX9 81 "BuoyTenderModel" "mostWind" "I" : Cond) ∈ wsX9_round := (sbX9_round_X9_round_r3 _ (memL 15 rfl))
theorem mwX9_round_50 : (.fieldLink RX9 74 "BuoyTenderModel" "wind" "[I" : Cond) ∈ wsX9_round := (sbX9_round_X9_round_r3 _ (memL 14 rfl))
theorem mwX9_round_51 : (.fieldLink RX9 152 "BuoyTenderModel" "draught" "I" : Cond) ∈ wsX9_round := (sbX9_round_X9_round_r3 _ (memL 13 rfl))
theorem mwX9_round_52 : (.fieldLink RX9 71 "BuoyTenderModel" "tide" "[I" : Cond) ∈ wsX9_round := (sbX9_round_X9_round_r3 _ (memL 12 rfl))
theorem mwX9_round_53 : (.fieldLink RX9 7 "BuoyTenderModel" "depth" "[I" : Cond) ∈ wsX9_round := (sbX9_round_X9_round_r3 _ (memL 11 rfl))
theorem mwX9_round_54 : (.code yX9_begins cX9_begins 5 (some .int) : Cond) ∈ wsX9_round := (sbX9_round_X9_round_r3 _ (memL 10 rfl))
theorem mwX9_round_55 : (.selects RX9 yX9_begins yX9_begins : Cond) ∈ wsX9_round := (sbX9_round_X9_round_r3 _ (memL 9 rfl))
theorem mwX9_round_56 : (.instanceMethod yX9_begins : Cond) ∈ wsX9_round := (sbX9_round_X9_round_r3 _ (memL 8 rfl))
theorem mwX9_round_57 : (.methodLink RX9 189 yX9_begins : Cond) ∈ wsX9_round := (sbX9_round_X9_round_r3 _ (memL 7 rfl))
theorem mwX9_round_58 : (.fieldLink RX9 155 "BuoyTenderModel" "carries" "I" : Cond) ∈ wsX9_round := (sbX9_round_X9_round_r3 _ (memL 6 rfl))
theorem mwX9_round_59 : (.code yX9_does cX9_does 6 (some .int) : Cond) ∈ wsX9_round := (sbX9_round_X9_round_r3 _ (memL 5 rfl))
theorem mwX9_round_60 : (.selects RX9 yX9_does yX9_does : Cond) ∈ wsX9_round := (sbX9_round_X9_round_r3 _ (memL 4 rfl))
set_option maxRecDepth 20000 in
theorem sbX9_round_X9_rounds_r3 : SubW wsX9_rounds_r3 wsX9_round := (subW_cons mwX9_round_60 (subW_cons mwX9_round_59 (subW_cons mwX9_round_58 (subW_cons mwX9_round_57 (subW_cons mwX9_round_56 (subW_cons mwX9_round_55 (subW_cons mwX9_round_54 (subW_cons mwX9_round_53 (subW_cons mwX9_round_52 (subW_cons mwX9_round_51 (subW_cons mwX9_round_50 (subW_cons mwX9_round_49 subW_nil))))))))))))
set_option maxRecDepth 20000 in
theorem sbX9_round_X90 : SubW wsX90 wsX9_round := fun _ h => (List.mem_cons_of_mem _ (List.mem_append_right _ h))
set_option maxRecDepth 20000 in
theorem sbX9_round_X9_rounds : SubW wsX9_rounds wsX9_round := (subW_cons mwX9_round_0 (subW_app (subW_app sbX9_round_X9_rounds_r1 (subW_app sbX9_round_X9_rounds_r2 sbX9_round_X9_rounds_r3)) sbX9_round_X90))
set_option maxRecDepth 20000 in
theorem gw_wsX9_round_r1 : goodW wsX9_round_r1 := (goodW_of (by decide +kernel))
set_option maxRecDepth 20000 in
theorem gw_wsX9_round_r2 : goodW wsX9_round_r2 := (goodW_of (by decide +kernel))
set_option maxRecDepth 20000 in
theorem gw_wsX9_round_r3 : goodW wsX9_round_r3 := (goodW_of (by decide +kernel))
set_option maxRecDepth 20000 in
theorem gw_wsX9_round : goodW wsX9_round := (goodW_cons rfl (goodW_app (goodW_app gw_wsX9_round_r1 (goodW_app gw_wsX9_round_r2 gw_wsX9_round_r3)) gw_wsX90))
theorem ggX9_round_X9_rounds : GoodIn wsX9_round wsX9_rounds := goodIn_W gw_wsX9_round sbX9_round_X9_rounds
theorem mwX9_round_61 : (.selects RX9 yX9_rounds yX9_rounds : Cond) ∈ wsX9_round := (sbX9_round_X9_round_r1 _ (memL 8 rfl))
theorem mwX9_round_62 : (.instanceMethod yX9_rounds : Cond) ∈ wsX9_round := (sbX9_round_X9_round_r1 _ (memL 7 rfl))
theorem mwX9_round_63 : (.methodLink RX9 207 yX9_rounds : Cond) ∈ wsX9_round := (sbX9_round_X9_round_r1 _ (memL 6 rfl))
theorem gX9_round_X9_rounds : GoodIn wsX9_round (wsV RX9 207 RX9 yX9_rounds wsX9_rounds) := goodIn_W gw_wsX9_round (subW_app (subW_cons mwX9_round_63 (subW_cons mwX9_round_62 (subW_cons mwX9_round_61 (subW_cons mwX9_round_10 subW_nil)))) sbX9_round_X9_rounds)
theorem mwX9_round_64 : (.code yX9_in cX9_in 3 (some .boolean) : Cond) ∈ wsX9_round := (sbX9_round_X9_round_r3 _ (memL 18 rfl))
set_option maxRecDepth 20000 in
theorem sbX9_round_X9_in : SubW wsX9_in wsX9_round := (subW_cons mwX9_round_64 subW_nil)
theorem ggX9_round_X9_in : GoodIn wsX9_round wsX9_in := goodIn_W gw_wsX9_round sbX9_round_X9_in
theorem mwX9_round_65 : (.static yX9_in : Cond) ∈ wsX9_round := (sbX9_round_X9_round_r3 _ (memL 17 rfl))
theorem mwX9_round_66 : (.methodLink RX9 105 yX9_in : Cond) ∈ wsX9_round := (sbX9_round_X9_round_r3 _ (memL 16 rfl))
theorem gX9_round_X9_in : GoodIn wsX9_round (va_wsS RX9 105 yX9_in wsX9_in) := goodIn_W gw_wsX9_round (subW_app (subW_cons mwX9_round_66 (subW_cons mwX9_round_65 (subW_cons mwX9_round_10 subW_nil))) sbX9_round_X9_in)
theorem dX9_round_0 : decode cX9_round 0 = .ok (.aload_n 0, 1) := by decide +kernel
theorem dX9_round_1 : decode cX9_round 1 = .ok (.invokevirtual 207, 3) := by decide +kernel
theorem dX9_round_4 : decode cX9_round 4 = .ok (.iconst 0, 1) := by decide +kernel
theorem dX9_round_5 : decode cX9_round 5 = .ok (.istore_n 2, 1) := by decide +kernel
theorem dX9_round_6 : decode cX9_round 6 = .ok (.iconst 0, 1) := by decide +kernel
theorem dX9_round_7 : decode cX9_round 7 = .ok (.istore_n 3, 1) := by decide +kernel
theorem dX9_round_8 : decode cX9_round 8 = .ok (.iload_n 3, 1) := by decide +kernel
theorem dX9_round_9 : decode cX9_round 9 = .ok (.aload_n 0, 1) := by decide +kernel
theorem dX9_round_10 : decode cX9_round 10 = .ok (.getfield 195, 3) := by decide +kernel
theorem dX9_round_13 : decode cX9_round 13 = .ok (.if_icmp .ge 23, 3) := by decide +kernel
theorem dX9_round_16 : decode cX9_round 16 = .ok (.iload_n 2, 1) := by decide +kernel
theorem dX9_round_17 : decode cX9_round 17 = .ok (.aload_n 0, 1) := by decide +kernel
theorem dX9_round_18 : decode cX9_round 18 = .ok (.getfield 65, 3) := by decide +kernel
theorem dX9_round_21 : decode cX9_round 21 = .ok (.aload_n 0, 1) := by decide +kernel
theorem dX9_round_22 : decode cX9_round 22 = .ok (.getfield 93, 3) := by decide +kernel
theorem dX9_round_25 : decode cX9_round 25 = .ok (.iload_n 3, 1) := by decide +kernel
theorem dX9_round_26 : decode cX9_round 26 = .ok (.iaload, 1) := by decide +kernel
theorem dX9_round_27 : decode cX9_round 27 = .ok (.iaload, 1) := by decide +kernel
theorem dX9_round_28 : decode cX9_round 28 = .ok (.iadd, 1) := by decide +kernel
theorem dX9_round_29 : decode cX9_round 29 = .ok (.istore_n 2, 1) := by decide +kernel
theorem dX9_round_30 : decode cX9_round 30 = .ok (.iinc 3 1, 3) := by decide +kernel
theorem dX9_round_33 : decode cX9_round 33 = .ok (.goto (-25), 3) := by decide +kernel
theorem dX9_round_36 : decode cX9_round 36 = .ok (.iload_n 1, 1) := by decide +kernel
theorem dX9_round_37 : decode cX9_round 37 = .ok (.tableswitch 48 0 3 #[31, 36, 41, 46], 31) := by decide +kernel
theorem dX9_round_68 : decode cX9_round 68 = .ok (.aload_n 0, 1) := by decide +kernel
theorem dX9_round_69 : decode cX9_round 69 = .ok (.getfield 201, 3) := by decide +kernel
theorem dX9_round_72 : decode cX9_round 72 = .ok (.ireturn, 1) := by decide +kernel
theorem dX9_round_73 : decode cX9_round 73 = .ok (.aload_n 0, 1) := by decide +kernel
theorem dX9_round_74 : decode cX9_round 74 = .ok (.getfield 204, 3) := by decide +kernel
theorem dX9_round_77 : decode cX9_round 77 = .ok (.ireturn, 1) := by decide +kernel
theorem dX9_round_78 : decode cX9_round 78 = .ok (.aload_n 0, 1) := by decide +kernel
theorem dX9_round_79 : decode cX9_round 79 = .ok (.getfield 195, 3) := by decide +kernel
theorem dX9_round_82 : decode cX9_round 82 = .ok (.ireturn, 1) := by decide +kernel
theorem dX9_round_83 : decode cX9_round 83 = .ok (.iload_n 2, 1) := by decide +kernel
theorem dX9_round_84 : decode cX9_round 84 = .ok (.ireturn, 1) := by decide +kernel
theorem dX9_round_85 : decode cX9_round 85 = .ok (.iload_n 1, 1) := by decide +kernel
theorem dX9_round_86 : decode cX9_round 86 = .ok (.bipush 100, 2) := by decide +kernel
theorem dX9_round_88 : decode cX9_round 88 = .ok (.bipush 99, 2) := by decide +kernel
theorem dX9_round_90 : decode cX9_round 90 = .ok (.aload_n 0, 1) := by decide +kernel
theorem dX9_round_91 : decode cX9_round 91 = .ok (.getfield 195, 3) := by decide +kernel
theorem dX9_round_94 : decode cX9_round 94 = .ok (.iadd, 1) := by decide +kernel
theorem dX9_round_95 : decode cX9_round 95 = .ok (.invokestatic 105, 3) := by decide +kernel
theorem dX9_round_98 : decode cX9_round 98 = .ok (.ifCond .eq 15, 3) := by decide +kernel
theorem dX9_round_101 : decode cX9_round 101 = .ok (.aload_n 0, 1) := by decide +kernel
theorem dX9_round_102 : decode cX9_round 102 = .ok (.getfield 93, 3) := by decide +kernel
theorem dX9_round_105 : decode cX9_round 105 = .ok (.iload_n 1, 1) := by decide +kernel
theorem dX9_round_106 : decode cX9_round 106 = .ok (.bipush 100, 2) := by decide +kernel
theorem dX9_round_108 : decode cX9_round 108 = .ok (.isub, 1) := by decide +kernel
theorem dX9_round_109 : decode cX9_round 109 = .ok (.iaload, 1) := by decide +kernel
theorem dX9_round_110 : decode cX9_round 110 = .ok (.goto 35, 3) := by decide +kernel
theorem dX9_round_113 : decode cX9_round 113 = .ok (.iload_n 1, 1) := by decide +kernel
theorem dX9_round_114 : decode cX9_round 114 = .ok (.sipush 200, 3) := by decide +kernel
theorem dX9_round_117 : decode cX9_round 117 = .ok (.sipush 199, 3) := by decide +kernel
theorem dX9_round_120 : decode cX9_round 120 = .ok (.aload_n 0, 1) := by decide +kernel
theorem dX9_round_121 : decode cX9_round 121 = .ok (.getfield 195, 3) := by decide +kernel
theorem dX9_round_124 : decode cX9_round 124 = .ok (.iadd, 1) := by decide +kernel
theorem dX9_round_125 : decode cX9_round 125 = .ok (.invokestatic 105, 3) := by decide +kernel
theorem dX9_round_128 : decode cX9_round 128 = .ok (.ifCond .eq 16, 3) := by decide +kernel
theorem dX9_round_131 : decode cX9_round 131 = .ok (.aload_n 0, 1) := by decide +kernel
theorem dX9_round_132 : decode cX9_round 132 = .ok (.getfield 96, 3) := by decide +kernel
theorem dX9_round_135 : decode cX9_round 135 = .ok (.iload_n 1, 1) := by decide +kernel
theorem dX9_round_136 : decode cX9_round 136 = .ok (.sipush 200, 3) := by decide +kernel
theorem dX9_round_139 : decode cX9_round 139 = .ok (.isub, 1) := by decide +kernel
theorem dX9_round_140 : decode cX9_round 140 = .ok (.iaload, 1) := by decide +kernel
theorem dX9_round_141 : decode cX9_round 141 = .ok (.goto 4, 3) := by decide +kernel
theorem dX9_round_144 : decode cX9_round 144 = .ok (.iconst (-1), 1) := by decide +kernel
theorem dX9_round_145 : decode cX9_round 145 = .ok (.ireturn, 1) := by decide +kernel
theorem dX9_about_0 : decode cX9_about 0 = .ok (.iconst 0, 1) := by decide +kernel
theorem dX9_about_1 : decode cX9_about 1 = .ok (.istore_n 2, 1) := by decide +kernel
theorem dX9_about_2 : decode cX9_about 2 = .ok (.iconst 0, 1) := by decide +kernel
theorem dX9_about_3 : decode cX9_about 3 = .ok (.istore_n 3, 1) := by decide +kernel
theorem dX9_about_4 : decode cX9_about 4 = .ok (.iload_n 3, 1) := by decide +kernel
theorem dX9_about_5 : decode cX9_about 5 = .ok (.aload_n 0, 1) := by decide +kernel
theorem dX9_about_6 : decode cX9_about 6 = .ok (.getfield 109, 3) := by decide +kernel
theorem dX9_about_9 : decode cX9_about 9 = .ok (.if_icmp .ge 26, 3) := by decide +kernel
theorem dX9_about_12 : decode cX9_about 12 = .ok (.iload_n 2, 1) := by decide +kernel
theorem dX9_about_13 : decode cX9_about 13 = .ok (.aload_n 0, 1) := by decide +kernel
theorem dX9_about_14 : decode cX9_about 14 = .ok (.getfield 68, 3) := by decide +kernel
theorem dX9_about_17 : decode cX9_about 17 = .ok (.iload_n 3, 1) := by decide +kernel
theorem dX9_about_18 : decode cX9_about 18 = .ok (.iaload, 1) := by decide +kernel
theorem dX9_about_19 : decode cX9_about 19 = .ok (.ifCond .le 7, 3) := by decide +kernel
theorem dX9_about_22 : decode cX9_about 22 = .ok (.iconst 1, 1) := by decide +kernel
theorem dX9_about_23 : decode cX9_about 23 = .ok (.goto 4, 3) := by decide +kernel
theorem dX9_about_26 : decode cX9_about 26 = .ok (.iconst 0, 1) := by decide +kernel
theorem dX9_about_27 : decode cX9_about 27 = .ok (.iadd, 1) := by decide +kernel
theorem dX9_about_28 : decode cX9_about 28 = .ok (.istore_n 2, 1) := by decide +kernel
theorem dX9_about_29 : decode cX9_about 29 = .ok (.iinc 3 1, 3) := by decide +kernel
theorem dX9_about_32 : decode cX9_about 32 = .ok (.goto (-28), 3) := by decide +kernel
theorem dX9_about_35 : decode cX9_about 35 = .ok (.iload_n 1, 1) := by decide +kernel
theorem dX9_about_36 : decode cX9_about 36 = .ok (.tableswitch 67 0 5 #[40, 45, 50, 55, 60, 62], 40) := by decide +kernel
theorem dX9_about_76 : decode cX9_about 76 = .ok (.aload_n 0, 1) := by decide +kernel
theorem dX9_about_77 : decode cX9_about 77 = .ok (.getfield 109, 3) := by decide +kernel
theorem dX9_about_80 : decode cX9_about 80 = .ok (.ireturn, 1) := by decide +kernel
theorem dX9_about_81 : decode cX9_about 81 = .ok (.aload_n 0, 1) := by decide +kernel
theorem dX9_about_82 : decode cX9_about 82 = .ok (.getfield 131, 3) := by decide +kernel
theorem dX9_about_85 : decode cX9_about 85 = .ok (.ireturn, 1) := by decide +kernel
theorem dX9_about_86 : decode cX9_about 86 = .ok (.aload_n 0, 1) := by decide +kernel
theorem dX9_about_87 : decode cX9_about 87 = .ok (.getfield 146, 3) := by decide +kernel
theorem dX9_about_90 : decode cX9_about 90 = .ok (.ireturn, 1) := by decide +kernel
theorem dX9_about_91 : decode cX9_about 91 = .ok (.aload_n 0, 1) := by decide +kernel
theorem dX9_about_92 : decode cX9_about 92 = .ok (.getfield 140, 3) := by decide +kernel
theorem dX9_about_95 : decode cX9_about 95 = .ok (.ireturn, 1) := by decide +kernel
theorem dX9_about_96 : decode cX9_about 96 = .ok (.iload_n 2, 1) := by decide +kernel
theorem dX9_about_97 : decode cX9_about 97 = .ok (.ireturn, 1) := by decide +kernel
theorem dX9_about_98 : decode cX9_about 98 = .ok (.aload_n 0, 1) := by decide +kernel
theorem dX9_about_99 : decode cX9_about 99 = .ok (.getfield 84, 3) := by decide +kernel
theorem dX9_about_102 : decode cX9_about 102 = .ok (.ireturn, 1) := by decide +kernel
theorem dX9_about_103 : decode cX9_about 103 = .ok (.iconst (-1), 1) := by decide +kernel
theorem dX9_about_104 : decode cX9_about 104 = .ok (.ireturn, 1) := by decide +kernel
