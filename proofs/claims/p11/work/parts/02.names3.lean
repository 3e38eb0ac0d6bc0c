theorem dX8_bearing_24 : decode cX8_bearing 24 = .ok (.iload_n 1, 1) := by decide +kernel
theorem dX8_bearing_25 : decode cX8_bearing 25 = .ok (.iload_n 2, 1) := by decide +kernel
theorem dX8_bearing_26 : decode cX8_bearing 26 = .ok (.if_icmp .eq 22, 3) := by decide +kernel
theorem dX8_bearing_29 : decode cX8_bearing 29 = .ok (.iload_n 3, 1) := by decide +kernel
theorem dX8_bearing_30 : decode cX8_bearing 30 = .ok (.iload 4, 2) := by decide +kernel
theorem dX8_bearing_32 : decode cX8_bearing 32 = .ok (.invokestatic 89, 3) := by decide +kernel
theorem dX8_bearing_35 : decode cX8_bearing 35 = .ok (.ifCond .eq 13, 3) := by decide +kernel
theorem dX8_bearing_38 : decode cX8_bearing 38 = .ok (.iload 5, 2) := by decide +kernel
theorem dX8_bearing_40 : decode cX8_bearing 40 = .ok (.iload 6, 2) := by decide +kernel
theorem dX8_bearing_42 : decode cX8_bearing 42 = .ok (.invokestatic 89, 3) := by decide +kernel
theorem dX8_bearing_45 : decode cX8_bearing 45 = .ok (.ifCond .ne 5, 3) := by decide +kernel
theorem dX8_bearing_48 : decode cX8_bearing 48 = .ok (.iconst 0, 1) := by decide +kernel
theorem dX8_bearing_49 : decode cX8_bearing 49 = .ok (.ireturn, 1) := by decide +kernel
theorem dX8_bearing_50 : decode cX8_bearing 50 = .ok (.aload 7, 2) := by decide +kernel
theorem dX8_bearing_52 : decode cX8_bearing 52 = .ok (.getfield 80, 3) := by decide +kernel
theorem dX8_bearing_55 : decode cX8_bearing 55 = .ok (.aload 8, 2) := by decide +kernel
theorem dX8_bearing_57 : decode cX8_bearing 57 = .ok (.getfield 92, 3) := by decide +kernel
theorem dX8_bearing_60 : decode cX8_bearing 60 = .ok (.aload 8, 2) := by decide +kernel
theorem dX8_bearing_62 : decode cX8_bearing 62 = .ok (.getfield 95, 3) := by decide +kernel
theorem dX8_bearing_65 : decode cX8_bearing 65 = .ok (.iload_n 3, 1) := by decide +kernel
theorem dX8_bearing_66 : decode cX8_bearing 66 = .ok (.iload 4, 2) := by decide +kernel
theorem dX8_bearing_68 : decode cX8_bearing 68 = .ok (.iload 5, 2) := by decide +kernel
theorem dX8_bearing_70 : decode cX8_bearing 70 = .ok (.iload 6, 2) := by decide +kernel
theorem dX8_bearing_72 : decode cX8_bearing 72 = .ok (.invokevirtual 98, 3) := by decide +kernel
theorem dX8_bearing_75 : decode cX8_bearing 75 = .ok (.iconst 1, 1) := by decide +kernel
theorem dX8_bearing_76 : decode cX8_bearing 76 = .ok (.ireturn, 1) := by decide +kernel
theorem mwX8_sounding_0 : (.code yX8_known cX8_known 2 (some (.object "BuoyTender$Mark")) : Cond) ∈ wsX8_sounding := (List.mem_cons_of_mem _ (List.mem_append_left _ (List.mem_append_left _ (List.mem_append_left _ (memL 4 rfl)))))
theorem mwX8_sounding_1 : (.fieldLink RX8 15 "BuoyTender" "marks" "[LBuoyTender$Mark;" : Cond) ∈ wsX8_sounding := (List.mem_cons_of_mem _ (List.mem_append_left _ (List.mem_append_left _ (List.mem_append_left _ (memL 6 rfl)))))
theorem mwX8_sounding_2 : (.fieldLink RX8 69 "BuoyTender" "markCount" "I" : Cond) ∈ wsX8_sounding := (List.mem_cons_of_mem _ (List.mem_append_left _ (List.mem_append_left _ (List.mem_append_left _ (memL 5 rfl)))))
set_option maxRecDepth 20000 in
theorem sbX8_sounding_X80 : SubW wsX80 wsX8_sounding := fun _ h => (List.mem_cons_of_mem _ (List.mem_append_left _ (List.mem_append_right _ h)))
set_option maxRecDepth 20000 in
theorem sbX8_sounding_X8_known : SubW wsX8_known wsX8_sounding := (subW_cons mwX8_sounding_0 (subW_app (subW_cons mwX8_sounding_2 (subW_cons mwX8_sounding_1 subW_nil)) sbX8_sounding_X80))
set_option maxRecDepth 20000 in
theorem gw_wsX8_sounding : goodW wsX8_sounding := (goodW_cons rfl (goodW_app (goodW_app (goodW_app (goodW_of (by decide +kernel)) gw_wsX10) gw_wsX80) gw_wsX50))
theorem ggX8_sounding_X8_known : GoodIn wsX8_sounding wsX8_known := goodIn_W gw_wsX8_sounding sbX8_sounding_X8_known
theorem mwX8_sounding_3 : (.initialized RX8 : Cond) ∈ wsX8_sounding := (List.mem_cons_of_mem _ (List.mem_append_left _ (List.mem_append_left _ (List.mem_append_left _ (memL 3 rfl)))))
theorem mwX8_sounding_4 : (.selects RX8 yX8_known yX8_known : Cond) ∈ wsX8_sounding := (List.mem_cons_of_mem _ (List.mem_append_left _ (List.mem_append_left _ (List.mem_append_left _ (memL 2 rfl)))))
theorem mwX8_sounding_5 : (.instanceMethod yX8_known : Cond) ∈ wsX8_sounding := (List.mem_cons_of_mem _ (List.mem_append_left _ (List.mem_append_left _ (List.mem_append_left _ (memL 1 rfl)))))
theorem mwX8_sounding_6 : (.methodLink RX8 76 yX8_known : Cond) ∈ wsX8_sounding := (List.mem_cons_of_mem _ (List.mem_append_left _ (List.mem_append_left _ (List.mem_append_left _ (memL 0 rfl)))))
theorem gX8_sounding_X8_known : GoodIn wsX8_sounding (wsV RX8 76 RX8 yX8_known wsX8_known) := goodIn_W gw_wsX8_sounding (subW_app (subW_cons mwX8_sounding_6 (subW_cons mwX8_sounding_5 (subW_cons mwX8_sounding_4 (subW_cons mwX8_sounding_3 subW_nil)))) sbX8_sounding_X8_known)
theorem mwX8_sounding_7 : (.code yX8_within cX8_within 3 (some .boolean) : Cond) ∈ wsX8_sounding := (List.mem_cons_of_mem _ (List.mem_append_left _ (List.mem_append_left _ (List.mem_append_left _ (memL 9 rfl)))))
set_option maxRecDepth 20000 in
theorem sbX8_sounding_X8_within : SubW wsX8_within wsX8_sounding := (subW_cons mwX8_sounding_7 subW_nil)
theorem ggX8_sounding_X8_within : GoodIn wsX8_sounding wsX8_within := goodIn_W gw_wsX8_sounding sbX8_sounding_X8_within
theorem mwX8_sounding_8 : (.static yX8_within : Cond) ∈ wsX8_sounding := (List.mem_cons_of_mem _ (List.mem_append_left _ (List.mem_append_left _ (List.mem_append_left _ (memL 8 rfl)))))
theorem mwX8_sounding_9 : (.methodLink RX8 61 yX8_within : Cond) ∈ wsX8_sounding := (List.mem_cons_of_mem _ (List.mem_append_left _ (List.mem_append_left _ (List.mem_append_left _ (memL 7 rfl)))))
theorem gX8_sounding_X8_within : GoodIn wsX8_sounding (va_wsS RX8 61 yX8_within wsX8_within) := goodIn_W gw_wsX8_sounding (subW_app (subW_cons mwX8_sounding_9 (subW_cons mwX8_sounding_8 (subW_cons mwX8_sounding_3 subW_nil))) sbX8_sounding_X8_within)
theorem mwX8_sounding_10 : (.code yX5_tellSounding cX5_tellSounding 3 none : Cond) ∈ wsX8_sounding := (List.mem_cons_of_mem _ (List.mem_append_left _ (List.mem_append_left _ (List.mem_append_left _ (memL 13 rfl)))))
theorem mwX8_sounding_11 : (.fieldLink RX5 28 "BuoyTender$Sighting" "told" "Z" : Cond) ∈ wsX8_sounding := (List.mem_cons_of_mem _ (List.mem_append_left _ (List.mem_append_left _ (List.mem_append_left _ (memL 23 rfl)))))
theorem mwX8_sounding_12 : (.code Lib.Math.min.name Lib.Math.min.code 2 (some .int) : Cond) ∈ wsX8_sounding := (List.mem_cons_of_mem _ (List.mem_append_left _ (List.mem_append_left _ (List.mem_append_left _ (memL 22 rfl)))))
theorem mwX8_sounding_13 : (.static Lib.Math.min.name : Cond) ∈ wsX8_sounding := (List.mem_cons_of_mem _ (List.mem_append_left _ (List.mem_append_left _ (List.mem_append_left _ (memL 21 rfl)))))
theorem mwX8_sounding_14 : (.methodLink RX5 38 Lib.Math.min.name : Cond) ∈ wsX8_sounding := (List.mem_cons_of_mem _ (List.mem_append_left _ (List.mem_append_left _ (List.mem_append_left _ (memL 20 rfl)))))
theorem mwX8_sounding_15 : (.fieldLink RX5 15 "BuoyTender$Sighting" "deepest" "I" : Cond) ∈ wsX8_sounding := (List.mem_cons_of_mem _ (List.mem_append_left _ (List.mem_append_left _ (List.mem_append_left _ (memL 19 rfl)))))
theorem mwX8_sounding_16 : (.code Lib.Math.max.name Lib.Math.max.code 2 (some .int) : Cond) ∈ wsX8_sounding := (List.mem_cons_of_mem _ (List.mem_append_left _ (List.mem_append_left _ (List.mem_append_left _ (memL 18 rfl)))))
theorem mwX8_sounding_17 : (.initialized "java/lang/Math" : Cond) ∈ wsX8_sounding := (List.mem_cons_of_mem _ (List.mem_append_left _ (List.mem_append_left _ (List.mem_append_left _ (memL 17 rfl)))))
theorem mwX8_sounding_18 : (.static Lib.Math.max.name : Cond) ∈ wsX8_sounding := (List.mem_cons_of_mem _ (List.mem_append_left _ (List.mem_append_left _ (List.mem_append_left _ (memL 16 rfl)))))
theorem mwX8_sounding_19 : (.methodLink RX5 32 Lib.Math.max.name : Cond) ∈ wsX8_sounding := (List.mem_cons_of_mem _ (List.mem_append_left _ (List.mem_append_left _ (List.mem_append_left _ (memL 15 rfl)))))
theorem mwX8_sounding_20 : (.fieldLink RX5 25 "BuoyTender$Sighting" "shallowest" "I" : Cond) ∈ wsX8_sounding := (List.mem_cons_of_mem _ (List.mem_append_left _ (List.mem_append_left _ (List.mem_append_left _ (memL 14 rfl)))))
set_option maxRecDepth 20000 in
theorem sbX8_sounding_X50 : SubW wsX50 wsX8_sounding := fun _ h => (List.mem_cons_of_mem _ (List.mem_append_right _ h))
set_option maxRecDepth 20000 in
theorem sbX8_sounding_X5_tellSounding : SubW wsX5_tellSounding wsX8_sounding := (subW_cons mwX8_sounding_10 (subW_app (subW_cons mwX8_sounding_20 (subW_cons mwX8_sounding_19 (subW_cons mwX8_sounding_18 (subW_cons mwX8_sounding_17 (subW_cons mwX8_sounding_16 (subW_cons mwX8_sounding_15 (subW_cons mwX8_sounding_14 (subW_cons mwX8_sounding_13 (subW_cons mwX8_sounding_12 (subW_cons mwX8_sounding_11 subW_nil)))))))))) sbX8_sounding_X50))
theorem ggX8_sounding_X5_tellSounding : GoodIn wsX8_sounding wsX5_tellSounding := goodIn_W gw_wsX8_sounding sbX8_sounding_X5_tellSounding
set_option maxRecDepth 20000 in
theorem gX8_sounding_X5_tellSounding_n102 : GoodIn wsX8_sounding (wsX5_tellSounding) := ggX8_sounding_X5_tellSounding
theorem dX8_sounding_0 : decode cX8_sounding 0 = .ok (.aload_n 0, 1) := by decide +kernel
theorem dX8_sounding_1 : decode cX8_sounding 1 = .ok (.iload_n 1, 1) := by decide +kernel
theorem dX8_sounding_2 : decode cX8_sounding 2 = .ok (.invokevirtual 76, 3) := by decide +kernel
theorem dX8_sounding_5 : decode cX8_sounding 5 = .ok (.astore 4, 2) := by decide +kernel
theorem dX8_sounding_7 : decode cX8_sounding 7 = .ok (.aload 4, 2) := by decide +kernel
theorem dX8_sounding_9 : decode cX8_sounding 9 = .ok (.ifnull 25, 3) := by decide +kernel
theorem dX8_sounding_12 : decode cX8_sounding 12 = .ok (.iload_n 2, 1) := by decide +kernel
theorem dX8_sounding_13 : decode cX8_sounding 13 = .ok (.iconst 0, 1) := by decide +kernel
theorem dX8_sounding_14 : decode cX8_sounding 14 = .ok (.sipush 200, 3) := by decide +kernel
theorem dX8_sounding_17 : decode cX8_sounding 17 = .ok (.invokestatic 61, 3) := by decide +kernel
theorem dX8_sounding_20 : decode cX8_sounding 20 = .ok (.ifCond .eq 14, 3) := by decide +kernel
theorem dX8_sounding_23 : decode cX8_sounding 23 = .ok (.iload_n 3, 1) := by decide +kernel
theorem dX8_sounding_24 : decode cX8_sounding 24 = .ok (.iload_n 2, 1) := by decide +kernel
theorem dX8_sounding_25 : decode cX8_sounding 25 = .ok (.sipush 200, 3) := by decide +kernel
theorem dX8_sounding_28 : decode cX8_sounding 28 = .ok (.invokestatic 61, 3) := by decide +kernel
theorem dX8_sounding_31 : decode cX8_sounding 31 = .ok (.ifCond .ne 5, 3) := by decide +kernel
theorem dX8_sounding_34 : decode cX8_sounding 34 = .ok (.iconst 0, 1) := by decide +kernel
theorem dX8_sounding_35 : decode cX8_sounding 35 = .ok (.ireturn, 1) := by decide +kernel
theorem dX8_sounding_36 : decode cX8_sounding 36 = .ok (.aload 4, 2) := by decide +kernel
theorem dX8_sounding_38 : decode cX8_sounding 38 = .ok (.getfield 80, 3) := by decide +kernel
theorem dX8_sounding_41 : decode cX8_sounding 41 = .ok (.iload_n 2, 1) := by decide +kernel
theorem dX8_sounding_42 : decode cX8_sounding 42 = .ok (.iload_n 3, 1) := by decide +kernel
theorem dX8_sounding_43 : decode cX8_sounding 43 = .ok (.invokevirtual 102, 3) := by decide +kernel
theorem dX8_sounding_46 : decode cX8_sounding 46 = .ok (.iconst 1, 1) := by decide +kernel
theorem dX8_sounding_47 : decode cX8_sounding 47 = .ok (.ireturn, 1) := by decide +kernel
theorem sbX8_lies_X8_lies_r1 : SubW wsX8_lies_r1 wsX8_lies := fun _ h => (List.mem_cons_of_mem _ (List.mem_append_left _ (List.mem_append_left _ (List.mem_append_left _ (List.mem_append_left _ (List.mem_append_left _ h))))))
theorem sbX8_lies_X8_lies_r2 : SubW wsX8_lies_r2 wsX8_lies := fun _ h => (List.mem_cons_of_mem _ (List.mem_append_left _ (List.mem_append_left _ (List.mem_append_left _ (List.mem_append_left _ (List.mem_append_right _ h))))))
theorem mwX8_lies_0 : (.code yX8_known cX8_known 2 (some (.object "BuoyTender$Mark")) : Cond) ∈ wsX8_lies := (sbX8_lies_X8_lies_r1 _ (memL 6 rfl))
theorem mwX8_lies_1 : (.fieldLink RX8 15 "BuoyTender" "marks" "[LBuoyTender$Mark;" : Cond) ∈ wsX8_lies := (sbX8_lies_X8_lies_r1 _ (memL 8 rfl))
theorem mwX8_lies_2 : (.fieldLink RX8 69 "BuoyTender" "markCount" "I" : Cond) ∈ wsX8_lies := (sbX8_lies_X8_lies_r1 _ (memL 7 rfl))
set_option maxRecDepth 20000 in
theorem sbX8_lies_X80 : SubW wsX80 wsX8_lies := fun _ h => (List.mem_cons_of_mem _ (List.mem_append_left _ (List.mem_append_left _ (List.mem_append_right _ h))))
set_option maxRecDepth 20000 in
theorem sbX8_lies_X8_known : SubW wsX8_known wsX8_lies := (subW_cons mwX8_lies_0 (subW_app (subW_cons mwX8_lies_2 (subW_cons mwX8_lies_1 subW_nil)) sbX8_lies_X80))
set_option maxRecDepth 20000 in
theorem gw_wsX8_lies_r1 : goodW wsX8_lies_r1 := (goodW_of (by decide +kernel))
set_option maxRecDepth 20000 in
theorem gw_wsX8_lies_r2 : goodW wsX8_lies_r2 := (goodW_of (by decide +kernel))
set_option maxRecDepth 20000 in
theorem gw_wsX8_lies : goodW wsX8_lies := (goodW_cons rfl (goodW_app (goodW_app (goodW_app (goodW_app (goodW_app gw_wsX8_lies_r1 gw_wsX8_lies_r2) gw_wsX10) gw_wsX80) gw_wsX50) gw_wsX60))
theorem ggX8_lies_X8_known : GoodIn wsX8_lies wsX8_known := goodIn_W gw_wsX8_lies sbX8_lies_X8_known
theorem mwX8_lies_3 : (.initialized RX8 : Cond) ∈ wsX8_lies := (sbX8_lies_X8_lies_r1 _ (memL 5 rfl))
theorem mwX8_lies_4 : (.selects RX8 yX8_known yX8_known : Cond) ∈ wsX8_lies := (sbX8_lies_X8_lies_r1 _ (memL 4 rfl))
theorem mwX8_lies_5 : (.instanceMethod yX8_known : Cond) ∈ wsX8_lies := (sbX8_lies_X8_lies_r1 _ (memL 3 rfl))
theorem mwX8_lies_6 : (.methodLink RX8 76 yX8_known : Cond) ∈ wsX8_lies := (sbX8_lies_X8_lies_r1 _ (memL 2 rfl))
theorem gX8_lies_X8_known : GoodIn wsX8_lies (wsV RX8 76 RX8 yX8_known wsX8_known) := goodIn_W gw_wsX8_lies (subW_app (subW_cons mwX8_lies_6 (subW_cons mwX8_lies_5 (subW_cons mwX8_lies_4 (subW_cons mwX8_lies_3 subW_nil)))) sbX8_lies_X8_known)
theorem mwX8_lies_7 : (.code yX8_within cX8_within 3 (some .boolean) : Cond) ∈ wsX8_lies := (sbX8_lies_X8_lies_r1 _ (memL 11 rfl))
set_option maxRecDepth 20000 in
theorem sbX8_lies_X8_within : SubW wsX8_within wsX8_lies := (subW_cons mwX8_lies_7 subW_nil)
theorem ggX8_lies_X8_within : GoodIn wsX8_lies wsX8_within := goodIn_W gw_wsX8_lies sbX8_lies_X8_within
theorem mwX8_lies_8 : (.static yX8_within : Cond) ∈ wsX8_lies := (sbX8_lies_X8_lies_r1 _ (memL 10 rfl))
theorem mwX8_lies_9 : (.methodLink RX8 61 yX8_within : Cond) ∈ wsX8_lies := (sbX8_lies_X8_lies_r1 _ (memL 9 rfl))
theorem gX8_lies_X8_within : GoodIn wsX8_lies (va_wsS RX8 61 yX8_within wsX8_within) := goodIn_W gw_wsX8_lies (subW_app (subW_cons mwX8_lies_9 (subW_cons mwX8_lies_8 (subW_cons mwX8_lies_3 subW_nil))) sbX8_lies_X8_within)
theorem mwX8_lies_10 : (.code yX6_take cX6_take 8 none : Cond) ∈ wsX8_lies := (sbX8_lies_X8_lies_r1 _ (memL 15 rfl))
theorem mwX8_lies_11 : (.code yX8_squareBetween cX8_squareBetween 4 (some .int) : Cond) ∈ wsX8_lies := (sbX8_lies_X8_lies_r2 _ (memL 10 rfl))
theorem mwX8_lies_12 : (.static yX8_squareBetween : Cond) ∈ wsX8_lies := (sbX8_lies_X8_lies_r2 _ (memL 9 rfl))
theorem mwX8_lies_13 : (.code Lib.Math.max.name Lib.Math.max.code 2 (some .int) : Cond) ∈ wsX8_lies := (sbX8_lies_X8_lies_r2 _ (memL 8 rfl))
theorem mwX8_lies_14 : (.static Lib.Math.max.name : Cond) ∈ wsX8_lies := (sbX8_lies_X8_lies_r2 _ (memL 7 rfl))
theorem mwX8_lies_15 : (.methodLink RX6 58 Lib.Math.max.name : Cond) ∈ wsX8_lies := (sbX8_lies_X8_lies_r2 _ (memL 6 rfl))
theorem mwX8_lies_16 : (.code Lib.Math.min.name Lib.Math.min.code 2 (some .int) : Cond) ∈ wsX8_lies := (sbX8_lies_X8_lies_r2 _ (memL 5 rfl))
theorem mwX8_lies_17 : (.initialized "java/lang/Math" : Cond) ∈ wsX8_lies := (sbX8_lies_X8_lies_r2 _ (memL 4 rfl))
theorem mwX8_lies_18 : (.static Lib.Math.min.name : Cond) ∈ wsX8_lies := (sbX8_lies_X8_lies_r2 _ (memL 3 rfl))
theorem mwX8_lies_19 : (.methodLink RX6 52 Lib.Math.min.name : Cond) ∈ wsX8_lies := (sbX8_lies_X8_lies_r2 _ (memL 2 rfl))
theorem mwX8_lies_20 : (.code yX6_count cX6_count 4 none : Cond) ∈ wsX8_lies := (sbX8_lies_X8_lies_r2 _ (memL 1 rfl))
theorem mwX8_lies_21 : (.initialized RX6 : Cond) ∈ wsX8_lies := (sbX8_lies_X8_lies_r1 _ (memL 13 rfl))
theorem mwX8_lies_22 : (.selects RX6 yX6_count yX6_count : Cond) ∈ wsX8_lies := (sbX8_lies_X8_lies_r2 _ (memL 0 rfl))
theorem mwX8_lies_23 : (.instanceMethod yX6_count : Cond) ∈ wsX8_lies := (sbX8_lies_X8_lies_r1 _ (memL 23 rfl))
theorem mwX8_lies_24 : (.methodLink RX6 48 yX6_count : Cond) ∈ wsX8_lies := (sbX8_lies_X8_lies_r1 _ (memL 22 rfl))
theorem mwX8_lies_25 : (.fieldLink RX6 27 "BuoyTender$Survey" "mostY" "I" : Cond) ∈ wsX8_lies := (sbX8_lies_X8_lies_r1 _ (memL 21 rfl))
theorem mwX8_lies_26 : (.fieldLink RX6 24 "BuoyTender$Survey" "mostX" "I" : Cond) ∈ wsX8_lies := (sbX8_lies_X8_lies_r1 _ (memL 20 rfl))
theorem mwX8_lies_27 : (.fieldLink RX6 21 "BuoyTender$Survey" "leastY" "I" : Cond) ∈ wsX8_lies := (sbX8_lies_X8_lies_r1 _ (memL 19 rfl))
theorem mwX8_lies_28 : (.fieldLink RX6 18 "BuoyTender$Survey" "leastX" "I" : Cond) ∈ wsX8_lies := (sbX8_lies_X8_lies_r1 _ (memL 18 rfl))
theorem mwX8_lies_29 : (.fieldLink RX6 15 "BuoyTender$Survey" "inRadius" "I" : Cond) ∈ wsX8_lies := (sbX8_lies_X8_lies_r1 _ (memL 17 rfl))
theorem mwX8_lies_30 : (.fieldLink RX6 9 "BuoyTender$Survey" "left" "I" : Cond) ∈ wsX8_lies := (sbX8_lies_X8_lies_r1 _ (memL 16 rfl))
set_option maxRecDepth 20000 in
theorem sbX8_lies_X60 : SubW wsX60 wsX8_lies := fun _ h => (List.mem_cons_of_mem _ (List.mem_append_right _ h))
set_option maxRecDepth 20000 in
theorem sbX8_lies_X10 : SubW wsX10 wsX8_lies := fun _ h => (List.mem_cons_of_mem _ (List.mem_append_left _ (List.mem_append_left _ (List.mem_append_left _ (List.mem_append_right _ h)))))
set_option maxRecDepth 20000 in
theorem sbX8_lies_X50 : SubW wsX50 wsX8_lies := fun _ h => (List.mem_cons_of_mem _ (List.mem_append_left _ (List.mem_append_right _ h)))
set_option maxRecDepth 20000 in
theorem sbX8_lies_X6_take : SubW wsX6_take wsX8_lies := (subW_cons mwX8_lies_10 (subW_app (subW_app (subW_app (subW_cons mwX8_lies_30 (subW_cons mwX8_lies_29 (subW_cons mwX8_lies_28 (subW_cons mwX8_lies_27 (subW_cons mwX8_lies_26 (subW_cons mwX8_lies_25 (subW_cons mwX8_lies_24 (subW_cons mwX8_lies_23 (subW_cons mwX8_lies_22 (subW_cons mwX8_lies_21 (subW_cons mwX8_lies_20 (subW_cons mwX8_lies_19 (subW_cons mwX8_lies_18 (subW_cons mwX8_lies_17 (subW_cons mwX8_lies_16 (subW_cons mwX8_lies_15 (subW_cons mwX8_lies_14 (subW_cons mwX8_lies_13 (subW_cons mwX8_lies_12 (subW_cons mwX8_lies_3 (subW_cons mwX8_lies_11 subW_nil))))))))))))))))))))) sbX8_lies_X60) sbX8_lies_X10) sbX8_lies_X50))
theorem ggX8_lies_X6_take : GoodIn wsX8_lies wsX6_take := goodIn_W gw_wsX8_lies sbX8_lies_X6_take
set_option maxRecDepth 20000 in
theorem gX8_lies_X6_take_n109 : GoodIn wsX8_lies (wsX6_take) := ggX8_lies_X6_take
theorem mwX8_lies_31 : (.code yX8_surveyed cX8_surveyed 3 (some .int) : Cond) ∈ wsX8_lies := (sbX8_lies_X8_lies_r2 _ (memL 14 rfl))
theorem mwX8_lies_32 : (.code yX6_how cX6_how 1 (some .int) : Cond) ∈ wsX8_lies := (sbX8_lies_X8_lies_r2 _ (memL 17 rfl))
theorem mwX8_lies_33 : (.selects RX6 yX6_how yX6_how : Cond) ∈ wsX8_lies := (sbX8_lies_X8_lies_r2 _ (memL 16 rfl))
theorem mwX8_lies_34 : (.instanceMethod yX6_how : Cond) ∈ wsX8_lies := (sbX8_lies_X8_lies_r2 _ (memL 15 rfl))
theorem mwX8_lies_35 : (.fieldLink RX8 46 "BuoyTender" "survey" "LBuoyTender$Survey;" : Cond) ∈ wsX8_lies := (sbX8_lies_X8_lies_r1 _ (memL 0 rfl))
set_option maxRecDepth 20000 in
theorem sbX8_lies_X8_surveyed : SubW wsX8_surveyed wsX8_lies := (subW_cons mwX8_lies_31 (subW_app (subW_app (subW_cons mwX8_lies_35 (subW_cons mwX8_lies_34 (subW_cons mwX8_lies_21 (subW_cons mwX8_lies_33 (subW_cons mwX8_lies_32 (subW_cons mwX8_lies_30 (subW_cons mwX8_lies_29 subW_nil))))))) sbX8_lies_X80) sbX8_lies_X60))
theorem ggX8_lies_X8_surveyed : GoodIn wsX8_lies wsX8_surveyed := goodIn_W gw_wsX8_lies sbX8_lies_X8_surveyed
theorem mwX8_lies_36 : (.selects RX8 yX8_surveyed yX8_surveyed : Cond) ∈ wsX8_lies := (sbX8_lies_X8_lies_r2 _ (memL 13 rfl))
theorem mwX8_lies_37 : (.instanceMethod yX8_surveyed : Cond) ∈ wsX8_lies := (sbX8_lies_X8_lies_r2 _ (memL 12 rfl))
theorem mwX8_lies_38 : (.methodLink RX8 116 yX8_surveyed : Cond) ∈ wsX8_lies := (sbX8_lies_X8_lies_r2 _ (memL 11 rfl))
theorem gX8_lies_X8_surveyed : GoodIn wsX8_lies (wsV RX8 116 RX8 yX8_surveyed wsX8_surveyed) := goodIn_W gw_wsX8_lies (subW_app (subW_cons mwX8_lies_38 (subW_cons mwX8_lies_37 (subW_cons mwX8_lies_36 (subW_cons mwX8_lies_3 subW_nil)))) sbX8_lies_X8_surveyed)
theorem dX8_lies_0 : decode cX8_lies 0 = .ok (.aload_n 0, 1) := by decide +kernel
theorem dX8_lies_1 : decode cX8_lies 1 = .ok (.iload_n 1, 1) := by decide +kernel
theorem dX8_lies_2 : decode cX8_lies 2 = .ok (.invokevirtual 76, 3) := by decide +kernel
theorem dX8_lies_5 : decode cX8_lies 5 = .ok (.astore_n 3, 1) := by decide +kernel
theorem dX8_lies_6 : decode cX8_lies 6 = .ok (.aload_n 3, 1) := by decide +kernel
theorem dX8_lies_7 : decode cX8_lies 7 = .ok (.ifnonnull 5, 3) := by decide +kernel
theorem dX8_lies_10 : decode cX8_lies 10 = .ok (.iconst (-1), 1) := by decide +kernel
theorem dX8_lies_11 : decode cX8_lies 11 = .ok (.ireturn, 1) := by decide +kernel
theorem dX8_lies_12 : decode cX8_lies 12 = .ok (.iload_n 2, 1) := by decide +kernel
theorem dX8_lies_13 : decode cX8_lies 13 = .ok (.bipush 6, 2) := by decide +kernel
theorem dX8_lies_15 : decode cX8_lies 15 = .ok (.if_icmp .ne 8, 3) := by decide +kernel
theorem dX8_lies_18 : decode cX8_lies 18 = .ok (.aload_n 3, 1) := by decide +kernel
theorem dX8_lies_19 : decode cX8_lies 19 = .ok (.getfield 92, 3) := by decide +kernel
theorem dX8_lies_22 : decode cX8_lies 22 = .ok (.ireturn, 1) := by decide +kernel
theorem dX8_lies_23 : decode cX8_lies 23 = .ok (.iload_n 2, 1) := by decide +kernel
theorem dX8_lies_24 : decode cX8_lies 24 = .ok (.bipush 7, 2) := by decide +kernel
theorem dX8_lies_26 : decode cX8_lies 26 = .ok (.if_icmp .ne 8, 3) := by decide +kernel
theorem dX8_lies_29 : decode cX8_lies 29 = .ok (.aload_n 3, 1) := by decide +kernel
theorem dX8_lies_30 : decode cX8_lies 30 = .ok (.getfield 95, 3) := by decide +kernel
theorem dX8_lies_33 : decode cX8_lies 33 = .ok (.ireturn, 1) := by decide +kernel
theorem dX8_lies_34 : decode cX8_lies 34 = .ok (.iload_n 2, 1) := by decide +kernel
theorem dX8_lies_35 : decode cX8_lies 35 = .ok (.bipush 8, 2) := by decide +kernel
theorem dX8_lies_37 : decode cX8_lies 37 = .ok (.if_icmp .ne 8, 3) := by decide +kernel
theorem dX8_lies_40 : decode cX8_lies 40 = .ok (.aload_n 3, 1) := by decide +kernel
theorem dX8_lies_41 : decode cX8_lies 41 = .ok (.getfield 106, 3) := by decide +kernel
theorem dX8_lies_44 : decode cX8_lies 44 = .ok (.ireturn, 1) := by decide +kernel
theorem dX8_lies_45 : decode cX8_lies 45 = .ok (.iload_n 2, 1) := by decide +kernel
theorem dX8_lies_46 : decode cX8_lies 46 = .ok (.iconst 0, 1) := by decide +kernel
theorem dX8_lies_47 : decode cX8_lies 47 = .ok (.iconst 5, 1) := by decide +kernel
theorem dX8_lies_48 : decode cX8_lies 48 = .ok (.invokestatic 61, 3) := by decide +kernel
theorem dX8_lies_51 : decode cX8_lies 51 = .ok (.ifCond .ne 5, 3) := by decide +kernel
theorem dX8_lies_54 : decode cX8_lies 54 = .ok (.iconst (-1), 1) := by decide +kernel
theorem dX8_lies_55 : decode cX8_lies 55 = .ok (.ireturn, 1) := by decide +kernel
theorem dX8_lies_56 : decode cX8_lies 56 = .ok (.aload_n 0, 1) := by decide +kernel
theorem dX8_lies_57 : decode cX8_lies 57 = .ok (.getfield 46, 3) := by decide +kernel
theorem dX8_lies_60 : decode cX8_lies 60 = .ok (.aload_n 3, 1) := by decide +kernel
theorem dX8_lies_61 : decode cX8_lies 61 = .ok (.aload_n 0, 1) := by decide +kernel
theorem dX8_lies_62 : decode cX8_lies 62 = .ok (.getfield 9, 3) := by decide +kernel
theorem dX8_lies_65 : decode cX8_lies 65 = .ok (.invokevirtual 109, 3) := by decide +kernel
theorem dX8_lies_68 : decode cX8_lies 68 = .ok (.aload_n 0, 1) := by decide +kernel
theorem dX8_lies_69 : decode cX8_lies 69 = .ok (.iload_n 2, 1) := by decide +kernel
theorem dX8_lies_70 : decode cX8_lies 70 = .ok (.aload_n 3, 1) := by decide +kernel
theorem dX8_lies_71 : decode cX8_lies 71 = .ok (.getfield 80, 3) := by decide +kernel
theorem dX8_lies_74 : decode cX8_lies 74 = .ok (.getfield 113, 3) := by decide +kernel
theorem dX8_lies_77 : decode cX8_lies 77 = .ok (.invokevirtual 116, 3) := by decide +kernel
theorem dX8_lies_80 : decode cX8_lies 80 = .ok (.ireturn, 1) := by decide +kernel
theorem mwX8_day_0 : (.code yX8_within cX8_within 3 (some .boolean) : Cond) ∈ wsX8_day := (List.mem_cons_of_mem _ (List.mem_append_left _ (memL 4 rfl)))
set_option maxRecDepth 20000 in
theorem sbX8_day_X8_within : SubW wsX8_within wsX8_day := (subW_cons mwX8_day_0 subW_nil)
set_option maxRecDepth 20000 in
theorem gw_wsX8_day : goodW wsX8_day := (goodW_cons rfl (goodW_app (goodW_of (by decide +kernel)) gw_wsX80))
theorem ggX8_day_X8_within : GoodIn wsX8_day wsX8_within := goodIn_W gw_wsX8_day sbX8_day_X8_within
theorem mwX8_day_1 : (.initialized RX8 : Cond) ∈ wsX8_day := (List.mem_cons_of_mem _ (List.mem_append_left _ (memL 3 rfl)))
theorem mwX8_day_2 : (.static yX8_within : Cond) ∈ wsX8_day := (List.mem_cons_of_mem _ (List.mem_append_left _ (memL 2 rfl)))
theorem mwX8_day_3 : (.methodLink RX8 61 yX8_within : Cond) ∈ wsX8_day := (List.mem_cons_of_mem _ (List.mem_append_left _ (memL 1 rfl)))
theorem gX8_day_X8_within : GoodIn wsX8_day (va_wsS RX8 61 yX8_within wsX8_within) := goodIn_W gw_wsX8_day (subW_app (subW_cons mwX8_day_3 (subW_cons mwX8_day_2 (subW_cons mwX8_day_1 subW_nil))) sbX8_day_X8_within)
theorem dX8_day_0 : decode cX8_day 0 = .ok (.iload_n 1, 1) := by decide +kernel
theorem dX8_day_1 : decode cX8_day 1 = .ok (.aload_n 0, 1) := by decide +kernel
theorem dX8_day_2 : decode cX8_day 2 = .ok (.getfield 120, 3) := by decide +kernel
theorem dX8_day_5 : decode cX8_day 5 = .ok (.sipush 10000, 3) := by decide +kernel
theorem dX8_day_8 : decode cX8_day 8 = .ok (.invokestatic 61, 3) := by decide +kernel
theorem dX8_day_11 : decode cX8_day 11 = .ok (.ifCond .ne 5, 3) := by decide +kernel
theorem dX8_day_14 : decode cX8_day 14 = .ok (.iconst 0, 1) := by decide +kernel
theorem dX8_day_15 : decode cX8_day 15 = .ok (.ireturn, 1) := by decide +kernel
theorem dX8_day_16 : decode cX8_day 16 = .ok (.aload_n 0, 1) := by decide +kernel
theorem dX8_day_17 : decode cX8_day 17 = .ok (.iload_n 1, 1) := by decide +kernel
theorem dX8_day_18 : decode cX8_day 18 = .ok (.putfield 120, 3) := by decide +kernel
theorem dX8_day_21 : decode cX8_day 21 = .ok (.iconst 1, 1) := by decide +kernel
theorem dX8_day_22 : decode cX8_day 22 = .ok (.ireturn, 1) := by decide +kernel
theorem mwX8_chain_0 : (.code yX8_known cX8_known 2 (some (.object "BuoyTender$Mark")) : Cond) ∈ wsX8_chain := (List.mem_cons_of_mem _ (List.mem_append_left _ (List.mem_append_left _ (List.mem_append_left _ (memL 4 rfl)))))
theorem mwX8_chain_1 : (.fieldLink RX8 15 "BuoyTender" "marks" "[LBuoyTender$Mark;" : Cond) ∈ wsX8_chain := (List.mem_cons_of_mem _ (List.mem_append_left _ (List.mem_append_left _ (List.mem_append_left _ (memL 6 rfl)))))
theorem mwX8_chain_2 : (.fieldLink RX8 69 "BuoyTender" "markCount" "I" : Cond) ∈ wsX8_chain := (List.mem_cons_of_mem _ (List.mem_append_left _ (List.mem_append_left _ (List.mem_append_left _ (memL 5 rfl)))))
set_option maxRecDepth 20000 in
theorem sbX8_chain_X80 : SubW wsX80 wsX8_chain := fun _ h => (List.mem_cons_of_mem _ (List.mem_append_left _ (List.mem_append_right _ h)))
set_option maxRecDepth 20000 in
theorem sbX8_chain_X8_known : SubW wsX8_known wsX8_chain := (subW_cons mwX8_chain_0 (subW_app (subW_cons mwX8_chain_2 (subW_cons mwX8_chain_1 subW_nil)) sbX8_chain_X80))
set_option maxRecDepth 20000 in
theorem gw_wsX8_chain : goodW wsX8_chain := (goodW_cons rfl (goodW_app (goodW_app (goodW_app (goodW_of (by decide +kernel)) gw_wsX10) gw_wsX80) gw_wsX00))
theorem ggX8_chain_X8_known : GoodIn wsX8_chain wsX8_known := goodIn_W gw_wsX8_chain sbX8_chain_X8_known
theorem mwX8_chain_3 : (.initialized RX8 : Cond) ∈ wsX8_chain := (List.mem_cons_of_mem _ (List.mem_append_left _ (List.mem_append_left _ (List.mem_append_left _ (memL 3 rfl)))))
theorem mwX8_chain_4 : (.selects RX8 yX8_known yX8_known : Cond) ∈ wsX8_chain := (List.mem_cons_of_mem _ (List.mem_append_left _ (List.mem_append_left _ (List.mem_append_left _ (memL 2 rfl)))))
theorem mwX8_chain_5 : (.instanceMethod yX8_known : Cond) ∈ wsX8_chain := (List.mem_cons_of_mem _ (List.mem_append_left _ (List.mem_append_left _ (List.mem_append_left _ (memL 1 rfl)))))
theorem mwX8_chain_6 : (.methodLink RX8 76 yX8_known : Cond) ∈ wsX8_chain := (List.mem_cons_of_mem _ (List.mem_append_left _ (List.mem_append_left _ (List.mem_append_left _ (memL 0 rfl)))))
theorem gX8_chain_X8_known : GoodIn wsX8_chain (wsV RX8 76 RX8 yX8_known wsX8_known) := goodIn_W gw_wsX8_chain (subW_app (subW_cons mwX8_chain_6 (subW_cons mwX8_chain_5 (subW_cons mwX8_chain_4 (subW_cons mwX8_chain_3 subW_nil)))) sbX8_chain_X8_known)
theorem mwX8_chain_7 : (.code yX8_within cX8_within 3 (some .boolean) : Cond) ∈ wsX8_chain := (List.mem_cons_of_mem _ (List.mem_append_left _ (List.mem_append_left _ (List.mem_append_left _ (memL 9 rfl)))))
set_option maxRecDepth 20000 in
theorem sbX8_chain_X8_within : SubW wsX8_within wsX8_chain := (subW_cons mwX8_chain_7 subW_nil)
theorem ggX8_chain_X8_within : GoodIn wsX8_chain wsX8_within := goodIn_W gw_wsX8_chain sbX8_chain_X8_within
theorem mwX8_chain_8 : (.static yX8_within : Cond) ∈ wsX8_chain := (List.mem_cons_of_mem _ (List.mem_append_left _ (List.mem_append_left _ (List.mem_append_left _ (memL 8 rfl)))))
theorem mwX8_chain_9 : (.methodLink RX8 61 yX8_within : Cond) ∈ wsX8_chain := (List.mem_cons_of_mem _ (List.mem_append_left _ (List.mem_append_left _ (List.mem_append_left _ (memL 7 rfl)))))
theorem gX8_chain_X8_within : GoodIn wsX8_chain (va_wsS RX8 61 yX8_within wsX8_within) := goodIn_W gw_wsX8_chain (subW_app (subW_cons mwX8_chain_9 (subW_cons mwX8_chain_8 (subW_cons mwX8_chain_3 subW_nil))) sbX8_chain_X8_within)
theorem mwX8_chain_10 : (.code yX8_thisMonth cX8_thisMonth 1 (some .int) : Cond) ∈ wsX8_chain := (List.mem_cons_of_mem _ (List.mem_append_left _ (List.mem_append_left _ (List.mem_append_left _ (memL 13 rfl)))))
theorem mwX8_chain_11 : (.fieldLink RX8 120 "BuoyTender" "today" "I" : Cond) ∈ wsX8_chain := (List.mem_cons_of_mem _ (List.mem_append_left _ (List.mem_append_left _ (List.mem_append_left _ (memL 14 rfl)))))
set_option maxRecDepth 20000 in
theorem sbX8_chain_X8_thisMonth : SubW wsX8_thisMonth wsX8_chain := (subW_cons mwX8_chain_10 (subW_app (subW_cons mwX8_chain_11 subW_nil) sbX8_chain_X80))
theorem ggX8_chain_X8_thisMonth : GoodIn wsX8_chain wsX8_thisMonth := goodIn_W gw_wsX8_chain sbX8_chain_X8_thisMonth
theorem mwX8_chain_12 : (.selects RX8 yX8_thisMonth yX8_thisMonth : Cond) ∈ wsX8_chain := (List.mem_cons_of_mem _ (List.mem_append_left _ (List.mem_append_left _ (List.mem_append_left _ (memL 12 rfl)))))
theorem mwX8_chain_13 : (.instanceMethod yX8_thisMonth : Cond) ∈ wsX8_chain := (List.mem_cons_of_mem _ (List.mem_append_left _ (List.mem_append_left _ (List.mem_append_left _ (memL 11 rfl)))))
theorem mwX8_chain_14 : (.methodLink RX8 127 yX8_thisMonth : Cond) ∈ wsX8_chain := (List.mem_cons_of_mem _ (List.mem_append_left _ (List.mem_append_left _ (List.mem_append_left _ (memL 10 rfl)))))
theorem gX8_chain_X8_thisMonth : GoodIn wsX8_chain (wsV RX8 127 RX8 yX8_thisMonth wsX8_thisMonth) := goodIn_W gw_wsX8_chain (subW_app (subW_cons mwX8_chain_14 (subW_cons mwX8_chain_13 (subW_cons mwX8_chain_12 (subW_cons mwX8_chain_3 subW_nil)))) sbX8_chain_X8_thisMonth)
theorem mwX8_chain_15 : (.code yX0_lay cX0_lay 5 none : Cond) ∈ wsX8_chain := (List.mem_cons_of_mem _ (List.mem_append_left _ (List.mem_append_left _ (List.mem_append_left _ (memL 18 rfl)))))
theorem mwX8_chain_16 : (.fieldLink RX0 25 "BuoyTender$Chain" "since" "I" : Cond) ∈ wsX8_chain := (List.mem_cons_of_mem _ (List.mem_append_left _ (List.mem_append_left _ (List.mem_append_left _ (memL 23 rfl)))))
theorem mwX8_chain_17 : (.fieldLink RX0 22 "BuoyTender$Chain" "kind" "I" : Cond) ∈ wsX8_chain := (List.mem_cons_of_mem _ (List.mem_append_left _ (List.mem_append_left _ (List.mem_append_left _ (memL 22 rfl)))))
theorem mwX8_chain_18 : (.fieldLink RX0 19 "BuoyTender$Chain" "least" "I" : Cond) ∈ wsX8_chain := (List.mem_cons_of_mem _ (List.mem_append_left _ (List.mem_append_left _ (List.mem_append_left _ (memL 21 rfl)))))
theorem mwX8_chain_19 : (.fieldLink RX0 15 "BuoyTender$Chain" "thickness" "I" : Cond) ∈ wsX8_chain := (List.mem_cons_of_mem _ (List.mem_append_left _ (List.mem_append_left _ (List.mem_append_left _ (memL 20 rfl)))))
theorem mwX8_chain_20 : (.fieldLink RX0 9 "BuoyTender$Chain" "laid" "Z" : Cond) ∈ wsX8_chain := (List.mem_cons_of_mem _ (List.mem_append_left _ (List.mem_append_left _ (List.mem_append_left _ (memL 19 rfl)))))
set_option maxRecDepth 20000 in
theorem sbX8_chain_X00 : SubW wsX00 wsX8_chain := fun _ h => (List.mem_cons_of_mem _ (List.mem_append_right _ h))
set_option maxRecDepth 20000 in
theorem sbX8_chain_X0_lay : SubW wsX0_lay wsX8_chain := (subW_cons mwX8_chain_15 (subW_app (subW_cons mwX8_chain_20 (subW_cons mwX8_chain_19 (subW_cons mwX8_chain_18 (subW_cons mwX8_chain_17 (subW_cons mwX8_chain_16 subW_nil))))) sbX8_chain_X00))
theorem ggX8_chain_X0_lay : GoodIn wsX8_chain wsX0_lay := goodIn_W gw_wsX8_chain sbX8_chain_X0_lay
set_option maxRecDepth 20000 in
theorem gX8_chain_X0_lay_n131 : GoodIn wsX8_chain (wsX0_lay) := ggX8_chain_X0_lay
theorem dX8_chain_0 : decode cX8_chain 0 = .ok (.aload_n 0, 1) := by decide +kernel
theorem dX8_chain_1 : decode cX8_chain 1 = .ok (.iload_n 1, 1) := by decide +kernel
theorem dX8_chain_2 : decode cX8_chain 2 = .ok (.invokevirtual 76, 3) := by decide +kernel
theorem dX8_chain_5 : decode cX8_chain 5 = .ok (.astore 5, 2) := by decide +kernel
theorem dX8_chain_7 : decode cX8_chain 7 = .ok (.aload 5, 2) := by decide +kernel
theorem dX8_chain_9 : decode cX8_chain 9 = .ok (.ifnull 33, 3) := by decide +kernel
theorem dX8_chain_12 : decode cX8_chain 12 = .ok (.iload_n 2, 1) := by decide +kernel
theorem dX8_chain_13 : decode cX8_chain 13 = .ok (.iconst 1, 1) := by decide +kernel
theorem dX8_chain_14 : decode cX8_chain 14 = .ok (.sipush 1000, 3) := by decide +kernel
theorem dX8_chain_17 : decode cX8_chain 17 = .ok (.invokestatic 61, 3) := by decide +kernel
theorem dX8_chain_20 : decode cX8_chain 20 = .ok (.ifCond .eq 22, 3) := by decide +kernel
theorem dX8_chain_23 : decode cX8_chain 23 = .ok (.iload_n 3, 1) := by decide +kernel
theorem dX8_chain_24 : decode cX8_chain 24 = .ok (.iconst 0, 1) := by decide +kernel
theorem dX8_chain_25 : decode cX8_chain 25 = .ok (.iload_n 2, 1) := by decide +kernel
theorem dX8_chain_26 : decode cX8_chain 26 = .ok (.invokestatic 61, 3) := by decide +kernel
theorem dX8_chain_29 : decode cX8_chain 29 = .ok (.ifCond .eq 13, 3) := by decide +kernel
theorem dX8_chain_32 : decode cX8_chain 32 = .ok (.iload 4, 2) := by decide +kernel
theorem dX8_chain_34 : decode cX8_chain 34 = .ok (.iconst 0, 1) := by decide +kernel
theorem dX8_chain_35 : decode cX8_chain 35 = .ok (.iconst 3, 1) := by decide +kernel
theorem dX8_chain_36 : decode cX8_chain 36 = .ok (.invokestatic 61, 3) := by decide +kernel
theorem dX8_chain_39 : decode cX8_chain 39 = .ok (.ifCond .ne 5, 3) := by decide +kernel
theorem dX8_chain_42 : decode cX8_chain 42 = .ok (.iconst 0, 1) := by decide +kernel
theorem dX8_chain_43 : decode cX8_chain 43 = .ok (.ireturn, 1) := by decide +kernel
theorem dX8_chain_44 : decode cX8_chain 44 = .ok (.aload 5, 2) := by decide +kernel
theorem dX8_chain_46 : decode cX8_chain 46 = .ok (.getfield 123, 3) := by decide +kernel
theorem dX8_chain_49 : decode cX8_chain 49 = .ok (.iload_n 2, 1) := by decide +kernel
theorem dX8_chain_50 : decode cX8_chain 50 = .ok (.iload_n 3, 1) := by decide +kernel
theorem dX8_chain_51 : decode cX8_chain 51 = .ok (.iload 4, 2) := by decide +kernel
theorem dX8_chain_53 : decode cX8_chain 53 = .ok (.aload_n 0, 1) := by decide +kernel
theorem dX8_chain_54 : decode cX8_chain 54 = .ok (.invokevirtual 127, 3) := by decide +kernel
theorem dX8_chain_57 : decode cX8_chain 57 = .ok (.invokevirtual 131, 3) := by decide +kernel
theorem dX8_chain_60 : decode cX8_chain 60 = .ok (.iconst 1, 1) := by decide +kernel
theorem dX8_chain_61 : decode cX8_chain 61 = .ok (.ireturn, 1) := by decide +kernel
theorem mwX8_wear_0 : (.code yX8_within cX8_within 3 (some .boolean) : Cond) ∈ wsX8_wear := (List.mem_cons_of_mem _ (List.mem_append_left _ (memL 4 rfl)))
set_option maxRecDepth 20000 in
theorem sbX8_wear_X8_within : SubW wsX8_within wsX8_wear := (subW_cons mwX8_wear_0 subW_nil)
set_option maxRecDepth 20000 in
theorem gw_wsX8_wear : goodW wsX8_wear := (goodW_cons rfl (goodW_app (goodW_of (by decide +kernel)) gw_wsX80))
theorem ggX8_wear_X8_within : GoodIn wsX8_wear wsX8_within := goodIn_W gw_wsX8_wear sbX8_wear_X8_within
theorem mwX8_wear_1 : (.initialized RX8 : Cond) ∈ wsX8_wear := (List.mem_cons_of_mem _ (List.mem_append_left _ (memL 3 rfl)))
theorem mwX8_wear_2 : (.static yX8_within : Cond) ∈ wsX8_wear := (List.mem_cons_of_mem _ (List.mem_append_left _ (memL 2 rfl)))
theorem mwX8_wear_3 : (.methodLink RX8 61 yX8_within : Cond) ∈ wsX8_wear := (List.mem_cons_of_mem _ (List.mem_append_left _ (memL 1 rfl)))
theorem gX8_wear_X8_within : GoodIn wsX8_wear (va_wsS RX8 61 yX8_within wsX8_within) := goodIn_W gw_wsX8_wear (subW_app (subW_cons mwX8_wear_3 (subW_cons mwX8_wear_2 (subW_cons mwX8_wear_1 subW_nil))) sbX8_wear_X8_within)
theorem dX8_wear_0 : decode cX8_wear 0 = .ok (.iload_n 1, 1) := by decide +kernel
theorem dX8_wear_1 : decode cX8_wear 1 = .ok (.iconst 0, 1) := by decide +kernel
theorem dX8_wear_2 : decode cX8_wear 2 = .ok (.iconst 3, 1) := by decide +kernel
theorem dX8_wear_3 : decode cX8_wear 3 = .ok (.invokestatic 61, 3) := by decide +kernel
theorem dX8_wear_6 : decode cX8_wear 6 = .ok (.ifCond .eq 23, 3) := by decide +kernel
theorem dX8_wear_9 : decode cX8_wear 9 = .ok (.iload_n 2, 1) := by decide +kernel
theorem dX8_wear_10 : decode cX8_wear 10 = .ok (.iconst 0, 1) := by decide +kernel
theorem dX8_wear_11 : decode cX8_wear 11 = .ok (.bipush 11, 2) := by decide +kernel
theorem dX8_wear_13 : decode cX8_wear 13 = .ok (.invokestatic 61, 3) := by decide +kernel
theorem dX8_wear_16 : decode cX8_wear 16 = .ok (.ifCond .eq 13, 3) := by decide +kernel
theorem dX8_wear_19 : decode cX8_wear 19 = .ok (.iload_n 3, 1) := by decide +kernel
theorem dX8_wear_20 : decode cX8_wear 20 = .ok (.iconst 0, 1) := by decide +kernel
theorem dX8_wear_21 : decode cX8_wear 21 = .ok (.bipush 100, 2) := by decide +kernel
theorem dX8_wear_23 : decode cX8_wear 23 = .ok (.invokestatic 61, 3) := by decide +kernel
theorem dX8_wear_26 : decode cX8_wear 26 = .ok (.ifCond .ne 5, 3) := by decide +kernel
theorem dX8_wear_29 : decode cX8_wear 29 = .ok (.iconst 0, 1) := by decide +kernel
theorem dX8_wear_30 : decode cX8_wear 30 = .ok (.ireturn, 1) := by decide +kernel
theorem dX8_wear_31 : decode cX8_wear 31 = .ok (.aload_n 0, 1) := by decide +kernel
theorem dX8_wear_32 : decode cX8_wear 32 = .ok (.getfield 19, 3) := by decide +kernel
theorem dX8_wear_35 : decode cX8_wear 35 = .ok (.iload_n 1, 1) := by decide +kernel
theorem dX8_wear_36 : decode cX8_wear 36 = .ok (.bipush 12, 2) := by decide +kernel
theorem dX8_wear_38 : decode cX8_wear 38 = .ok (.imul, 1) := by decide +kernel
theorem dX8_wear_39 : decode cX8_wear 39 = .ok (.iload_n 2, 1) := by decide +kernel
theorem dX8_wear_40 : decode cX8_wear 40 = .ok (.iadd, 1) := by decide +kernel
theorem dX8_wear_41 : decode cX8_wear 41 = .ok (.iload_n 3, 1) := by decide +kernel
theorem dX8_wear_42 : decode cX8_wear 42 = .ok (.iastore, 1) := by decide +kernel
theorem dX8_wear_43 : decode cX8_wear 43 = .ok (.iconst 1, 1) := by decide +kernel
theorem dX8_wear_44 : decode cX8_wear 44 = .ok (.ireturn, 1) := by decide +kernel
theorem sbX8_chainOf_X8_chainOf_r1 : SubW wsX8_chainOf_r1 wsX8_chainOf := fun _ h => (List.mem_cons_of_mem _ (List.mem_append_left _ (List.mem_append_left _ (List.mem_append_left _ (List.mem_append_left _ h)))))
theorem sbX8_chainOf_X8_chainOf_r2 : SubW wsX8_chainOf_r2 wsX8_chainOf := fun _ h => (List.mem_cons_of_mem _ (List.mem_append_left _ (List.mem_append_left _ (List.mem_append_left _ (List.mem_append_right _ h)))))
theorem mwX8_chainOf_0 : (.code yX8_known cX8_known 2 (some (.object "BuoyTender$Mark")) : Cond) ∈ wsX8_chainOf := (sbX8_chainOf_X8_chainOf_r1 _ (memL 9 rfl))
theorem mwX8_chainOf_1 : (.fieldLink RX8 15 "BuoyTender" "marks" "[LBuoyTender$Mark;" : Cond) ∈ wsX8_chainOf := (sbX8_chainOf_X8_chainOf_r1 _ (memL 11 rfl))
theorem mwX8_chainOf_2 : (.fieldLink RX8 69 "BuoyTender" "markCount" "I" : Cond) ∈ wsX8_chainOf := (sbX8_chainOf_X8_chainOf_r1 _ (memL 10 rfl))
set_option maxRecDepth 20000 in
theorem sbX8_chainOf_X80 : SubW wsX80 wsX8_chainOf := fun _ h => (List.mem_cons_of_mem _ (List.mem_append_right _ h))
set_option maxRecDepth 20000 in
theorem sbX8_chainOf_X8_known : SubW wsX8_known wsX8_chainOf := (subW_cons mwX8_chainOf_0 (subW_app (subW_cons mwX8_chainOf_2 (subW_cons mwX8_chainOf_1 subW_nil)) sbX8_chainOf_X80))
set_option maxRecDepth 20000 in
theorem gw_wsX8_chainOf_r1 : goodW wsX8_chainOf_r1 := (goodW_of (by decide +kernel))
set_option maxRecDepth 20000 in
theorem gw_wsX8_chainOf_r2 : goodW wsX8_chainOf_r2 := (goodW_of (by decide +kernel))
set_option maxRecDepth 20000 in
theorem gw_wsX8_chainOf : goodW wsX8_chainOf := (goodW_cons rfl (goodW_app (goodW_app (goodW_app (goodW_app gw_wsX8_chainOf_r1 gw_wsX8_chainOf_r2) gw_wsX10) gw_wsX00) gw_wsX80))
theorem ggX8_chainOf_X8_known : GoodIn wsX8_chainOf wsX8_known := goodIn_W gw_wsX8_chainOf sbX8_chainOf_X8_known
theorem mwX8_chainOf_3 : (.initialized RX8 : Cond) ∈ wsX8_chainOf := (sbX8_chainOf_X8_chainOf_r1 _ (memL 8 rfl))
theorem mwX8_chainOf_4 : (.selects RX8 yX8_known yX8_known : Cond) ∈ wsX8_chainOf := (sbX8_chainOf_X8_chainOf_r1 _ (memL 7 rfl))
theorem mwX8_chainOf_5 : (.instanceMethod yX8_known : Cond) ∈ wsX8_chainOf := (sbX8_chainOf_X8_chainOf_r1 _ (memL 6 rfl))
theorem mwX8_chainOf_6 : (.methodLink RX8 76 yX8_known : Cond) ∈ wsX8_chainOf := (sbX8_chainOf_X8_chainOf_r1 _ (memL 5 rfl))
theorem gX8_chainOf_X8_known : GoodIn wsX8_chainOf (wsV RX8 76 RX8 yX8_known wsX8_known) := goodIn_W gw_wsX8_chainOf (subW_app (subW_cons mwX8_chainOf_6 (subW_cons mwX8_chainOf_5 (subW_cons mwX8_chainOf_4 (subW_cons mwX8_chainOf_3 subW_nil)))) sbX8_chainOf_X8_known)
theorem mwX8_chainOf_7 : (.code yX8_thisMonth cX8_thisMonth 1 (some .int) : Cond) ∈ wsX8_chainOf := (sbX8_chainOf_X8_chainOf_r1 _ (memL 15 rfl))
theorem mwX8_chainOf_8 : (.fieldLink RX8 120 "BuoyTender" "today" "I" : Cond) ∈ wsX8_chainOf := (sbX8_chainOf_X8_chainOf_r1 _ (memL 16 rfl))
set_option maxRecDepth 20000 in
theorem sbX8_chainOf_X8_thisMonth : SubW wsX8_thisMonth wsX8_chainOf := (subW_cons mwX8_chainOf_7 (subW_app (subW_cons mwX8_chainOf_8 subW_nil) sbX8_chainOf_X80))
theorem ggX8_chainOf_X8_thisMonth : GoodIn wsX8_chainOf wsX8_thisMonth := goodIn_W gw_wsX8_chainOf sbX8_chainOf_X8_thisMonth
theorem mwX8_chainOf_9 : (.selects RX8 yX8_thisMonth yX8_thisMonth : Cond) ∈ wsX8_chainOf := (sbX8_chainOf_X8_chainOf_r1 _ (memL 14 rfl))
theorem mwX8_chainOf_10 : (.instanceMethod yX8_thisMonth : Cond) ∈ wsX8_chainOf := (sbX8_chainOf_X8_chainOf_r1 _ (memL 13 rfl))
theorem mwX8_chainOf_11 : (.methodLink RX8 127 yX8_thisMonth : Cond) ∈ wsX8_chainOf := (sbX8_chainOf_X8_chainOf_r1 _ (memL 12 rfl))
theorem gX8_chainOf_X8_thisMonth : GoodIn wsX8_chainOf (wsV RX8 127 RX8 yX8_thisMonth wsX8_thisMonth) := goodIn_W gw_wsX8_chainOf (subW_app (subW_cons mwX8_chainOf_11 (subW_cons mwX8_chainOf_10 (subW_cons mwX8_chainOf_9 (subW_cons mwX8_chainOf_3 subW_nil)))) sbX8_chainOf_X8_thisMonth)
theorem mwX8_chainOf_12 : (.code yX0_leftBehind cX0_leftBehind 5 (some .int) : Cond) ∈ wsX8_chainOf := (sbX8_chainOf_X8_chainOf_r1 _ (memL 20 rfl))
theorem mwX8_chainOf_13 : (.fieldLink RX0 22 "BuoyTender$Chain" "kind" "I" : Cond) ∈ wsX8_chainOf := (sbX8_chainOf_X8_chainOf_r2 _ (memL 3 rfl))
theorem mwX8_chainOf_14 : (.code yX0_wornIn cX0_wornIn 4 (some .int) : Cond) ∈ wsX8_chainOf := (sbX8_chainOf_X8_chainOf_r2 _ (memL 2 rfl))
theorem mwX8_chainOf_15 : (.initialized RX0 : Cond) ∈ wsX8_chainOf := (sbX8_chainOf_X8_chainOf_r1 _ (memL 18 rfl))
theorem mwX8_chainOf_16 : (.selects RX0 yX0_wornIn yX0_wornIn : Cond) ∈ wsX8_chainOf := (sbX8_chainOf_X8_chainOf_r2 _ (memL 1 rfl))
theorem mwX8_chainOf_17 : (.instanceMethod yX0_wornIn : Cond) ∈ wsX8_chainOf := (sbX8_chainOf_X8_chainOf_r2 _ (memL 0 rfl))
theorem mwX8_chainOf_18 : (.methodLink RX0 28 yX0_wornIn : Cond) ∈ wsX8_chainOf := (sbX8_chainOf_X8_chainOf_r1 _ (memL 23 rfl))
theorem mwX8_chainOf_19 : (.fieldLink RX0 25 "BuoyTender$Chain" "since" "I" : Cond) ∈ wsX8_chainOf := (sbX8_chainOf_X8_chainOf_r1 _ (memL 22 rfl))
theorem mwX8_chainOf_20 : (.fieldLink RX0 15 "BuoyTender$Chain" "thickness" "I" : Cond) ∈ wsX8_chainOf := (sbX8_chainOf_X8_chainOf_r1 _ (memL 21 rfl))
set_option maxRecDepth 20000 in
theorem sbX8_chainOf_X00 : SubW wsX00 wsX8_chainOf := fun _ h => (List.mem_cons_of_mem _ (List.mem_append_left _ (List.mem_append_right _ h)))
set_option maxRecDepth 20000 in
theorem sbX8_chainOf_X0_leftBehind : SubW wsX0_leftBehind wsX8_chainOf := (subW_cons mwX8_chainOf_12 (subW_app (subW_cons mwX8_chainOf_20 (subW_cons mwX8_chainOf_19 (subW_cons mwX8_chainOf_18 (subW_cons mwX8_chainOf_17 (subW_cons mwX8_chainOf_16 (subW_cons mwX8_chainOf_15 (subW_cons mwX8_chainOf_14 (subW_cons mwX8_chainOf_13 subW_nil)))))))) sbX8_chainOf_X00))
theorem ggX8_chainOf_X0_leftBehind : GoodIn wsX8_chainOf wsX0_leftBehind := goodIn_W gw_wsX8_chainOf sbX8_chainOf_X0_leftBehind
set_option maxRecDepth 20000 in
theorem gX8_chainOf_X0_leftBehind_n140 : GoodIn wsX8_chainOf (wsX0_leftBehind) := ggX8_chainOf_X0_leftBehind
theorem mwX8_chainOf_21 : (.code yX0_lifeEnds cX0_lifeEnds 4 (some .int) : Cond) ∈ wsX8_chainOf := (sbX8_chainOf_X8_chainOf_r2 _ (memL 6 rfl))
theorem mwX8_chainOf_22 : (.fieldLink RX0 19 "BuoyTender$Chain" "least" "I" : Cond) ∈ wsX8_chainOf := (sbX8_chainOf_X8_chainOf_r2 _ (memL 7 rfl))
set_option maxRecDepth 20000 in
theorem sbX8_chainOf_X0_lifeEnds : SubW wsX0_lifeEnds wsX8_chainOf := (subW_cons mwX8_chainOf_21 (subW_app (subW_cons mwX8_chainOf_20 (subW_cons mwX8_chainOf_19 (subW_cons mwX8_chainOf_22 (subW_cons mwX8_chainOf_18 (subW_cons mwX8_chainOf_17 (subW_cons mwX8_chainOf_16 (subW_cons mwX8_chainOf_15 (subW_cons mwX8_chainOf_14 (subW_cons mwX8_chainOf_13 subW_nil))))))))) sbX8_chainOf_X00))
theorem ggX8_chainOf_X0_lifeEnds : GoodIn wsX8_chainOf wsX0_lifeEnds := goodIn_W gw_wsX8_chainOf sbX8_chainOf_X0_lifeEnds
set_option maxRecDepth 20000 in
theorem gX8_chainOf_X0_lifeEnds_n150 : GoodIn wsX8_chainOf (wsX0_lifeEnds) := ggX8_chainOf_X0_lifeEnds
theorem dX8_chainOf_0 : decode cX8_chainOf 0 = .ok (.aload_n 0, 1) := by decide +kernel
theorem dX8_chainOf_1 : decode cX8_chainOf 1 = .ok (.iload_n 1, 1) := by decide +kernel
theorem dX8_chainOf_2 : decode cX8_chainOf 2 = .ok (.invokevirtual 76, 3) := by decide +kernel
theorem dX8_chainOf_5 : decode cX8_chainOf 5 = .ok (.astore_n 3, 1) := by decide +kernel
theorem dX8_chainOf_6 : decode cX8_chainOf 6 = .ok (.aload_n 3, 1) := by decide +kernel
theorem dX8_chainOf_7 : decode cX8_chainOf 7 = .ok (.ifnull 13, 3) := by decide +kernel
theorem dX8_chainOf_10 : decode cX8_chainOf 10 = .ok (.aload_n 3, 1) := by decide +kernel
theorem dX8_chainOf_11 : decode cX8_chainOf 11 = .ok (.getfield 123, 3) := by decide +kernel
theorem dX8_chainOf_14 : decode cX8_chainOf 14 = .ok (.getfield 137, 3) := by decide +kernel
theorem dX8_chainOf_17 : decode cX8_chainOf 17 = .ok (.ifCond .ne 5, 3) := by decide +kernel
theorem dX8_chainOf_20 : decode cX8_chainOf 20 = .ok (.iconst (-1), 1) := by decide +kernel
theorem dX8_chainOf_21 : decode cX8_chainOf 21 = .ok (.ireturn, 1) := by decide +kernel
theorem dX8_chainOf_22 : decode cX8_chainOf 22 = .ok (.iload_n 2, 1) := by decide +kernel
theorem dX8_chainOf_23 : decode cX8_chainOf 23 = .ok (.tableswitch 65 0 2 #[25, 45, 57], 25) := by decide +kernel
theorem dX8_chainOf_48 : decode cX8_chainOf 48 = .ok (.iconst 0, 1) := by decide +kernel
theorem dX8_chainOf_49 : decode cX8_chainOf 49 = .ok (.aload_n 3, 1) := by decide +kernel
theorem dX8_chainOf_50 : decode cX8_chainOf 50 = .ok (.getfield 123, 3) := by decide +kernel
theorem dX8_chainOf_53 : decode cX8_chainOf 53 = .ok (.aload_n 0, 1) := by decide +kernel
theorem dX8_chainOf_54 : decode cX8_chainOf 54 = .ok (.invokevirtual 127, 3) := by decide +kernel
theorem dX8_chainOf_57 : decode cX8_chainOf 57 = .ok (.aload_n 0, 1) := by decide +kernel
theorem dX8_chainOf_58 : decode cX8_chainOf 58 = .ok (.getfield 19, 3) := by decide +kernel
theorem dX8_chainOf_61 : decode cX8_chainOf 61 = .ok (.invokevirtual 140, 3) := by decide +kernel
theorem dX8_chainOf_64 : decode cX8_chainOf 64 = .ok (.invokestatic 144, 3) := by decide +kernel
theorem dX8_chainOf_67 : decode cX8_chainOf 67 = .ok (.ireturn, 1) := by decide +kernel
theorem dX8_chainOf_68 : decode cX8_chainOf 68 = .ok (.aload_n 3, 1) := by decide +kernel
theorem dX8_chainOf_69 : decode cX8_chainOf 69 = .ok (.getfield 123, 3) := by decide +kernel
theorem dX8_chainOf_72 : decode cX8_chainOf 72 = .ok (.aload_n 0, 1) := by decide +kernel
theorem dX8_chainOf_73 : decode cX8_chainOf 73 = .ok (.getfield 19, 3) := by decide +kernel
theorem dX8_chainOf_76 : decode cX8_chainOf 76 = .ok (.invokevirtual 150, 3) := by decide +kernel
theorem dX8_chainOf_79 : decode cX8_chainOf 79 = .ok (.ireturn, 1) := by decide +kernel
theorem dX8_chainOf_80 : decode cX8_chainOf 80 = .ok (.aload_n 3, 1) := by decide +kernel
theorem dX8_chainOf_81 : decode cX8_chainOf 81 = .ok (.getfield 123, 3) := by decide +kernel
theorem dX8_chainOf_84 : decode cX8_chainOf 84 = .ok (.getfield 154, 3) := by decide +kernel
theorem dX8_chainOf_87 : decode cX8_chainOf 87 = .ok (.ireturn, 1) := by decide +kernel
theorem dX8_chainOf_88 : decode cX8_chainOf 88 = .ok (.iconst (-1), 1) := by decide +kernel
theorem dX8_chainOf_89 : decode cX8_chainOf 89 = .ok (.ireturn, 1) := by decide +kernel
theorem sbX8_light_X8_light_r1 : SubW wsX8_light_r1 wsX8_light := fun _ h => (List.mem_cons_of_mem _ (List.mem_append_left _ (List.mem_append_left _ (List.mem_append_left _ (List.mem_append_left _ h)))))
theorem sbX8_light_X8_light_r2 : SubW wsX8_light_r2 wsX8_light := fun _ h => (List.mem_cons_of_mem _ (List.mem_append_left _ (List.mem_append_left _ (List.mem_append_left _ (List.mem_append_right _ h)))))
theorem mwX8_light_0 : (.code yX8_known cX8_known 2 (some (.object "BuoyTender$Mark")) : Cond) ∈ wsX8_light := (sbX8_light_X8_light_r1 _ (memL 5 rfl))
theorem mwX8_light_1 : (.fieldLink RX8 15 "BuoyTender" "marks" "[LBuoyTender$Mark;" : Cond) ∈ wsX8_light := (sbX8_light_X8_light_r1 _ (memL 7 rfl))
theorem mwX8_light_2 : (.fieldLink RX8 69 "BuoyTender" "markCount" "I" : Cond) ∈ wsX8_light := (sbX8_light_X8_light_r1 _ (memL 6 rfl))
set_option maxRecDepth 20000 in
theorem sbX8_light_X80 : SubW wsX80 wsX8_light := fun _ h => (List.mem_cons_of_mem _ (List.mem_append_left _ (List.mem_append_right _ h)))
set_option maxRecDepth 20000 in
theorem sbX8_light_X8_known : SubW wsX8_known wsX8_light := (subW_cons mwX8_light_0 (subW_app (subW_cons mwX8_light_2 (subW_cons mwX8_light_1 subW_nil)) sbX8_light_X80))
set_option maxRecDepth 20000 in
theorem gw_wsX8_light_r1 : goodW wsX8_light_r1 := (goodW_of (by decide +kernel))
set_option maxRecDepth 20000 in
theorem gw_wsX8_light_r2 : goodW wsX8_light_r2 := (goodW_of (by decide +kernel))
set_option maxRecDepth 20000 in
theorem gw_wsX8_light : goodW wsX8_light := (goodW_cons rfl (goodW_app (goodW_app (goodW_app (goodW_app gw_wsX8_light_r1 gw_wsX8_light_r2) gw_wsX10) gw_wsX80) gw_wsX30))
theorem ggX8_light_X8_known : GoodIn wsX8_light wsX8_known := goodIn_W gw_wsX8_light sbX8_light_X8_known
theorem mwX8_light_3 : (.initialized RX8 : Cond) ∈ wsX8_light := (sbX8_light_X8_light_r1 _ (memL 4 rfl))
theorem mwX8_light_4 : (.selects RX8 yX8_known yX8_known : Cond) ∈ wsX8_light := (sbX8_light_X8_light_r1 _ (memL 3 rfl))
theorem mwX8_light_5 : (.instanceMethod yX8_known : Cond) ∈ wsX8_light := (sbX8_light_X8_light_r1 _ (memL 2 rfl))
theorem mwX8_light_6 : (.methodLink RX8 76 yX8_known : Cond) ∈ wsX8_light := (sbX8_light_X8_light_r1 _ (memL 1 rfl))
theorem gX8_light_X8_known : GoodIn wsX8_light (wsV RX8 76 RX8 yX8_known wsX8_known) := goodIn_W gw_wsX8_light (subW_app (subW_cons mwX8_light_6 (subW_cons mwX8_light_5 (subW_cons mwX8_light_4 (subW_cons mwX8_light_3 subW_nil)))) sbX8_light_X8_known)
theorem mwX8_light_7 : (.code yX3_goDark cX3_goDark 1 none : Cond) ∈ wsX8_light := (sbX8_light_X8_light_r1 _ (memL 11 rfl))
theorem mwX8_light_8 : (.fieldLink RX3 15 "BuoyTender$Rhythm" "many" "I" : Cond) ∈ wsX8_light := (sbX8_light_X8_light_r1 _ (memL 12 rfl))
set_option maxRecDepth 20000 in
theorem sbX8_light_X30 : SubW wsX30 wsX8_light := fun _ h => (List.mem_cons_of_mem _ (List.mem_append_right _ h))
set_option maxRecDepth 20000 in
theorem sbX8_light_X3_goDark : SubW wsX3_goDark wsX8_light := (subW_cons mwX8_light_7 (subW_app (subW_cons mwX8_light_8 subW_nil) sbX8_light_X30))
theorem ggX8_light_X3_goDark : GoodIn wsX8_light wsX3_goDark := goodIn_W gw_wsX8_light sbX8_light_X3_goDark
set_option maxRecDepth 20000 in
theorem gX8_light_X3_goDark_n160 : GoodIn wsX8_light (wsX3_goDark) := ggX8_light_X3_goDark
theorem mwX8_light_9 : (.code yX3_read cX3_read 6 (some .boolean) : Cond) ∈ wsX8_light := (sbX8_light_X8_light_r1 _ (memL 15 rfl))
theorem mwX8_light_10 : (.code yX8_within cX8_within 3 (some .boolean) : Cond) ∈ wsX8_light := (sbX8_light_X8_light_r1 _ (memL 18 rfl))
theorem mwX8_light_11 : (.static yX8_within : Cond) ∈ wsX8_light := (sbX8_light_X8_light_r1 _ (memL 17 rfl))
theorem mwX8_light_12 : (.fieldLink RX3 9 "BuoyTender$Rhythm" "steps" "[I" : Cond) ∈ wsX8_light := (sbX8_light_X8_light_r1 _ (memL 16 rfl))
set_option maxRecDepth 20000 in
theorem sbX8_light_X3_read : SubW wsX3_read wsX8_light := (subW_cons mwX8_light_9 (subW_app (subW_cons mwX8_light_12 (subW_cons mwX8_light_8 (subW_cons mwX8_light_11 (subW_cons mwX8_light_3 (subW_cons mwX8_light_10 subW_nil))))) sbX8_light_X30))
theorem ggX8_light_X3_read : GoodIn wsX8_light wsX3_read := goodIn_W gw_wsX8_light sbX8_light_X3_read
set_option maxRecDepth 20000 in
theorem gX8_light_X3_read_n163 : GoodIn wsX8_light (wsX3_read) := ggX8_light_X3_read
theorem mwX8_light_13 : (.code yX8_clashesNearby cX8_clashesNearby 5 (some .boolean) : Cond) ∈ wsX8_light := (sbX8_light_X8_light_r1 _ (memL 22 rfl))
theorem mwX8_light_14 : (.instanceMethod yX3_matchesTurned : Cond) ∈ wsX8_light := (sbX8_light_X8_light_r2 _ (memL 12 rfl))
theorem mwX8_light_15 : (.methodLink RX3 29 yX3_matchesTurned : Cond) ∈ wsX8_light := (sbX8_light_X8_light_r2 _ (memL 11 rfl))
theorem mwX8_light_16 : (.code yX3_matches cX3_matches 3 (some .boolean) : Cond) ∈ wsX8_light := (sbX8_light_X8_light_r2 _ (memL 10 rfl))
theorem mwX8_light_17 : (.selects RX3 yX3_matches yX3_matches : Cond) ∈ wsX8_light := (sbX8_light_X8_light_r2 _ (memL 9 rfl))
theorem mwX8_light_18 : (.initialized RX3 : Cond) ∈ wsX8_light := (sbX8_light_X8_light_r1 _ (memL 9 rfl))
theorem mwX8_light_19 : (.instanceMethod yX3_matches : Cond) ∈ wsX8_light := (sbX8_light_X8_light_r2 _ (memL 8 rfl))
theorem mwX8_light_20 : (.code yX8_squareBetween cX8_squareBetween 4 (some .int) : Cond) ∈ wsX8_light := (sbX8_light_X8_light_r2 _ (memL 7 rfl))
theorem mwX8_light_21 : (.static yX8_squareBetween : Cond) ∈ wsX8_light := (sbX8_light_X8_light_r2 _ (memL 6 rfl))
theorem mwX8_light_22 : (.fieldLink RX1 34 "BuoyTender$Mark" "y" "I" : Cond) ∈ wsX8_light := (sbX8_light_X8_light_r2 _ (memL 5 rfl))
theorem mwX8_light_23 : (.fieldLink RX1 30 "BuoyTender$Mark" "x" "I" : Cond) ∈ wsX8_light := (sbX8_light_X8_light_r2 _ (memL 4 rfl))
theorem mwX8_light_24 : (.code yX1_isNear cX1_isNear 3 (some .boolean) : Cond) ∈ wsX8_light := (sbX8_light_X8_light_r2 _ (memL 3 rfl))
theorem mwX8_light_25 : (.selects RX1 yX1_isNear yX1_isNear : Cond) ∈ wsX8_light := (sbX8_light_X8_light_r2 _ (memL 2 rfl))
theorem mwX8_light_26 : (.initialized RX1 : Cond) ∈ wsX8_light := (sbX8_light_X8_light_r2 _ (memL 1 rfl))
theorem mwX8_light_27 : (.instanceMethod yX1_isNear : Cond) ∈ wsX8_light := (sbX8_light_X8_light_r2 _ (memL 0 rfl))
theorem mwX8_light_28 : (.fieldLink RX8 53 "BuoyTender" "proposed" "LBuoyTender$Rhythm;" : Cond) ∈ wsX8_light := (sbX8_light_X8_light_r1 _ (memL 0 rfl))
theorem mwX8_light_29 : (.fieldLink RX8 178 "BuoyTender" "nearness" "I" : Cond) ∈ wsX8_light := (sbX8_light_X8_light_r1 _ (memL 23 rfl))
set_option maxRecDepth 20000 in
theorem sbX8_light_X8_clashesNearby_r1 : SubW wsX8_clashesNearby_r1 wsX8_light := (subW_cons mwX8_light_2 (subW_cons mwX8_light_29 (subW_cons mwX8_light_28 (subW_cons mwX8_light_6 (subW_cons mwX8_light_5 (subW_cons mwX8_light_4 (subW_cons mwX8_light_3 (subW_cons mwX8_light_0 (subW_cons mwX8_light_1 (subW_cons mwX8_light_27 (subW_cons mwX8_light_26 (subW_cons mwX8_light_25 (subW_cons mwX8_light_24 (subW_cons mwX8_light_23 (subW_cons mwX8_light_22 (subW_cons mwX8_light_21 (subW_cons mwX8_light_20 (subW_cons mwX8_light_19 (subW_cons mwX8_light_18 (subW_cons mwX8_light_17 (subW_cons mwX8_light_16 (subW_cons mwX8_light_8 (subW_cons mwX8_light_15 (subW_cons mwX8_light_14 subW_nil))))))))))))))))))))))))
theorem mwX8_light_30 : (.code yX3_matchesTurned cX3_matchesTurned 4 (some .boolean) : Cond) ∈ wsX8_light := (sbX8_light_X8_light_r2 _ (memL 14 rfl))
theorem mwX8_light_31 : (.selects RX3 yX3_matchesTurned yX3_matchesTurned : Cond) ∈ wsX8_light := (sbX8_light_X8_light_r2 _ (memL 13 rfl))
set_option maxRecDepth 20000 in
theorem sbX8_light_X8_clashesNearby_r2 : SubW wsX8_clashesNearby_r2 wsX8_light := (subW_cons mwX8_light_31 (subW_cons mwX8_light_30 (subW_cons mwX8_light_12 subW_nil)))
set_option maxRecDepth 20000 in
theorem sbX8_light_X10 : SubW wsX10 wsX8_light := fun _ h => (List.mem_cons_of_mem _ (List.mem_append_left _ (List.mem_append_left _ (List.mem_append_right _ h))))
set_option maxRecDepth 20000 in
theorem sbX8_light_X8_clashesNearby : SubW wsX8_clashesNearby wsX8_light := (subW_cons mwX8_light_13 (subW_app (subW_app (subW_app (subW_app sbX8_light_X8_clashesNearby_r1 sbX8_light_X8_clashesNearby_r2) sbX8_light_X80) sbX8_light_X10) sbX8_light_X30))
theorem ggX8_light_X8_clashesNearby : GoodIn wsX8_light wsX8_clashesNearby := goodIn_W gw_wsX8_light sbX8_light_X8_clashesNearby
theorem mwX8_light_32 : (.selects RX8 yX8_clashesNearby yX8_clashesNearby : Cond) ∈ wsX8_light := (sbX8_light_X8_light_r1 _ (memL 21 rfl))
theorem mwX8_light_33 : (.instanceMethod yX8_clashesNearby : Cond) ∈ wsX8_light := (sbX8_light_X8_light_r1 _ (memL 20 rfl))
theorem mwX8_light_34 : (.methodLink RX8 166 yX8_clashesNearby : Cond) ∈ wsX8_light := (sbX8_light_X8_light_r1 _ (memL 19 rfl))
theorem gX8_light_X8_clashesNearby : GoodIn wsX8_light (wsV RX8 166 RX8 yX8_clashesNearby wsX8_clashesNearby) := goodIn_W gw_wsX8_light (subW_app (subW_cons mwX8_light_34 (subW_cons mwX8_light_33 (subW_cons mwX8_light_32 (subW_cons mwX8_light_3 subW_nil)))) sbX8_light_X8_clashesNearby)
theorem mwX8_light_35 : (.code yX3_copyFrom cX3_copyFrom 2 none : Cond) ∈ wsX8_light := (sbX8_light_X8_light_r2 _ (memL 17 rfl))
theorem mwX8_light_36 : (.initialized "java/lang/System" : Cond) ∈ wsX8_light := (sbX8_light_X8_light_r2 _ (memL 21 rfl))
theorem mwX8_light_37 : (.static arraycopyName : Cond) ∈ wsX8_light := (sbX8_light_X8_light_r2 _ (memL 20 rfl))
theorem mwX8_light_38 : (.native arraycopyName : Cond) ∈ wsX8_light := (sbX8_light_X8_light_r2 _ (memL 19 rfl))
theorem mwX8_light_39 : (.methodLink RX3 23 arraycopyName : Cond) ∈ wsX8_light := (sbX8_light_X8_light_r2 _ (memL 18 rfl))
set_option maxRecDepth 20000 in
theorem sbX8_light_X3_copyFrom : SubW wsX3_copyFrom wsX8_light := (subW_cons mwX8_light_35 (subW_app (subW_cons mwX8_light_12 (subW_cons mwX8_light_39 (subW_cons mwX8_light_38 (subW_cons mwX8_light_37 (subW_cons mwX8_light_36 (subW_cons mwX8_light_8 subW_nil)))))) sbX8_light_X30))
theorem ggX8_light_X3_copyFrom : GoodIn wsX8_light wsX3_copyFrom := goodIn_W gw_wsX8_light sbX8_light_X3_copyFrom
set_option maxRecDepth 20000 in
theorem gX8_light_X3_copyFrom_n170 : GoodIn wsX8_light (wsX3_copyFrom) := ggX8_light_X3_copyFrom
theorem dX8_light_0 : decode cX8_light 0 = .ok (.aload_n 0, 1) := by decide +kernel
theorem dX8_light_1 : decode cX8_light 1 = .ok (.iload_n 1, 1) := by decide +kernel
theorem dX8_light_2 : decode cX8_light 2 = .ok (.invokevirtual 76, 3) := by decide +kernel
theorem dX8_light_5 : decode cX8_light 5 = .ok (.astore 4, 2) := by decide +kernel
theorem dX8_light_7 : decode cX8_light 7 = .ok (.aload 4, 2) := by decide +kernel
theorem dX8_light_9 : decode cX8_light 9 = .ok (.ifnonnull 5, 3) := by decide +kernel
theorem dX8_light_12 : decode cX8_light 12 = .ok (.iconst 0, 1) := by decide +kernel
theorem dX8_light_13 : decode cX8_light 13 = .ok (.ireturn, 1) := by decide +kernel
theorem dX8_light_14 : decode cX8_light 14 = .ok (.iload_n 2, 1) := by decide +kernel
theorem dX8_light_15 : decode cX8_light 15 = .ok (.ifCond .ne 13, 3) := by decide +kernel
theorem dX8_light_18 : decode cX8_light 18 = .ok (.aload 4, 2) := by decide +kernel
theorem dX8_light_20 : decode cX8_light 20 = .ok (.getfield 157, 3) := by decide +kernel
theorem dX8_light_23 : decode cX8_light 23 = .ok (.invokevirtual 160, 3) := by decide +kernel
theorem dX8_light_26 : decode cX8_light 26 = .ok (.iconst 1, 1) := by decide +kernel
theorem dX8_light_27 : decode cX8_light 27 = .ok (.ireturn, 1) := by decide +kernel
theorem dX8_light_28 : decode cX8_light 28 = .ok (.aload_n 0, 1) := by decide +kernel
theorem dX8_light_29 : decode cX8_light 29 = .ok (.getfield 53, 3) := by decide +kernel
theorem dX8_light_32 : decode cX8_light 32 = .ok (.iload_n 2, 1) := by decide +kernel
theorem dX8_light_33 : decode cX8_light 33 = .ok (.iload_n 3, 1) := by decide +kernel
theorem dX8_light_34 : decode cX8_light 34 = .ok (.invokevirtual 163, 3) := by decide +kernel
theorem dX8_light_37 : decode cX8_light 37 = .ok (.ifCond .eq 13, 3) := by decide +kernel
theorem dX8_light_40 : decode cX8_light 40 = .ok (.aload_n 0, 1) := by decide +kernel
theorem dX8_light_41 : decode cX8_light 41 = .ok (.iload_n 1, 1) := by decide +kernel
theorem dX8_light_42 : decode cX8_light 42 = .ok (.aload 4, 2) := by decide +kernel
theorem dX8_light_44 : decode cX8_light 44 = .ok (.invokevirtual 166, 3) := by decide +kernel
theorem dX8_light_47 : decode cX8_light 47 = .ok (.ifCond .eq 5, 3) := by decide +kernel
theorem dX8_light_50 : decode cX8_light 50 = .ok (.iconst 0, 1) := by decide +kernel
theorem dX8_light_51 : decode cX8_light 51 = .ok (.ireturn, 1) := by decide +kernel
theorem dX8_light_52 : decode cX8_light 52 = .ok (.aload 4, 2) := by decide +kernel
theorem dX8_light_54 : decode cX8_light 54 = .ok (.getfield 157, 3) := by decide +kernel
theorem dX8_light_57 : decode cX8_light 57 = .ok (.aload_n 0, 1) := by decide +kernel
theorem dX8_light_58 : decode cX8_light 58 = .ok (.getfield 53, 3) := by decide +kernel
theorem dX8_light_61 : decode cX8_light 61 = .ok (.invokevirtual 170, 3) := by decide +kernel
theorem dX8_light_64 : decode cX8_light 64 = .ok (.iconst 1, 1) := by decide +kernel
theorem dX8_light_65 : decode cX8_light 65 = .ok (.ireturn, 1) := by decide +kernel
theorem sbX8_near_X8_near_r1 : SubW wsX8_near_r1 wsX8_near := fun _ h => (List.mem_cons_of_mem _ (List.mem_append_left _ (List.mem_append_left _ (List.mem_append_left _ (List.mem_append_left _ h)))))
theorem sbX8_near_X8_near_r2 : SubW wsX8_near_r2 wsX8_near := fun _ h => (List.mem_cons_of_mem _ (List.mem_append_left _ (List.mem_append_left _ (List.mem_append_left _ (List.mem_append_right _ h)))))
theorem mwX8_near_0 : (.code yX8_within cX8_within 3 (some .boolean) : Cond) ∈ wsX8_near := (sbX8_near_X8_near_r1 _ (memL 4 rfl))
set_option maxRecDepth 20000 in
theorem sbX8_near_X8_within : SubW wsX8_within wsX8_near := (subW_cons mwX8_near_0 subW_nil)
set_option maxRecDepth 20000 in
theorem gw_wsX8_near_r1 : goodW wsX8_near_r1 := (goodW_of (by decide +kernel))
set_option maxRecDepth 20000 in
theorem gw_wsX8_near_r2 : goodW wsX8_near_r2 := (goodW_of (by decide +kernel))
set_option maxRecDepth 20000 in
theorem gw_wsX8_near : goodW wsX8_near := (goodW_cons rfl (goodW_app (goodW_app (goodW_app (goodW_app gw_wsX8_near_r1 gw_wsX8_near_r2) gw_wsX80) gw_wsX10) gw_wsX30))
theorem ggX8_near_X8_within : GoodIn wsX8_near wsX8_within := goodIn_W gw_wsX8_near sbX8_near_X8_within
theorem mwX8_near_1 : (.initialized RX8 : Cond) ∈ wsX8_near := (sbX8_near_X8_near_r1 _ (memL 3 rfl))
theorem mwX8_near_2 : (.static yX8_within : Cond) ∈ wsX8_near := (sbX8_near_X8_near_r1 _ (memL 2 rfl))
theorem mwX8_near_3 : (.methodLink RX8 61 yX8_within : Cond) ∈ wsX8_near := (sbX8_near_X8_near_r1 _ (memL 1 rfl))
theorem gX8_near_X8_within : GoodIn wsX8_near (va_wsS RX8 61 yX8_within wsX8_within) := goodIn_W gw_wsX8_near (subW_app (subW_cons mwX8_near_3 (subW_cons mwX8_near_2 (subW_cons mwX8_near_1 subW_nil))) sbX8_near_X8_within)
theorem mwX8_near_4 : (.code yX8_clashesWithin cX8_clashesWithin 6 (some .boolean) : Cond) ∈ wsX8_near := (sbX8_near_X8_near_r1 _ (memL 8 rfl))
theorem mwX8_near_5 : (.code yX3_matchesTurned cX3_matchesTurned 4 (some .boolean) : Cond) ∈ wsX8_near := (sbX8_near_X8_near_r2 _ (memL 7 rfl))
theorem mwX8_near_6 : (.selects RX3 yX3_matchesTurned yX3_matchesTurned : Cond) ∈ wsX8_near := (sbX8_near_X8_near_r2 _ (memL 6 rfl))
theorem mwX8_near_7 : (.instanceMethod yX3_matchesTurned : Cond) ∈ wsX8_near := (sbX8_near_X8_near_r2 _ (memL 5 rfl))
theorem mwX8_near_8 : (.methodLink RX3 29 yX3_matchesTurned : Cond) ∈ wsX8_near := (sbX8_near_X8_near_r2 _ (memL 4 rfl))
theorem mwX8_near_9 : (.fieldLink RX3 15 "BuoyTender$Rhythm" "many" "I" : Cond) ∈ wsX8_near := (sbX8_near_X8_near_r2 _ (memL 3 rfl))
theorem mwX8_near_10 : (.code yX3_matches cX3_matches 3 (some .boolean) : Cond) ∈ wsX8_near := (sbX8_near_X8_near_r2 _ (memL 2 rfl))
theorem mwX8_near_11 : (.selects RX3 yX3_matches yX3_matches : Cond) ∈ wsX8_near := (sbX8_near_X8_near_r2 _ (memL 1 rfl))
theorem mwX8_near_12 : (.initialized RX3 : Cond) ∈ wsX8_near := (sbX8_near_X8_near_r2 _ (memL 0 rfl))
theorem mwX8_near_13 : (.instanceMethod yX3_matches : Cond) ∈ wsX8_near := (sbX8_near_X8_near_r1 _ (memL 23 rfl))
theorem mwX8_near_14 : (.code yX8_squareBetween cX8_squareBetween 4 (some .int) : Cond) ∈ wsX8_near := (sbX8_near_X8_near_r1 _ (memL 22 rfl))
theorem mwX8_near_15 : (.static yX8_squareBetween : Cond) ∈ wsX8_near := (sbX8_near_X8_near_r1 _ (memL 21 rfl))
theorem mwX8_near_16 : (.fieldLink RX1 34 "BuoyTender$Mark" "y" "I" : Cond) ∈ wsX8_near := (sbX8_near_X8_near_r1 _ (memL 20 rfl))
theorem mwX8_near_17 : (.fieldLink RX1 30 "BuoyTender$Mark" "x" "I" : Cond) ∈ wsX8_near := (sbX8_near_X8_near_r1 _ (memL 19 rfl))
theorem mwX8_near_18 : (.code yX1_isNear cX1_isNear 3 (some .boolean) : Cond) ∈ wsX8_near := (sbX8_near_X8_near_r1 _ (memL 18 rfl))
theorem mwX8_near_19 : (.selects RX1 yX1_isNear yX1_isNear : Cond) ∈ wsX8_near := (sbX8_near_X8_near_r1 _ (memL 17 rfl))
theorem mwX8_near_20 : (.initialized RX1 : Cond) ∈ wsX8_near := (sbX8_near_X8_near_r1 _ (memL 16 rfl))
theorem mwX8_near_21 : (.instanceMethod yX1_isNear : Cond) ∈ wsX8_near := (sbX8_near_X8_near_r1 _ (memL 15 rfl))
theorem mwX8_near_22 : (.fieldLink RX8 15 "BuoyTender" "marks" "[LBuoyTender$Mark;" : Cond) ∈ wsX8_near := (sbX8_near_X8_near_r1 _ (memL 14 rfl))
theorem mwX8_near_23 : (.code yX8_known cX8_known 2 (some (.object "BuoyTender$Mark")) : Cond) ∈ wsX8_near := (sbX8_near_X8_near_r1 _ (memL 13 rfl))
theorem mwX8_near_24 : (.selects RX8 yX8_known yX8_known : Cond) ∈ wsX8_near := (sbX8_near_X8_near_r1 _ (memL 12 rfl))
theorem mwX8_near_25 : (.instanceMethod yX8_known : Cond) ∈ wsX8_near := (sbX8_near_X8_near_r1 _ (memL 11 rfl))
theorem mwX8_near_26 : (.methodLink RX8 76 yX8_known : Cond) ∈ wsX8_near := (sbX8_near_X8_near_r1 _ (memL 10 rfl))
theorem mwX8_near_27 : (.fieldLink RX8 69 "BuoyTender" "markCount" "I" : Cond) ∈ wsX8_near := (sbX8_near_X8_near_r1 _ (memL 9 rfl))
set_option maxRecDepth 20000 in
theorem sbX8_near_X8_clashesWithin_r1 : SubW wsX8_clashesWithin_r1 wsX8_near := (subW_cons mwX8_near_27 (subW_cons mwX8_near_26 (subW_cons mwX8_near_25 (subW_cons mwX8_near_24 (subW_cons mwX8_near_1 (subW_cons mwX8_near_23 (subW_cons mwX8_near_22 (subW_cons mwX8_near_21 (subW_cons mwX8_near_20 (subW_cons mwX8_near_19 (subW_cons mwX8_near_18 (subW_cons mwX8_near_17 (subW_cons mwX8_near_16 (subW_cons mwX8_near_15 (subW_cons mwX8_near_14 (subW_cons mwX8_near_13 (subW_cons mwX8_near_12 (subW_cons mwX8_near_11 (subW_cons mwX8_near_10 (subW_cons mwX8_near_9 (subW_cons mwX8_near_8 (subW_cons mwX8_near_7 (subW_cons mwX8_near_6 (subW_cons mwX8_near_5 subW_nil))))))))))))))))))))))))
theorem mwX8_near_28 : (.fieldLink RX3 9 "BuoyTender$Rhythm" "steps" "[I" : Cond) ∈ wsX8_near := (sbX8_near_X8_near_r2 _ (memL 8 rfl))
set_option maxRecDepth 20000 in
theorem sbX8_near_X8_clashesWithin_r2 : SubW wsX8_clashesWithin_r2 wsX8_near := (subW_cons mwX8_near_28 subW_nil)
set_option maxRecDepth 20000 in
theorem sbX8_near_X80 : SubW wsX80 wsX8_near := fun _ h => (List.mem_cons_of_mem _ (List.mem_append_left _ (List.mem_append_left _ (List.mem_append_right _ h))))
set_option maxRecDepth 20000 in
theorem sbX8_near_X10 : SubW wsX10 wsX8_near := fun _ h => (List.mem_cons_of_mem _ (List.mem_append_left _ (List.mem_append_right _ h)))
set_option maxRecDepth 20000 in
theorem sbX8_near_X30 : SubW wsX30 wsX8_near := fun _ h => (List.mem_cons_of_mem _ (List.mem_append_right _ h))
set_option maxRecDepth 20000 in
theorem sbX8_near_X8_clashesWithin : SubW wsX8_clashesWithin wsX8_near := (subW_cons mwX8_near_4 (subW_app (subW_app (subW_app (subW_app sbX8_near_X8_clashesWithin_r1 sbX8_near_X8_clashesWithin_r2) sbX8_near_X80) sbX8_near_X10) sbX8_near_X30))
theorem ggX8_near_X8_clashesWithin : GoodIn wsX8_near wsX8_clashesWithin := goodIn_W gw_wsX8_near sbX8_near_X8_clashesWithin
theorem mwX8_near_29 : (.selects RX8 yX8_clashesWithin yX8_clashesWithin : Cond) ∈ wsX8_near := (sbX8_near_X8_near_r1 _ (memL 7 rfl))
theorem mwX8_near_30 : (.instanceMethod yX8_clashesWithin : Cond) ∈ wsX8_near := (sbX8_near_X8_near_r1 _ (memL 6 rfl))
theorem mwX8_near_31 : (.methodLink RX8 174 yX8_clashesWithin : Cond) ∈ wsX8_near := (sbX8_near_X8_near_r1 _ (memL 5 rfl))
theorem gX8_near_X8_clashesWithin : GoodIn wsX8_near (wsV RX8 174 RX8 yX8_clashesWithin wsX8_clashesWithin) := goodIn_W gw_wsX8_near (subW_app (subW_cons mwX8_near_31 (subW_cons mwX8_near_30 (subW_cons mwX8_near_29 (subW_cons mwX8_near_1 subW_nil)))) sbX8_near_X8_clashesWithin)
theorem dX8_near_0 : decode cX8_near 0 = .ok (.iload_n 1, 1) := by decide +kernel
theorem dX8_near_1 : decode cX8_near 1 = .ok (.iconst 0, 1) := by decide +kernel
theorem dX8_near_2 : decode cX8_near 2 = .ok (.sipush 5000, 3) := by decide +kernel
theorem dX8_near_5 : decode cX8_near 5 = .ok (.invokestatic 61, 3) := by decide +kernel
theorem dX8_near_8 : decode cX8_near 8 = .ok (.ifCond .eq 11, 3) := by decide +kernel
theorem dX8_near_11 : decode cX8_near 11 = .ok (.aload_n 0, 1) := by decide +kernel
theorem dX8_near_12 : decode cX8_near 12 = .ok (.iload_n 1, 1) := by decide +kernel
theorem dX8_near_13 : decode cX8_near 13 = .ok (.invokevirtual 174, 3) := by decide +kernel
theorem dX8_near_16 : decode cX8_near 16 = .ok (.ifCond .eq 5, 3) := by decide +kernel
theorem dX8_near_19 : decode cX8_near 19 = .ok (.iconst 0, 1) := by decide +kernel
theorem dX8_near_20 : decode cX8_near 20 = .ok (.ireturn, 1) := by decide +kernel
theorem dX8_near_21 : decode cX8_near 21 = .ok (.aload_n 0, 1) := by decide +kernel
theorem dX8_near_22 : decode cX8_near 22 = .ok (.iload_n 1, 1) := by decide +kernel
theorem dX8_near_23 : decode cX8_near 23 = .ok (.putfield 178, 3) := by decide +kernel
theorem dX8_near_26 : decode cX8_near 26 = .ok (.iconst 1, 1) := by decide +kernel
theorem dX8_near_27 : decode cX8_near 27 = .ok (.ireturn, 1) := by decide +kernel
theorem mwX8_alike_0 : (.code yX8_known cX8_known 2 (some (.object "BuoyTender$Mark")) : Cond) ∈ wsX8_alike := (List.mem_cons_of_mem _ (List.mem_append_left _ (List.mem_append_left _ (List.mem_append_left _ (memL 4 rfl)))))
theorem mwX8_alike_1 : (.fieldLink RX8 15 "BuoyTender" "marks" "[LBuoyTender$Mark;" : Cond) ∈ wsX8_alike := (List.mem_cons_of_mem _ (List.mem_append_left _ (List.mem_append_left _ (List.mem_append_left _ (memL 6 rfl)))))
theorem mwX8_alike_2 : (.fieldLink RX8 69 "BuoyTender" "markCount" "I" : Cond) ∈ wsX8_alike := (List.mem_cons_of_mem _ (List.mem_append_left _ (List.mem_append_left _ (List.mem_append_left _ (memL 5 rfl)))))
set_option maxRecDepth 20000 in
theorem sbX8_alike_X80 : SubW wsX80 wsX8_alike := fun _ h => (List.mem_cons_of_mem _ (List.mem_append_left _ (List.mem_append_right _ h)))
set_option maxRecDepth 20000 in
theorem sbX8_alike_X8_known : SubW wsX8_known wsX8_alike := (subW_cons mwX8_alike_0 (subW_app (subW_cons mwX8_alike_2 (subW_cons mwX8_alike_1 subW_nil)) sbX8_alike_X80))
set_option maxRecDepth 20000 in
theorem gw_wsX8_alike : goodW wsX8_alike := (goodW_cons rfl (goodW_app (goodW_app (goodW_app (goodW_of (by decide +kernel)) gw_wsX10) gw_wsX80) gw_wsX30))
theorem ggX8_alike_X8_known : GoodIn wsX8_alike wsX8_known := goodIn_W gw_wsX8_alike sbX8_alike_X8_known
theorem mwX8_alike_3 : (.initialized RX8 : Cond) ∈ wsX8_alike := (List.mem_cons_of_mem _ (List.mem_append_left _ (List.mem_append_left _ (List.mem_append_left _ (memL 3 rfl)))))
theorem mwX8_alike_4 : (.selects RX8 yX8_known yX8_known : Cond) ∈ wsX8_alike := (List.mem_cons_of_mem _ (List.mem_append_left _ (List.mem_append_left _ (List.mem_append_left _ (memL 2 rfl)))))
theorem mwX8_alike_5 : (.instanceMethod yX8_known : Cond) ∈ wsX8_alike := (List.mem_cons_of_mem _ (List.mem_append_left _ (List.mem_append_left _ (List.mem_append_left _ (memL 1 rfl)))))
theorem mwX8_alike_6 : (.methodLink RX8 76 yX8_known : Cond) ∈ wsX8_alike := (List.mem_cons_of_mem _ (List.mem_append_left _ (List.mem_append_left _ (List.mem_append_left _ (memL 0 rfl)))))
theorem gX8_alike_X8_known : GoodIn wsX8_alike (wsV RX8 76 RX8 yX8_known wsX8_known) := goodIn_W gw_wsX8_alike (subW_app (subW_cons mwX8_alike_6 (subW_cons mwX8_alike_5 (subW_cons mwX8_alike_4 (subW_cons mwX8_alike_3 subW_nil)))) sbX8_alike_X8_known)
theorem mwX8_alike_7 : (.code yX3_isLit cX3_isLit 1 (some .boolean) : Cond) ∈ wsX8_alike := (List.mem_cons_of_mem _ (List.mem_append_left _ (List.mem_append_left _ (List.mem_append_left _ (memL 10 rfl)))))
theorem mwX8_alike_8 : (.fieldLink RX3 15 "BuoyTender$Rhythm" "many" "I" : Cond) ∈ wsX8_alike := (List.mem_cons_of_mem _ (List.mem_append_left _ (List.mem_append_left _ (List.mem_append_left _ (memL 11 rfl)))))
set_option maxRecDepth 20000 in
theorem sbX8_alike_X30 : SubW wsX30 wsX8_alike := fun _ h => (List.mem_cons_of_mem _ (List.mem_append_right _ h))
set_option maxRecDepth 20000 in
theorem sbX8_alike_X3_isLit : SubW wsX3_isLit wsX8_alike := (subW_cons mwX8_alike_7 (subW_app (subW_cons mwX8_alike_8 subW_nil) sbX8_alike_X30))
theorem ggX8_alike_X3_isLit : GoodIn wsX8_alike wsX3_isLit := goodIn_W gw_wsX8_alike sbX8_alike_X3_isLit
set_option maxRecDepth 20000 in
theorem gX8_alike_X3_isLit_n181 : GoodIn wsX8_alike (wsX3_isLit) := ggX8_alike_X3_isLit
theorem mwX8_alike_9 : (.code yX3_matches cX3_matches 3 (some .boolean) : Cond) ∈ wsX8_alike := (List.mem_cons_of_mem _ (List.mem_append_left _ (List.mem_append_left _ (List.mem_append_left _ (memL 14 rfl)))))
theorem mwX8_alike_10 : (.fieldLink RX3 9 "BuoyTender$Rhythm" "steps" "[I" : Cond) ∈ wsX8_alike := (List.mem_cons_of_mem _ (List.mem_append_left _ (List.mem_append_left _ (List.mem_append_left _ (memL 19 rfl)))))
theorem mwX8_alike_11 : (.code yX3_matchesTurned cX3_matchesTurned 4 (some .boolean) : Cond) ∈ wsX8_alike := (List.mem_cons_of_mem _ (List.mem_append_left _ (List.mem_append_left _ (List.mem_append_left _ (memL 18 rfl)))))
theorem mwX8_alike_12 : (.initialized RX3 : Cond) ∈ wsX8_alike := (List.mem_cons_of_mem _ (List.mem_append_left _ (List.mem_append_left _ (List.mem_append_left _ (memL 8 rfl)))))
theorem mwX8_alike_13 : (.selects RX3 yX3_matchesTurned yX3_matchesTurned : Cond) ∈ wsX8_alike := (List.mem_cons_of_mem _ (List.mem_append_left _ (List.mem_append_left _ (List.mem_append_left _ (memL 17 rfl)))))
theorem mwX8_alike_14 : (.instanceMethod yX3_matchesTurned : Cond) ∈ wsX8_alike := (List.mem_cons_of_mem _ (List.mem_append_left _ (List.mem_append_left _ (List.mem_append_left _ (memL 16 rfl)))))
theorem mwX8_alike_15 : (.methodLink RX3 29 yX3_matchesTurned : Cond) ∈ wsX8_alike := (List.mem_cons_of_mem _ (List.mem_append_left _ (List.mem_append_left _ (List.mem_append_left _ (memL 15 rfl)))))
set_option maxRecDepth 20000 in
theorem sbX8_alike_X3_matches : SubW wsX3_matches wsX8_alike := (subW_cons mwX8_alike_9 (subW_app (subW_cons mwX8_alike_8 (subW_cons mwX8_alike_15 (subW_cons mwX8_alike_14 (subW_cons mwX8_alike_13 (subW_cons mwX8_alike_12 (subW_cons mwX8_alike_11 (subW_cons mwX8_alike_10 subW_nil))))))) sbX8_alike_X30))
theorem ggX8_alike_X3_matches : GoodIn wsX8_alike wsX3_matches := goodIn_W gw_wsX8_alike sbX8_alike_X3_matches
set_option maxRecDepth 20000 in
theorem gX8_alike_X3_matches_n185 : GoodIn wsX8_alike (wsX3_matches) := ggX8_alike_X3_matches
theorem dX8_alike_0 : decode cX8_alike 0 = .ok (.aload_n 0, 1) := by decide +kernel
theorem dX8_alike_1 : decode cX8_alike 1 = .ok (.iload_n 1, 1) := by decide +kernel
theorem dX8_alike_2 : decode cX8_alike 2 = .ok (.invokevirtual 76, 3) := by decide +kernel
theorem dX8_alike_5 : decode cX8_alike 5 = .ok (.astore_n 3, 1) := by decide +kernel
theorem dX8_alike_6 : decode cX8_alike 6 = .ok (.aload_n 0, 1) := by decide +kernel
theorem dX8_alike_7 : decode cX8_alike 7 = .ok (.iload_n 2, 1) := by decide +kernel
theorem dX8_alike_8 : decode cX8_alike 8 = .ok (.invokevirtual 76, 3) := by decide +kernel
theorem dX8_alike_11 : decode cX8_alike 11 = .ok (.astore 4, 2) := by decide +kernel
theorem dX8_alike_13 : decode cX8_alike 13 = .ok (.aload_n 3, 1) := by decide +kernel
theorem dX8_alike_14 : decode cX8_alike 14 = .ok (.ifnull 34, 3) := by decide +kernel
theorem dX8_alike_17 : decode cX8_alike 17 = .ok (.aload 4, 2) := by decide +kernel
theorem dX8_alike_19 : decode cX8_alike 19 = .ok (.ifnull 29, 3) := by decide +kernel
theorem dX8_alike_22 : decode cX8_alike 22 = .ok (.iload_n 1, 1) := by decide +kernel
theorem dX8_alike_23 : decode cX8_alike 23 = .ok (.iload_n 2, 1) := by decide +kernel
theorem dX8_alike_24 : decode cX8_alike 24 = .ok (.if_icmp .eq 24, 3) := by decide +kernel
theorem dX8_alike_27 : decode cX8_alike 27 = .ok (.aload_n 3, 1) := by decide +kernel
theorem dX8_alike_28 : decode cX8_alike 28 = .ok (.getfield 157, 3) := by decide +kernel
theorem dX8_alike_31 : decode cX8_alike 31 = .ok (.invokevirtual 181, 3) := by decide +kernel
theorem dX8_alike_34 : decode cX8_alike 34 = .ok (.ifCond .eq 14, 3) := by decide +kernel
theorem dX8_alike_37 : decode cX8_alike 37 = .ok (.aload 4, 2) := by decide +kernel
theorem dX8_alike_39 : decode cX8_alike 39 = .ok (.getfield 157, 3) := by decide +kernel
theorem dX8_alike_42 : decode cX8_alike 42 = .ok (.invokevirtual 181, 3) := by decide +kernel
theorem dX8_alike_45 : decode cX8_alike 45 = .ok (.ifCond .ne 5, 3) := by decide +kernel
theorem dX8_alike_48 : decode cX8_alike 48 = .ok (.iconst (-1), 1) := by decide +kernel
theorem dX8_alike_49 : decode cX8_alike 49 = .ok (.ireturn, 1) := by decide +kernel
theorem dX8_alike_50 : decode cX8_alike 50 = .ok (.aload_n 3, 1) := by decide +kernel
theorem dX8_alike_51 : decode cX8_alike 51 = .ok (.getfield 157, 3) := by decide +kernel
theorem dX8_alike_54 : decode cX8_alike 54 = .ok (.aload 4, 2) := by decide +kernel
theorem dX8_alike_56 : decode cX8_alike 56 = .ok (.getfield 157, 3) := by decide +kernel
theorem dX8_alike_59 : decode cX8_alike 59 = .ok (.invokevirtual 185, 3) := by decide +kernel
theorem dX8_alike_62 : decode cX8_alike 62 = .ok (.ifCond .eq 7, 3) := by decide +kernel
theorem dX8_alike_65 : decode cX8_alike 65 = .ok (.iconst 1, 1) := by decide +kernel
theorem dX8_alike_66 : decode cX8_alike 66 = .ok (.goto 4, 3) := by decide +kernel
theorem dX8_alike_69 : decode cX8_alike 69 = .ok (.iconst 0, 1) := by decide +kernel
theorem dX8_alike_70 : decode cX8_alike 70 = .ok (.ireturn, 1) := by decide +kernel
theorem sbX8_warn_X8_warn_r1 : SubW wsX8_warn_r1 wsX8_warn := fun _ h => (List.mem_cons_of_mem _ (List.mem_append_left _ (List.mem_append_left _ (List.mem_append_left _ h))))
theorem sbX8_warn_X8_warn_r2 : SubW wsX8_warn_r2 wsX8_warn := fun _ h => (List.mem_cons_of_mem _ (List.mem_append_left _ (List.mem_append_left _ (List.mem_append_right _ h))))
theorem mwX8_warn_0 : (.code yX8_known cX8_known 2 (some (.object "BuoyTender$Mark")) : Cond) ∈ wsX8_warn := (sbX8_warn_X8_warn_r1 _ (memL 6 rfl))
theorem mwX8_warn_1 : (.fieldLink RX8 15 "BuoyTender" "marks" "[LBuoyTender$Mark;" : Cond) ∈ wsX8_warn := (sbX8_warn_X8_warn_r1 _ (memL 8 rfl))
theorem mwX8_warn_2 : (.fieldLink RX8 69 "BuoyTender" "markCount" "I" : Cond) ∈ wsX8_warn := (sbX8_warn_X8_warn_r1 _ (memL 7 rfl))
set_option maxRecDepth 20000 in
theorem sbX8_warn_X80 : SubW wsX80 wsX8_warn := fun _ h => (List.mem_cons_of_mem _ (List.mem_append_left _ (List.mem_append_right _ h)))
set_option maxRecDepth 20000 in
theorem sbX8_warn_X8_known : SubW wsX8_known wsX8_warn := (subW_cons mwX8_warn_0 (subW_app (subW_cons mwX8_warn_2 (subW_cons mwX8_warn_1 subW_nil)) sbX8_warn_X80))
set_option maxRecDepth 20000 in
theorem gw_wsX8_warn_r1 : goodW wsX8_warn_r1 := (goodW_of (by decide +kernel))
set_option maxRecDepth 20000 in
theorem gw_wsX8_warn_r2 : goodW wsX8_warn_r2 := (goodW_of (by decide +kernel))
set_option maxRecDepth 20000 in
theorem gw_wsX8_warn : goodW wsX8_warn := (goodW_cons rfl (goodW_app (goodW_app (goodW_app gw_wsX8_warn_r1 gw_wsX8_warn_r2) gw_wsX80) gw_wsX70))
theorem ggX8_warn_X8_known : GoodIn wsX8_warn wsX8_known := goodIn_W gw_wsX8_warn sbX8_warn_X8_known
theorem mwX8_warn_3 : (.initialized RX8 : Cond) ∈ wsX8_warn := (sbX8_warn_X8_warn_r1 _ (memL 5 rfl))
theorem mwX8_warn_4 : (.selects RX8 yX8_known yX8_known : Cond) ∈ wsX8_warn := (sbX8_warn_X8_warn_r1 _ (memL 4 rfl))
theorem mwX8_warn_5 : (.instanceMethod yX8_known : Cond) ∈ wsX8_warn := (sbX8_warn_X8_warn_r1 _ (memL 3 rfl))
theorem mwX8_warn_6 : (.methodLink RX8 76 yX8_known : Cond) ∈ wsX8_warn := (sbX8_warn_X8_warn_r1 _ (memL 2 rfl))
theorem gX8_warn_X8_known : GoodIn wsX8_warn (wsV RX8 76 RX8 yX8_known wsX8_known) := goodIn_W gw_wsX8_warn (subW_app (subW_cons mwX8_warn_6 (subW_cons mwX8_warn_5 (subW_cons mwX8_warn_4 (subW_cons mwX8_warn_3 subW_nil)))) sbX8_warn_X8_known)
theorem mwX8_warn_7 : (.code yX8_within cX8_within 3 (some .boolean) : Cond) ∈ wsX8_warn := (sbX8_warn_X8_warn_r1 _ (memL 11 rfl))
set_option maxRecDepth 20000 in
theorem sbX8_warn_X8_within : SubW wsX8_within wsX8_warn := (subW_cons mwX8_warn_7 subW_nil)
theorem ggX8_warn_X8_within : GoodIn wsX8_warn wsX8_within := goodIn_W gw_wsX8_warn sbX8_warn_X8_within
theorem mwX8_warn_8 : (.static yX8_within : Cond) ∈ wsX8_warn := (sbX8_warn_X8_warn_r1 _ (memL 10 rfl))
theorem mwX8_warn_9 : (.methodLink RX8 61 yX8_within : Cond) ∈ wsX8_warn := (sbX8_warn_X8_warn_r1 _ (memL 9 rfl))
theorem gX8_warn_X8_within : GoodIn wsX8_warn (va_wsS RX8 61 yX8_within wsX8_within) := goodIn_W gw_wsX8_warn (subW_app (subW_cons mwX8_warn_9 (subW_cons mwX8_warn_8 (subW_cons mwX8_warn_3 subW_nil))) sbX8_warn_X8_within)
theorem mwX8_warn_10 : (.code yX7_tell cX7_tell 5 (some .int) : Cond) ∈ wsX8_warn := (sbX8_warn_X8_warn_r1 _ (memL 15 rfl))
theorem mwX8_warn_11 : (.code yX7_isOpen cX7_isOpen 4 (some .boolean) : Cond) ∈ wsX8_warn := (sbX8_warn_X8_warn_r2 _ (memL 0 rfl))
theorem mwX8_warn_12 : (.initialized RX7 : Cond) ∈ wsX8_warn := (sbX8_warn_X8_warn_r1 _ (memL 13 rfl))
theorem mwX8_warn_13 : (.selects RX7 yX7_isOpen yX7_isOpen : Cond) ∈ wsX8_warn := (sbX8_warn_X8_warn_r1 _ (memL 23 rfl))
theorem mwX8_warn_14 : (.instanceMethod yX7_isOpen : Cond) ∈ wsX8_warn := (sbX8_warn_X8_warn_r1 _ (memL 22 rfl))
theorem mwX8_warn_15 : (.methodLink RX7 28 yX7_isOpen : Cond) ∈ wsX8_warn := (sbX8_warn_X8_warn_r1 _ (memL 21 rfl))
theorem mwX8_warn_16 : (.fieldLink RX7 21 "BuoyTender$Warnings" "cancelledOn" "[I" : Cond) ∈ wsX8_warn := (sbX8_warn_X8_warn_r1 _ (memL 20 rfl))
theorem mwX8_warn_17 : (.fieldLink RX7 18 "BuoyTender$Warnings" "toldOn" "[I" : Cond) ∈ wsX8_warn := (sbX8_warn_X8_warn_r1 _ (memL 19 rfl))
theorem mwX8_warn_18 : (.fieldLink RX7 15 "BuoyTender$Warnings" "reasonOf" "[I" : Cond) ∈ wsX8_warn := (sbX8_warn_X8_warn_r1 _ (memL 18 rfl))
theorem mwX8_warn_19 : (.fieldLink RX7 9 "BuoyTender$Warnings" "markOf" "[I" : Cond) ∈ wsX8_warn := (sbX8_warn_X8_warn_r1 _ (memL 17 rfl))
theorem mwX8_warn_20 : (.fieldLink RX7 24 "BuoyTender$Warnings" "count" "I" : Cond) ∈ wsX8_warn := (sbX8_warn_X8_warn_r1 _ (memL 16 rfl))
set_option maxRecDepth 20000 in
theorem sbX8_warn_X70 : SubW wsX70 wsX8_warn := fun _ h => (List.mem_cons_of_mem _ (List.mem_append_right _ h))
set_option maxRecDepth 20000 in
theorem sbX8_warn_X7_tell : SubW wsX7_tell wsX8_warn := (subW_cons mwX8_warn_10 (subW_app (subW_cons mwX8_warn_20 (subW_cons mwX8_warn_19 (subW_cons mwX8_warn_18 (subW_cons mwX8_warn_17 (subW_cons mwX8_warn_16 (subW_cons mwX8_warn_15 (subW_cons mwX8_warn_14 (subW_cons mwX8_warn_13 (subW_cons mwX8_warn_12 (subW_cons mwX8_warn_11 subW_nil)))))))))) sbX8_warn_X70))
theorem ggX8_warn_X7_tell : GoodIn wsX8_warn wsX7_tell := goodIn_W gw_wsX8_warn sbX8_warn_X7_tell
set_option maxRecDepth 20000 in
theorem gX8_warn_X7_tell_n189 : GoodIn wsX8_warn (wsX7_tell) := ggX8_warn_X7_tell
theorem dX8_warn_0 : decode cX8_warn 0 = .ok (.aload_n 0, 1) := by decide +kernel
theorem dX8_warn_1 : decode cX8_warn 1 = .ok (.iload_n 1, 1) := by decide +kernel
theorem dX8_warn_2 : decode cX8_warn 2 = .ok (.invokevirtual 76, 3) := by decide +kernel
theorem dX8_warn_5 : decode cX8_warn 5 = .ok (.ifnull 13, 3) := by decide +kernel
theorem dX8_warn_8 : decode cX8_warn 8 = .ok (.iload_n 2, 1) := by decide +kernel
theorem dX8_warn_9 : decode cX8_warn 9 = .ok (.iconst 1, 1) := by decide +kernel
theorem dX8_warn_10 : decode cX8_warn 10 = .ok (.bipush 9, 2) := by decide +kernel
theorem dX8_warn_12 : decode cX8_warn 12 = .ok (.invokestatic 61, 3) := by decide +kernel
theorem dX8_warn_15 : decode cX8_warn 15 = .ok (.ifCond .ne 5, 3) := by decide +kernel
theorem dX8_warn_18 : decode cX8_warn 18 = .ok (.iconst (-1), 1) := by decide +kernel
theorem dX8_warn_19 : decode cX8_warn 19 = .ok (.ireturn, 1) := by decide +kernel
theorem dX8_warn_20 : decode cX8_warn 20 = .ok (.aload_n 0, 1) := by decide +kernel
theorem dX8_warn_21 : decode cX8_warn 21 = .ok (.getfield 25, 3) := by decide +kernel
theorem dX8_warn_24 : decode cX8_warn 24 = .ok (.iload_n 1, 1) := by decide +kernel
theorem dX8_warn_25 : decode cX8_warn 25 = .ok (.iload_n 2, 1) := by decide +kernel
theorem dX8_warn_26 : decode cX8_warn 26 = .ok (.aload_n 0, 1) := by decide +kernel
theorem dX8_warn_27 : decode cX8_warn 27 = .ok (.getfield 120, 3) := by decide +kernel
theorem dX8_warn_30 : decode cX8_warn 30 = .ok (.invokevirtual 189, 3) := by decide +kernel
theorem dX8_warn_33 : decode cX8_warn 33 = .ok (.ireturn, 1) := by decide +kernel
theorem mwX8_cancel_0 : (.code yX7_end cX7_end 3 (some .boolean) : Cond) ∈ wsX8_cancel := (List.mem_cons_of_mem _ (List.mem_append_left _ (List.mem_append_left _ (memL 5 rfl))))
theorem mwX8_cancel_1 : (.fieldLink RX7 24 "BuoyTender$Warnings" "count" "I" : Cond) ∈ wsX8_cancel := (List.mem_cons_of_mem _ (List.mem_append_left _ (List.mem_append_left _ (memL 11 rfl))))
theorem mwX8_cancel_2 : (.code yX7_has cX7_has 2 (some .boolean) : Cond) ∈ wsX8_cancel := (List.mem_cons_of_mem _ (List.mem_append_left _ (List.mem_append_left _ (memL 10 rfl))))
theorem mwX8_cancel_3 : (.initialized RX7 : Cond) ∈ wsX8_cancel := (List.mem_cons_of_mem _ (List.mem_append_left _ (List.mem_append_left _ (memL 3 rfl))))
theorem mwX8_cancel_4 : (.selects RX7 yX7_has yX7_has : Cond) ∈ wsX8_cancel := (List.mem_cons_of_mem _ (List.mem_append_left _ (List.mem_append_left _ (memL 9 rfl))))
theorem mwX8_cancel_5 : (.instanceMethod yX7_has : Cond) ∈ wsX8_cancel := (List.mem_cons_of_mem _ (List.mem_append_left _ (List.mem_append_left _ (memL 8 rfl))))
theorem mwX8_cancel_6 : (.methodLink RX7 32 yX7_has : Cond) ∈ wsX8_cancel := (List.mem_cons_of_mem _ (List.mem_append_left _ (List.mem_append_left _ (memL 7 rfl))))
theorem mwX8_cancel_7 : (.fieldLink RX7 21 "BuoyTender$Warnings" "cancelledOn" "[I" : Cond) ∈ wsX8_cancel := (List.mem_cons_of_mem _ (List.mem_append_left _ (List.mem_append_left _ (memL 6 rfl))))
set_option maxRecDepth 20000 in
theorem sbX8_cancel_X70 : SubW wsX70 wsX8_cancel := fun _ h => (List.mem_cons_of_mem _ (List.mem_append_right _ h))
set_option maxRecDepth 20000 in
theorem sbX8_cancel_X7_end : SubW wsX7_end wsX8_cancel := (subW_cons mwX8_cancel_0 (subW_app (subW_cons mwX8_cancel_7 (subW_cons mwX8_cancel_6 (subW_cons mwX8_cancel_5 (subW_cons mwX8_cancel_4 (subW_cons mwX8_cancel_3 (subW_cons mwX8_cancel_2 (subW_cons mwX8_cancel_1 subW_nil))))))) sbX8_cancel_X70))
set_option maxRecDepth 20000 in
theorem gw_wsX8_cancel : goodW wsX8_cancel := (goodW_cons rfl (goodW_app (goodW_app (goodW_of (by decide +kernel)) gw_wsX80) gw_wsX70))
theorem ggX8_cancel_X7_end : GoodIn wsX8_cancel wsX7_end := goodIn_W gw_wsX8_cancel sbX8_cancel_X7_end
set_option maxRecDepth 20000 in
theorem gX8_cancel_X7_end_n193 : GoodIn wsX8_cancel (wsX7_end) := ggX8_cancel_X7_end
theorem dX8_cancel_0 : decode cX8_cancel 0 = .ok (.aload_n 0, 1) := by decide +kernel
theorem dX8_cancel_1 : decode cX8_cancel 1 = .ok (.getfield 25, 3) := by decide +kernel
theorem dX8_cancel_4 : decode cX8_cancel 4 = .ok (.iload_n 1, 1) := by decide +kernel
theorem dX8_cancel_5 : decode cX8_cancel 5 = .ok (.aload_n 0, 1) := by decide +kernel
theorem dX8_cancel_6 : decode cX8_cancel 6 = .ok (.getfield 120, 3) := by decide +kernel
theorem dX8_cancel_9 : decode cX8_cancel 9 = .ok (.invokevirtual 193, 3) := by decide +kernel
theorem dX8_cancel_12 : decode cX8_cancel 12 = .ok (.ireturn, 1) := by decide +kernel
theorem mwX8_list_0 : (.code yX8_within cX8_within 3 (some .boolean) : Cond) ∈ wsX8_list := (List.mem_cons_of_mem _ (List.mem_append_left _ (List.mem_append_left _ (memL 5 rfl))))
set_option maxRecDepth 20000 in
theorem sbX8_list_X8_within : SubW wsX8_within wsX8_list := (subW_cons mwX8_list_0 subW_nil)
set_option maxRecDepth 20000 in
theorem gw_wsX8_list : goodW wsX8_list := (goodW_cons rfl (goodW_app (goodW_app (goodW_of (by decide +kernel)) gw_wsX80) gw_wsX70))
theorem ggX8_list_X8_within : GoodIn wsX8_list wsX8_within := goodIn_W gw_wsX8_list sbX8_list_X8_within
theorem mwX8_list_1 : (.initialized RX8 : Cond) ∈ wsX8_list := (List.mem_cons_of_mem _ (List.mem_append_left _ (List.mem_append_left _ (memL 4 rfl))))
theorem mwX8_list_2 : (.static yX8_within : Cond) ∈ wsX8_list := (List.mem_cons_of_mem _ (List.mem_append_left _ (List.mem_append_left _ (memL 3 rfl))))
theorem mwX8_list_3 : (.methodLink RX8 61 yX8_within : Cond) ∈ wsX8_list := (List.mem_cons_of_mem _ (List.mem_append_left _ (List.mem_append_left _ (memL 2 rfl))))
theorem gX8_list_X8_within : GoodIn wsX8_list (va_wsS RX8 61 yX8_within wsX8_within) := goodIn_W gw_wsX8_list (subW_app (subW_cons mwX8_list_3 (subW_cons mwX8_list_2 (subW_cons mwX8_list_1 subW_nil))) sbX8_list_X8_within)
theorem mwX8_list_4 : (.code yX7_countOn cX7_countOn 4 (some .int) : Cond) ∈ wsX8_list := (List.mem_cons_of_mem _ (List.mem_append_left _ (List.mem_append_left _ (memL 9 rfl))))
theorem mwX8_list_5 : (.fieldLink RX7 21 "BuoyTender$Warnings" "cancelledOn" "[I" : Cond) ∈ wsX8_list := (List.mem_cons_of_mem _ (List.mem_append_left _ (List.mem_append_left _ (memL 16 rfl))))
theorem mwX8_list_6 : (.fieldLink RX7 18 "BuoyTender$Warnings" "toldOn" "[I" : Cond) ∈ wsX8_list := (List.mem_cons_of_mem _ (List.mem_append_left _ (List.mem_append_left _ (memL 15 rfl))))
theorem mwX8_list_7 : (.code yX7_isOutOn cX7_isOutOn 3 (some .boolean) : Cond) ∈ wsX8_list := (List.mem_cons_of_mem _ (List.mem_append_left _ (List.mem_append_left _ (memL 14 rfl))))
theorem mwX8_list_8 : (.initialized RX7 : Cond) ∈ wsX8_list := (List.mem_cons_of_mem _ (List.mem_append_left _ (List.mem_append_left _ (memL 7 rfl))))
theorem mwX8_list_9 : (.selects RX7 yX7_isOutOn yX7_isOutOn : Cond) ∈ wsX8_list := (List.mem_cons_of_mem _ (List.mem_append_left _ (List.mem_append_left _ (memL 13 rfl))))
theorem mwX8_list_10 : (.instanceMethod yX7_isOutOn : Cond) ∈ wsX8_list := (List.mem_cons_of_mem _ (List.mem_append_left _ (List.mem_append_left _ (memL 12 rfl))))
theorem mwX8_list_11 : (.methodLink RX7 36 yX7_isOutOn : Cond) ∈ wsX8_list := (List.mem_cons_of_mem _ (List.mem_append_left _ (List.mem_append_left _ (memL 11 rfl))))
theorem mwX8_list_12 : (.fieldLink RX7 24 "BuoyTender$Warnings" "count" "I" : Cond) ∈ wsX8_list := (List.mem_cons_of_mem _ (List.mem_append_left _ (List.mem_append_left _ (memL 10 rfl))))
set_option maxRecDepth 20000 in
theorem sbX8_list_X70 : SubW wsX70 wsX8_list := fun _ h => (List.mem_cons_of_mem _ (List.mem_append_right _ h))
set_option maxRecDepth 20000 in
theorem sbX8_list_X7_countOn : SubW wsX7_countOn wsX8_list := (subW_cons mwX8_list_4 (subW_app (subW_cons mwX8_list_12 (subW_cons mwX8_list_11 (subW_cons mwX8_list_10 (subW_cons mwX8_list_9 (subW_cons mwX8_list_8 (subW_cons mwX8_list_7 (subW_cons mwX8_list_6 (subW_cons mwX8_list_5 subW_nil)))))))) sbX8_list_X70))
theorem ggX8_list_X7_countOn : GoodIn wsX8_list wsX7_countOn := goodIn_W gw_wsX8_list sbX8_list_X7_countOn
set_option maxRecDepth 20000 in
theorem gX8_list_X7_countOn_n196 : GoodIn wsX8_list (wsX7_countOn) := ggX8_list_X7_countOn
theorem dX8_list_0 : decode cX8_list 0 = .ok (.iload_n 1, 1) := by decide +kernel
theorem dX8_list_1 : decode cX8_list 1 = .ok (.iconst 0, 1) := by decide +kernel
theorem dX8_list_2 : decode cX8_list 2 = .ok (.aload_n 0, 1) := by decide +kernel
theorem dX8_list_3 : decode cX8_list 3 = .ok (.getfield 120, 3) := by decide +kernel
theorem dX8_list_6 : decode cX8_list 6 = .ok (.invokestatic 61, 3) := by decide +kernel
theorem dX8_list_9 : decode cX8_list 9 = .ok (.ifCond .eq 14, 3) := by decide +kernel
theorem dX8_list_12 : decode cX8_list 12 = .ok (.aload_n 0, 1) := by decide +kernel
theorem dX8_list_13 : decode cX8_list 13 = .ok (.getfield 25, 3) := by decide +kernel
theorem dX8_list_16 : decode cX8_list 16 = .ok (.iload_n 1, 1) := by decide +kernel
theorem dX8_list_17 : decode cX8_list 17 = .ok (.invokevirtual 196, 3) := by decide +kernel
theorem dX8_list_20 : decode cX8_list 20 = .ok (.goto 4, 3) := by decide +kernel
theorem dX8_list_23 : decode cX8_list 23 = .ok (.iconst (-1), 1) := by decide +kernel
theorem dX8_list_24 : decode cX8_list 24 = .ok (.ireturn, 1) := by decide +kernel
theorem mwX8_listed_0 : (.code yX8_within cX8_within 3 (some .boolean) : Cond) ∈ wsX8_listed := (List.mem_cons_of_mem _ (List.mem_append_left _ (List.mem_append_left _ (memL 5 rfl))))
set_option maxRecDepth 20000 in
theorem sbX8_listed_X8_within : SubW wsX8_within wsX8_listed := (subW_cons mwX8_listed_0 subW_nil)
set_option maxRecDepth 20000 in
theorem gw_wsX8_listed : goodW wsX8_listed := (goodW_cons rfl (goodW_app (goodW_app (goodW_of (by decide +kernel)) gw_wsX80) gw_wsX70))
theorem ggX8_listed_X8_within : GoodIn wsX8_listed wsX8_within := goodIn_W gw_wsX8_listed sbX8_listed_X8_within
theorem mwX8_listed_1 : (.initialized RX8 : Cond) ∈ wsX8_listed := (List.mem_cons_of_mem _ (List.mem_append_left _ (List.mem_append_left _ (memL 4 rfl))))
theorem mwX8_listed_2 : (.static yX8_within : Cond) ∈ wsX8_listed := (List.mem_cons_of_mem _ (List.mem_append_left _ (List.mem_append_left _ (memL 3 rfl))))
theorem mwX8_listed_3 : (.methodLink RX8 61 yX8_within : Cond) ∈ wsX8_listed := (List.mem_cons_of_mem _ (List.mem_append_left _ (List.mem_append_left _ (memL 2 rfl))))
theorem gX8_listed_X8_within : GoodIn wsX8_listed (va_wsS RX8 61 yX8_within wsX8_within) := goodIn_W gw_wsX8_listed (subW_app (subW_cons mwX8_listed_3 (subW_cons mwX8_listed_2 (subW_cons mwX8_listed_1 subW_nil))) sbX8_listed_X8_within)
theorem mwX8_listed_4 : (.code yX7_numberOn cX7_numberOn 5 (some .int) : Cond) ∈ wsX8_listed := (List.mem_cons_of_mem _ (List.mem_append_left _ (List.mem_append_left _ (memL 9 rfl))))
theorem mwX8_listed_5 : (.fieldLink RX7 21 "BuoyTender$Warnings" "cancelledOn" "[I" : Cond) ∈ wsX8_listed := (List.mem_cons_of_mem _ (List.mem_append_left _ (List.mem_append_left _ (memL 16 rfl))))
theorem mwX8_listed_6 : (.fieldLink RX7 18 "BuoyTender$Warnings" "toldOn" "[I" : Cond) ∈ wsX8_listed := (List.mem_cons_of_mem _ (List.mem_append_left _ (List.mem_append_left _ (memL 15 rfl))))
theorem mwX8_listed_7 : (.code yX7_isOutOn cX7_isOutOn 3 (some .boolean) : Cond) ∈ wsX8_listed := (List.mem_cons_of_mem _ (List.mem_append_left _ (List.mem_append_left _ (memL 14 rfl))))
theorem mwX8_listed_8 : (.initialized RX7 : Cond) ∈ wsX8_listed := (List.mem_cons_of_mem _ (List.mem_append_left _ (List.mem_append_left _ (memL 7 rfl))))
theorem mwX8_listed_9 : (.selects RX7 yX7_isOutOn yX7_isOutOn : Cond) ∈ wsX8_listed := (List.mem_cons_of_mem _ (List.mem_append_left _ (List.mem_append_left _ (memL 13 rfl))))
theorem mwX8_listed_10 : (.instanceMethod yX7_isOutOn : Cond) ∈ wsX8_listed := (List.mem_cons_of_mem _ (List.mem_append_left _ (List.mem_append_left _ (memL 12 rfl))))
theorem mwX8_listed_11 : (.methodLink RX7 36 yX7_isOutOn : Cond) ∈ wsX8_listed := (List.mem_cons_of_mem _ (List.mem_append_left _ (List.mem_append_left _ (memL 11 rfl))))
theorem mwX8_listed_12 : (.fieldLink RX7 24 "BuoyTender$Warnings" "count" "I" : Cond) ∈ wsX8_listed := (List.mem_cons_of_mem _ (List.mem_append_left _ (List.mem_append_left _ (memL 10 rfl))))
set_option maxRecDepth 20000 in
theorem sbX8_listed_X70 : SubW wsX70 wsX8_listed := fun _ h => (List.mem_cons_of_mem _ (List.mem_append_right _ h))
set_option maxRecDepth 20000 in
theorem sbX8_listed_X7_numberOn : SubW wsX7_numberOn wsX8_listed := (subW_cons mwX8_listed_4 (subW_app (subW_cons mwX8_listed_12 (subW_cons mwX8_listed_11 (subW_cons mwX8_listed_10 (subW_cons mwX8_listed_9 (subW_cons mwX8_listed_8 (subW_cons mwX8_listed_7 (subW_cons mwX8_listed_6 (subW_cons mwX8_listed_5 subW_nil)))))))) sbX8_listed_X70))
theorem ggX8_listed_X7_numberOn : GoodIn wsX8_listed wsX7_numberOn := goodIn_W gw_wsX8_listed sbX8_listed_X7_numberOn
set_option maxRecDepth 20000 in
theorem gX8_listed_X7_numberOn_n200 : GoodIn wsX8_listed (wsX7_numberOn) := ggX8_listed_X7_numberOn
theorem dX8_listed_0 : decode cX8_listed 0 = .ok (.iload_n 1, 1) := by decide +kernel
theorem dX8_listed_1 : decode cX8_listed 1 = .ok (.iconst 0, 1) := by decide +kernel
theorem dX8_listed_2 : decode cX8_listed 2 = .ok (.aload_n 0, 1) := by decide +kernel
theorem dX8_listed_3 : decode cX8_listed 3 = .ok (.getfield 120, 3) := by decide +kernel
theorem dX8_listed_6 : decode cX8_listed 6 = .ok (.invokestatic 61, 3) := by decide +kernel
theorem dX8_listed_9 : decode cX8_listed 9 = .ok (.ifCond .eq 15, 3) := by decide +kernel
theorem dX8_listed_12 : decode cX8_listed 12 = .ok (.aload_n 0, 1) := by decide +kernel
theorem dX8_listed_13 : decode cX8_listed 13 = .ok (.getfield 25, 3) := by decide +kernel
theorem dX8_listed_16 : decode cX8_listed 16 = .ok (.iload_n 1, 1) := by decide +kernel
theorem dX8_listed_17 : decode cX8_listed 17 = .ok (.iload_n 2, 1) := by decide +kernel
theorem dX8_listed_18 : decode cX8_listed 18 = .ok (.invokevirtual 200, 3) := by decide +kernel
theorem dX8_listed_21 : decode cX8_listed 21 = .ok (.goto 4, 3) := by decide +kernel
theorem dX8_listed_24 : decode cX8_listed 24 = .ok (.iconst (-1), 1) := by decide +kernel
theorem dX8_listed_25 : decode cX8_listed 25 = .ok (.ireturn, 1) := by decide +kernel
theorem mwX8_warning_0 : (.code yX7_has cX7_has 2 (some .boolean) : Cond) ∈ wsX8_warning := (List.mem_cons_of_mem _ (List.mem_append_left _ (List.mem_append_left _ (memL 4 rfl))))
theorem mwX8_warning_1 : (.fieldLink RX7 24 "BuoyTender$Warnings" "count" "I" : Cond) ∈ wsX8_warning := (List.mem_cons_of_mem _ (List.mem_append_left _ (List.mem_append_left _ (memL 5 rfl))))
set_option maxRecDepth 20000 in
theorem sbX8_warning_X70 : SubW wsX70 wsX8_warning := fun _ h => (List.mem_cons_of_mem _ (List.mem_append_right _ h))
set_option maxRecDepth 20000 in
theorem sbX8_warning_X7_has : SubW wsX7_has wsX8_warning := (subW_cons mwX8_warning_0 (subW_app (subW_cons mwX8_warning_1 subW_nil) sbX8_warning_X70))
set_option maxRecDepth 20000 in
theorem gw_wsX8_warning : goodW wsX8_warning := (goodW_cons rfl (goodW_app (goodW_app (goodW_of (by decide +kernel)) gw_wsX80) gw_wsX70))
theorem ggX8_warning_X7_has : GoodIn wsX8_warning wsX7_has := goodIn_W gw_wsX8_warning sbX8_warning_X7_has
set_option maxRecDepth 20000 in
theorem gX8_warning_X7_has_n203 : GoodIn wsX8_warning (wsX7_has) := ggX8_warning_X7_has
theorem dX8_warning_0 : decode cX8_warning 0 = .ok (.aload_n 0, 1) := by decide +kernel
theorem dX8_warning_1 : decode cX8_warning 1 = .ok (.getfield 25, 3) := by decide +kernel
theorem dX8_warning_4 : decode cX8_warning 4 = .ok (.iload_n 1, 1) := by decide +kernel
theorem dX8_warning_5 : decode cX8_warning 5 = .ok (.invokevirtual 203, 3) := by decide +kernel
theorem dX8_warning_8 : decode cX8_warning 8 = .ok (.ifCond .ne 5, 3) := by decide +kernel
theorem dX8_warning_11 : decode cX8_warning 11 = .ok (.iconst (-1), 1) := by decide +kernel
theorem dX8_warning_12 : decode cX8_warning 12 = .ok (.ireturn, 1) := by decide +kernel
theorem dX8_warning_13 : decode cX8_warning 13 = .ok (.iload_n 2, 1) := by decide +kernel
theorem dX8_warning_14 : decode cX8_warning 14 = .ok (.tableswitch 70 0 3 #[30, 40, 50, 60], 30) := by decide +kernel
theorem dX8_warning_44 : decode cX8_warning 44 = .ok (.aload_n 0, 1) := by decide +kernel
theorem dX8_warning_45 : decode cX8_warning 45 = .ok (.getfield 25, 3) := by decide +kernel
theorem dX8_warning_48 : decode cX8_warning 48 = .ok (.getfield 206, 3) := by decide +kernel
theorem dX8_warning_51 : decode cX8_warning 51 = .ok (.iload_n 1, 1) := by decide +kernel
theorem dX8_warning_52 : decode cX8_warning 52 = .ok (.iaload, 1) := by decide +kernel
theorem dX8_warning_53 : decode cX8_warning 53 = .ok (.ireturn, 1) := by decide +kernel
theorem dX8_warning_54 : decode cX8_warning 54 = .ok (.aload_n 0, 1) := by decide +kernel
theorem dX8_warning_55 : decode cX8_warning 55 = .ok (.getfield 25, 3) := by decide +kernel
theorem dX8_warning_58 : decode cX8_warning 58 = .ok (.getfield 209, 3) := by decide +kernel
theorem dX8_warning_61 : decode cX8_warning 61 = .ok (.iload_n 1, 1) := by decide +kernel
theorem dX8_warning_62 : decode cX8_warning 62 = .ok (.iaload, 1) := by decide +kernel
theorem dX8_warning_63 : decode cX8_warning 63 = .ok (.ireturn, 1) := by decide +kernel
theorem dX8_warning_64 : decode cX8_warning 64 = .ok (.aload_n 0, 1) := by decide +kernel
theorem dX8_warning_65 : decode cX8_warning 65 = .ok (.getfield 25, 3) := by decide +kernel
theorem dX8_warning_68 : decode cX8_warning 68 = .ok (.getfield 212, 3) := by decide +kernel
theorem dX8_warning_71 : decode cX8_warning 71 = .ok (.iload_n 1, 1) := by decide +kernel
theorem dX8_warning_72 : decode cX8_warning 72 = .ok (.iaload, 1) := by decide +kernel
theorem dX8_warning_73 : decode cX8_warning 73 = .ok (.ireturn, 1) := by decide +kernel
theorem dX8_warning_74 : decode cX8_warning 74 = .ok (.aload_n 0, 1) := by decide +kernel
theorem dX8_warning_75 : decode cX8_warning 75 = .ok (.getfield 25, 3) := by decide +kernel
theorem dX8_warning_78 : decode cX8_warning 78 = .ok (.getfield 215, 3) := by decide +kernel
theorem dX8_warning_81 : decode cX8_warning 81 = .ok (.iload_n 1, 1) := by decide +kernel
theorem dX8_warning_82 : decode cX8_warning 82 = .ok (.iaload, 1) := by decide +kernel
theorem dX8_warning_83 : decode cX8_warning 83 = .ok (.ireturn, 1) := by decide +kernel
theorem dX8_warning_84 : decode cX8_warning 84 = .ok (.iconst (-1), 1) := by decide +kernel
theorem dX8_warning_85 : decode cX8_warning 85 = .ok (.ireturn, 1) := by decide +kernel
theorem mwX8_job_0 : (.code yX8_known cX8_known 2 (some (.object "BuoyTender$Mark")) : Cond) ∈ wsX8_job := (List.mem_cons_of_mem _ (List.mem_append_left _ (List.mem_append_left _ (memL 5 rfl))))
theorem mwX8_job_1 : (.fieldLink RX8 15 "BuoyTender" "marks" "[LBuoyTender$Mark;" : Cond) ∈ wsX8_job := (List.mem_cons_of_mem _ (List.mem_append_left _ (List.mem_append_left _ (memL 7 rfl))))
theorem mwX8_job_2 : (.fieldLink RX8 69 "BuoyTender" "markCount" "I" : Cond) ∈ wsX8_job := (List.mem_cons_of_mem _ (List.mem_append_left _ (List.mem_append_left _ (memL 6 rfl))))
set_option maxRecDepth 20000 in
theorem sbX8_job_X80 : SubW wsX80 wsX8_job := fun _ h => (List.mem_cons_of_mem _ (List.mem_append_right _ h))
set_option maxRecDepth 20000 in
theorem sbX8_job_X8_known : SubW wsX8_known wsX8_job := (subW_cons mwX8_job_0 (subW_app (subW_cons mwX8_job_2 (subW_cons mwX8_job_1 subW_nil)) sbX8_job_X80))
set_option maxRecDepth 20000 in
theorem gw_wsX8_job : goodW wsX8_job := (goodW_cons rfl (goodW_app (goodW_app (goodW_of (by decide +kernel)) gw_wsX10) gw_wsX80))
theorem ggX8_job_X8_known : GoodIn wsX8_job wsX8_known := goodIn_W gw_wsX8_job sbX8_job_X8_known
theorem mwX8_job_3 : (.initialized RX8 : Cond) ∈ wsX8_job := (List.mem_cons_of_mem _ (List.mem_append_left _ (List.mem_append_left _ (memL 4 rfl))))
theorem mwX8_job_4 : (.selects RX8 yX8_known yX8_known : Cond) ∈ wsX8_job := (List.mem_cons_of_mem _ (List.mem_append_left _ (List.mem_append_left _ (memL 3 rfl))))
theorem mwX8_job_5 : (.instanceMethod yX8_known : Cond) ∈ wsX8_job := (List.mem_cons_of_mem _ (List.mem_append_left _ (List.mem_append_left _ (memL 2 rfl))))
theorem mwX8_job_6 : (.methodLink RX8 76 yX8_known : Cond) ∈ wsX8_job := (List.mem_cons_of_mem _ (List.mem_append_left _ (List.mem_append_left _ (memL 1 rfl))))
theorem gX8_job_X8_known : GoodIn wsX8_job (wsV RX8 76 RX8 yX8_known wsX8_known) := goodIn_W gw_wsX8_job (subW_app (subW_cons mwX8_job_6 (subW_cons mwX8_job_5 (subW_cons mwX8_job_4 (subW_cons mwX8_job_3 subW_nil)))) sbX8_job_X8_known)
theorem mwX8_job_7 : (.code yX8_within cX8_within 3 (some .boolean) : Cond) ∈ wsX8_job := (List.mem_cons_of_mem _ (List.mem_append_left _ (List.mem_append_left _ (memL 10 rfl))))
set_option maxRecDepth 20000 in
theorem sbX8_job_X8_within : SubW wsX8_within wsX8_job := (subW_cons mwX8_job_7 subW_nil)
theorem ggX8_job_X8_within : GoodIn wsX8_job wsX8_within := goodIn_W gw_wsX8_job sbX8_job_X8_within
theorem mwX8_job_8 : (.static yX8_within : Cond) ∈ wsX8_job := (List.mem_cons_of_mem _ (List.mem_append_left _ (List.mem_append_left _ (memL 9 rfl))))
theorem mwX8_job_9 : (.methodLink RX8 61 yX8_within : Cond) ∈ wsX8_job := (List.mem_cons_of_mem _ (List.mem_append_left _ (List.mem_append_left _ (memL 8 rfl))))
theorem gX8_job_X8_within : GoodIn wsX8_job (va_wsS RX8 61 yX8_within wsX8_within) := goodIn_W gw_wsX8_job (subW_app (subW_cons mwX8_job_9 (subW_cons mwX8_job_8 (subW_cons mwX8_job_3 subW_nil))) sbX8_job_X8_within)
theorem dX8_job_0 : decode cX8_job 0 = .ok (.aload_n 0, 1) := by decide +kernel
theorem dX8_job_1 : decode cX8_job 1 = .ok (.iload_n 1, 1) := by decide +kernel
theorem dX8_job_2 : decode cX8_job 2 = .ok (.invokevirtual 76, 3) := by decide +kernel
theorem dX8_job_5 : decode cX8_job 5 = .ok (.astore 5, 2) := by decide +kernel
theorem dX8_job_7 : decode cX8_job 7 = .ok (.aload 5, 2) := by decide +kernel
theorem dX8_job_9 : decode cX8_job 9 = .ok (.ifnull 37, 3) := by decide +kernel
theorem dX8_job_12 : decode cX8_job 12 = .ok (.iload_n 2, 1) := by decide +kernel
theorem dX8_job_13 : decode cX8_job 13 = .ok (.iconst 0, 1) := by decide +kernel
theorem dX8_job_14 : decode cX8_job 14 = .ok (.sipush 600, 3) := by decide +kernel
theorem dX8_job_17 : decode cX8_job 17 = .ok (.invokestatic 61, 3) := by decide +kernel
theorem dX8_job_20 : decode cX8_job 20 = .ok (.ifCond .eq 26, 3) := by decide +kernel
theorem dX8_job_23 : decode cX8_job 23 = .ok (.iload_n 3, 1) := by decide +kernel
theorem dX8_job_24 : decode cX8_job 24 = .ok (.iconst 0, 1) := by decide +kernel
theorem dX8_job_25 : decode cX8_job 25 = .ok (.sipush 1000, 3) := by decide +kernel
theorem dX8_job_28 : decode cX8_job 28 = .ok (.invokestatic 61, 3) := by decide +kernel
theorem dX8_job_31 : decode cX8_job 31 = .ok (.ifCond .eq 15, 3) := by decide +kernel
theorem dX8_job_34 : decode cX8_job 34 = .ok (.iload 4, 2) := by decide +kernel
theorem dX8_job_36 : decode cX8_job 36 = .ok (.iconst 0, 1) := by decide +kernel
theorem dX8_job_37 : decode cX8_job 37 = .ok (.sipush 1000, 3) := by decide +kernel
theorem dX8_job_40 : decode cX8_job 40 = .ok (.invokestatic 61, 3) := by decide +kernel
theorem dX8_job_43 : decode cX8_job 43 = .ok (.ifCond .ne 5, 3) := by decide +kernel
theorem dX8_job_46 : decode cX8_job 46 = .ok (.iconst 0, 1) := by decide +kernel
theorem dX8_job_47 : decode cX8_job 47 = .ok (.ireturn, 1) := by decide +kernel
theorem dX8_job_48 : decode cX8_job 48 = .ok (.aload 5, 2) := by decide +kernel
theorem dX8_job_50 : decode cX8_job 50 = .ok (.iload_n 2, 1) := by decide +kernel
theorem dX8_job_51 : decode cX8_job 51 = .ok (.putfield 218, 3) := by decide +kernel
theorem dX8_job_54 : decode cX8_job 54 = .ok (.aload 5, 2) := by decide +kernel
theorem dX8_job_56 : decode cX8_job 56 = .ok (.iload_n 3, 1) := by decide +kernel
theorem dX8_job_57 : decode cX8_job 57 = .ok (.putfield 221, 3) := by decide +kernel
theorem dX8_job_60 : decode cX8_job 60 = .ok (.aload 5, 2) := by decide +kernel
theorem dX8_job_62 : decode cX8_job 62 = .ok (.iload 4, 2) := by decide +kernel
theorem dX8_job_64 : decode cX8_job 64 = .ok (.putfield 224, 3) := by decide +kernel
theorem dX8_job_67 : decode cX8_job 67 = .ok (.aload_n 0, 1) := by decide +kernel
theorem dX8_job_68 : decode cX8_job 68 = .ok (.iconst 0, 1) := by decide +kernel
theorem dX8_job_69 : decode cX8_job 69 = .ok (.putfield 65, 3) := by decide +kernel
theorem dX8_job_72 : decode cX8_job 72 = .ok (.iconst 1, 1) := by decide +kernel
theorem dX8_job_73 : decode cX8_job 73 = .ok (.ireturn, 1) := by decide +kernel
theorem mwX8_weather_0 : (.code yX8_within cX8_within 3 (some .boolean) : Cond) ∈ wsX8_weather := (List.mem_cons_of_mem _ (List.mem_append_left _ (List.mem_append_left _ (memL 5 rfl))))
set_option maxRecDepth 20000 in
theorem sbX8_weather_X8_within : SubW wsX8_within wsX8_weather := (subW_cons mwX8_weather_0 subW_nil)
set_option maxRecDepth 20000 in
theorem gw_wsX8_weather : goodW wsX8_weather := (goodW_cons rfl (goodW_app (goodW_app (goodW_of (by decide +kernel)) gw_wsX80) gw_wsX40))
theorem ggX8_weather_X8_within : GoodIn wsX8_weather wsX8_within := goodIn_W gw_wsX8_weather sbX8_weather_X8_within
theorem mwX8_weather_1 : (.initialized RX8 : Cond) ∈ wsX8_weather := (List.mem_cons_of_mem _ (List.mem_append_left _ (List.mem_append_left _ (memL 4 rfl))))
theorem mwX8_weather_2 : (.static yX8_within : Cond) ∈ wsX8_weather := (List.mem_cons_of_mem _ (List.mem_append_left _ (List.mem_append_left _ (memL 3 rfl))))
theorem mwX8_weather_3 : (.methodLink RX8 61 yX8_within : Cond) ∈ wsX8_weather := (List.mem_cons_of_mem _ (List.mem_append_left _ (List.mem_append_left _ (memL 2 rfl))))
theorem gX8_weather_X8_within : GoodIn wsX8_weather (va_wsS RX8 61 yX8_within wsX8_within) := goodIn_W gw_wsX8_weather (subW_app (subW_cons mwX8_weather_3 (subW_cons mwX8_weather_2 (subW_cons mwX8_weather_1 subW_nil))) sbX8_weather_X8_within)
theorem dX8_weather_0 : decode cX8_weather 0 = .ok (.iload_n 1, 1) := by decide +kernel
theorem dX8_weather_1 : decode cX8_weather 1 = .ok (.iconst 0, 1) := by decide +kernel
theorem dX8_weather_2 : decode cX8_weather 2 = .ok (.bipush 23, 2) := by decide +kernel
theorem dX8_weather_4 : decode cX8_weather 4 = .ok (.invokestatic 61, 3) := by decide +kernel
theorem dX8_weather_7 : decode cX8_weather 7 = .ok (.ifCond .eq 24, 3) := by decide +kernel
theorem dX8_weather_10 : decode cX8_weather 10 = .ok (.iload_n 2, 1) := by decide +kernel
theorem dX8_weather_11 : decode cX8_weather 11 = .ok (.bipush (-50), 2) := by decide +kernel
theorem dX8_weather_13 : decode cX8_weather 13 = .ok (.bipush 50, 2) := by decide +kernel
theorem dX8_weather_15 : decode cX8_weather 15 = .ok (.invokestatic 61, 3) := by decide +kernel
theorem dX8_weather_18 : decode cX8_weather 18 = .ok (.ifCond .eq 13, 3) := by decide +kernel
theorem dX8_weather_21 : decode cX8_weather 21 = .ok (.iload_n 3, 1) := by decide +kernel
theorem dX8_weather_22 : decode cX8_weather 22 = .ok (.iconst 0, 1) := by decide +kernel
theorem dX8_weather_23 : decode cX8_weather 23 = .ok (.bipush 12, 2) := by decide +kernel
theorem dX8_weather_25 : decode cX8_weather 25 = .ok (.invokestatic 61, 3) := by decide +kernel
theorem dX8_weather_28 : decode cX8_weather 28 = .ok (.ifCond .ne 5, 3) := by decide +kernel
theorem dX8_weather_31 : decode cX8_weather 31 = .ok (.iconst 0, 1) := by decide +kernel
theorem dX8_weather_32 : decode cX8_weather 32 = .ok (.ireturn, 1) := by decide +kernel
theorem dX8_weather_33 : decode cX8_weather 33 = .ok (.aload_n 0, 1) := by decide +kernel
theorem dX8_weather_34 : decode cX8_weather 34 = .ok (.getfield 32, 3) := by decide +kernel
theorem dX8_weather_37 : decode cX8_weather 37 = .ok (.getfield 227, 3) := by decide +kernel
theorem dX8_weather_40 : decode cX8_weather 40 = .ok (.iload_n 1, 1) := by decide +kernel
theorem dX8_weather_41 : decode cX8_weather 41 = .ok (.iload_n 2, 1) := by decide +kernel
theorem dX8_weather_42 : decode cX8_weather 42 = .ok (.iastore, 1) := by decide +kernel
theorem dX8_weather_43 : decode cX8_weather 43 = .ok (.aload_n 0, 1) := by decide +kernel
theorem dX8_weather_44 : decode cX8_weather 44 = .ok (.getfield 32, 3) := by decide +kernel
theorem dX8_weather_47 : decode cX8_weather 47 = .ok (.getfield 230, 3) := by decide +kernel
theorem dX8_weather_50 : decode cX8_weather 50 = .ok (.iload_n 1, 1) := by decide +kernel
theorem dX8_weather_51 : decode cX8_weather 51 = .ok (.iload_n 3, 1) := by decide +kernel
theorem dX8_weather_52 : decode cX8_weather 52 = .ok (.iastore, 1) := by decide +kernel
theorem dX8_weather_53 : decode cX8_weather 53 = .ok (.aload_n 0, 1) := by decide +kernel
theorem dX8_weather_54 : decode cX8_weather 54 = .ok (.iconst 0, 1) := by decide +kernel
theorem dX8_weather_55 : decode cX8_weather 55 = .ok (.putfield 65, 3) := by decide +kernel
theorem dX8_weather_58 : decode cX8_weather 58 = .ok (.iconst 1, 1) := by decide +kernel
theorem dX8_weather_59 : decode cX8_weather 59 = .ok (.ireturn, 1) := by decide +kernel
theorem mwX8_ship_0 : (.code yX8_within cX8_within 3 (some .boolean) : Cond) ∈ wsX8_ship := (List.mem_cons_of_mem _ (List.mem_append_left _ (List.mem_append_left _ (memL 5 rfl))))
set_option maxRecDepth 20000 in
theorem sbX8_ship_X8_within : SubW wsX8_within wsX8_ship := (subW_cons mwX8_ship_0 subW_nil)
set_option maxRecDepth 20000 in
theorem gw_wsX8_ship : goodW wsX8_ship := (goodW_cons rfl (goodW_app (goodW_app (goodW_of (by decide +kernel)) gw_wsX80) gw_wsX40))
theorem ggX8_ship_X8_within : GoodIn wsX8_ship wsX8_within := goodIn_W gw_wsX8_ship sbX8_ship_X8_within
theorem mwX8_ship_1 : (.initialized RX8 : Cond) ∈ wsX8_ship := (List.mem_cons_of_mem _ (List.mem_append_left _ (List.mem_append_left _ (memL 4 rfl))))
theorem mwX8_ship_2 : (.static yX8_within : Cond) ∈ wsX8_ship := (List.mem_cons_of_mem _ (List.mem_append_left _ (List.mem_append_left _ (memL 3 rfl))))
theorem mwX8_ship_3 : (.methodLink RX8 61 yX8_within : Cond) ∈ wsX8_ship := (List.mem_cons_of_mem _ (List.mem_append_left _ (List.mem_append_left _ (memL 2 rfl))))
theorem gX8_ship_X8_within : GoodIn wsX8_ship (va_wsS RX8 61 yX8_within wsX8_within) := goodIn_W gw_wsX8_ship (subW_app (subW_cons mwX8_ship_3 (subW_cons mwX8_ship_2 (subW_cons mwX8_ship_1 subW_nil))) sbX8_ship_X8_within)
theorem dX8_ship_0 : decode cX8_ship 0 = .ok (.iload_n 1, 1) := by decide +kernel
theorem dX8_ship_1 : decode cX8_ship 1 = .ok (.iconst 0, 1) := by decide +kernel
theorem dX8_ship_2 : decode cX8_ship 2 = .ok (.bipush 60, 2) := by decide +kernel
theorem dX8_ship_4 : decode cX8_ship 4 = .ok (.invokestatic 61, 3) := by decide +kernel
theorem dX8_ship_7 : decode cX8_ship 7 = .ok (.ifCond .eq 35, 3) := by decide +kernel
theorem dX8_ship_10 : decode cX8_ship 10 = .ok (.iload_n 2, 1) := by decide +kernel
theorem dX8_ship_11 : decode cX8_ship 11 = .ok (.iconst 0, 1) := by decide +kernel
theorem dX8_ship_12 : decode cX8_ship 12 = .ok (.bipush 100, 2) := by decide +kernel
theorem dX8_ship_14 : decode cX8_ship 14 = .ok (.invokestatic 61, 3) := by decide +kernel
theorem dX8_ship_17 : decode cX8_ship 17 = .ok (.ifCond .eq 25, 3) := by decide +kernel
theorem dX8_ship_20 : decode cX8_ship 20 = .ok (.iload_n 3, 1) := by decide +kernel
theorem dX8_ship_21 : decode cX8_ship 21 = .ok (.iconst 0, 1) := by decide +kernel
theorem dX8_ship_22 : decode cX8_ship 22 = .ok (.bipush 12, 2) := by decide +kernel
theorem dX8_ship_24 : decode cX8_ship 24 = .ok (.invokestatic 61, 3) := by decide +kernel
theorem dX8_ship_27 : decode cX8_ship 27 = .ok (.ifCond .eq 15, 3) := by decide +kernel
theorem dX8_ship_30 : decode cX8_ship 30 = .ok (.iload 4, 2) := by decide +kernel
theorem dX8_ship_32 : decode cX8_ship 32 = .ok (.iconst 0, 1) := by decide +kernel
theorem dX8_ship_33 : decode cX8_ship 33 = .ok (.sipush 10000, 3) := by decide +kernel
theorem dX8_ship_36 : decode cX8_ship 36 = .ok (.invokestatic 61, 3) := by decide +kernel
theorem dX8_ship_39 : decode cX8_ship 39 = .ok (.ifCond .ne 5, 3) := by decide +kernel
theorem dX8_ship_42 : decode cX8_ship 42 = .ok (.iconst 0, 1) := by decide +kernel
theorem dX8_ship_43 : decode cX8_ship 43 = .ok (.ireturn, 1) := by decide +kernel
theorem dX8_ship_44 : decode cX8_ship 44 = .ok (.aload_n 0, 1) := by decide +kernel
theorem dX8_ship_45 : decode cX8_ship 45 = .ok (.getfield 32, 3) := by decide +kernel
theorem dX8_ship_48 : decode cX8_ship 48 = .ok (.iload_n 1, 1) := by decide +kernel
theorem dX8_ship_49 : decode cX8_ship 49 = .ok (.putfield 233, 3) := by decide +kernel
theorem dX8_ship_52 : decode cX8_ship 52 = .ok (.aload_n 0, 1) := by decide +kernel
theorem dX8_ship_53 : decode cX8_ship 53 = .ok (.getfield 32, 3) := by decide +kernel
theorem dX8_ship_56 : decode cX8_ship 56 = .ok (.iload_n 2, 1) := by decide +kernel
theorem dX8_ship_57 : decode cX8_ship 57 = .ok (.putfield 236, 3) := by decide +kernel
theorem dX8_ship_60 : decode cX8_ship 60 = .ok (.aload_n 0, 1) := by decide +kernel
theorem dX8_ship_61 : decode cX8_ship 61 = .ok (.getfield 32, 3) := by decide +kernel
theorem dX8_ship_64 : decode cX8_ship 64 = .ok (.iload_n 3, 1) := by decide +kernel
theorem dX8_ship_65 : decode cX8_ship 65 = .ok (.putfield 239, 3) := by decide +kernel
theorem dX8_ship_68 : decode cX8_ship 68 = .ok (.aload_n 0, 1) := by decide +kernel
theorem dX8_ship_69 : decode cX8_ship 69 = .ok (.getfield 32, 3) := by decide +kernel
theorem dX8_ship_72 : decode cX8_ship 72 = .ok (.iload 4, 2) := by decide +kernel
theorem dX8_ship_74 : decode cX8_ship 74 = .ok (.putfield 242, 3) := by decide +kernel
theorem dX8_ship_77 : decode cX8_ship 77 = .ok (.aload_n 0, 1) := by decide +kernel
theorem dX8_ship_78 : decode cX8_ship 78 = .ok (.iconst 0, 1) := by decide +kernel
theorem dX8_ship_79 : decode cX8_ship 79 = .ok (.putfield 65, 3) := by decide +kernel
theorem dX8_ship_82 : decode cX8_ship 82 = .ok (.iconst 1, 1) := by decide +kernel
theorem dX8_ship_83 : decode cX8_ship 83 = .ok (.ireturn, 1) := by decide +kernel
theorem mwX8_at_0 : (.code yX8_isPlace cX8_isPlace 2 (some .boolean) : Cond) ∈ wsX8_at := (List.mem_cons_of_mem _ (List.mem_append_left _ (List.mem_append_left _ (memL 5 rfl))))
theorem mwX8_at_1 : (.code yX8_within cX8_within 3 (some .boolean) : Cond) ∈ wsX8_at := (List.mem_cons_of_mem _ (List.mem_append_left _ (List.mem_append_left _ (memL 8 rfl))))
theorem mwX8_at_2 : (.initialized RX8 : Cond) ∈ wsX8_at := (List.mem_cons_of_mem _ (List.mem_append_left _ (List.mem_append_left _ (memL 4 rfl))))
theorem mwX8_at_3 : (.static yX8_within : Cond) ∈ wsX8_at := (List.mem_cons_of_mem _ (List.mem_append_left _ (List.mem_append_left _ (memL 7 rfl))))
theorem mwX8_at_4 : (.methodLink RX8 61 yX8_within : Cond) ∈ wsX8_at := (List.mem_cons_of_mem _ (List.mem_append_left _ (List.mem_append_left _ (memL 6 rfl))))
set_option maxRecDepth 20000 in
theorem sbX8_at_X8_isPlace : SubW wsX8_isPlace wsX8_at := (subW_cons mwX8_at_0 (subW_cons mwX8_at_4 (subW_cons mwX8_at_3 (subW_cons mwX8_at_2 (subW_cons mwX8_at_1 subW_nil)))))
set_option maxRecDepth 20000 in
theorem gw_wsX8_at : goodW wsX8_at := (goodW_cons rfl (goodW_app (goodW_app (goodW_of (by decide +kernel)) gw_wsX80) gw_wsX40))
theorem ggX8_at_X8_isPlace : GoodIn wsX8_at wsX8_isPlace := goodIn_W gw_wsX8_at sbX8_at_X8_isPlace
theorem mwX8_at_5 : (.static yX8_isPlace : Cond) ∈ wsX8_at := (List.mem_cons_of_mem _ (List.mem_append_left _ (List.mem_append_left _ (memL 3 rfl))))
theorem mwX8_at_6 : (.methodLink RX8 57 yX8_isPlace : Cond) ∈ wsX8_at := (List.mem_cons_of_mem _ (List.mem_append_left _ (List.mem_append_left _ (memL 2 rfl))))
theorem gX8_at_X8_isPlace : GoodIn wsX8_at (va_wsS RX8 57 yX8_isPlace wsX8_isPlace) := goodIn_W gw_wsX8_at (subW_app (subW_cons mwX8_at_6 (subW_cons mwX8_at_5 (subW_cons mwX8_at_2 subW_nil))) sbX8_at_X8_isPlace)
set_option maxRecDepth 20000 in
theorem sbX8_at_X8_within : SubW wsX8_within wsX8_at := (subW_cons mwX8_at_1 subW_nil)
theorem ggX8_at_X8_within : GoodIn wsX8_at wsX8_within := goodIn_W gw_wsX8_at sbX8_at_X8_within
theorem gX8_at_X8_within : GoodIn wsX8_at (va_wsS RX8 61 yX8_within wsX8_within) := goodIn_W gw_wsX8_at (subW_app (subW_cons mwX8_at_4 (subW_cons mwX8_at_3 (subW_cons mwX8_at_2 subW_nil))) sbX8_at_X8_within)
theorem dX8_at_0 : decode cX8_at 0 = .ok (.iload_n 1, 1) := by decide +kernel
theorem dX8_at_1 : decode cX8_at 1 = .ok (.iload_n 2, 1) := by decide +kernel
theorem dX8_at_2 : decode cX8_at 2 = .ok (.invokestatic 57, 3) := by decide +kernel
theorem dX8_at_5 : decode cX8_at 5 = .ok (.ifCond .eq 26, 3) := by decide +kernel
theorem dX8_at_8 : decode cX8_at 8 = .ok (.iload_n 3, 1) := by decide +kernel
theorem dX8_at_9 : decode cX8_at 9 = .ok (.iconst 0, 1) := by decide +kernel
theorem dX8_at_10 : decode cX8_at 10 = .ok (.sipush 1440, 3) := by decide +kernel
theorem dX8_at_13 : decode cX8_at 13 = .ok (.invokestatic 61, 3) := by decide +kernel
theorem dX8_at_16 : decode cX8_at 16 = .ok (.ifCond .eq 15, 3) := by decide +kernel
theorem dX8_at_19 : decode cX8_at 19 = .ok (.iload 4, 2) := by decide +kernel
theorem dX8_at_21 : decode cX8_at 21 = .ok (.iload_n 3, 1) := by decide +kernel
theorem dX8_at_22 : decode cX8_at 22 = .ok (.sipush 1440, 3) := by decide +kernel
theorem dX8_at_25 : decode cX8_at 25 = .ok (.invokestatic 61, 3) := by decide +kernel
theorem dX8_at_28 : decode cX8_at 28 = .ok (.ifCond .ne 5, 3) := by decide +kernel
theorem dX8_at_31 : decode cX8_at 31 = .ok (.iconst 0, 1) := by decide +kernel
theorem dX8_at_32 : decode cX8_at 32 = .ok (.ireturn, 1) := by decide +kernel
theorem dX8_at_33 : decode cX8_at 33 = .ok (.aload_n 0, 1) := by decide +kernel
theorem dX8_at_34 : decode cX8_at 34 = .ok (.getfield 32, 3) := by decide +kernel
theorem dX8_at_37 : decode cX8_at 37 = .ok (.iload_n 1, 1) := by decide +kernel
theorem dX8_at_38 : decode cX8_at 38 = .ok (.putfield 245, 3) := by decide +kernel
theorem dX8_at_41 : decode cX8_at 41 = .ok (.aload_n 0, 1) := by decide +kernel
theorem dX8_at_42 : decode cX8_at 42 = .ok (.getfield 32, 3) := by decide +kernel
theorem dX8_at_45 : decode cX8_at 45 = .ok (.iload_n 2, 1) := by decide +kernel
theorem dX8_at_46 : decode cX8_at 46 = .ok (.putfield 246, 3) := by decide +kernel
theorem dX8_at_49 : decode cX8_at 49 = .ok (.aload_n 0, 1) := by decide +kernel
theorem dX8_at_50 : decode cX8_at 50 = .ok (.getfield 32, 3) := by decide +kernel
theorem dX8_at_53 : decode cX8_at 53 = .ok (.iload_n 3, 1) := by decide +kernel
theorem dX8_at_54 : decode cX8_at 54 = .ok (.putfield 247, 3) := by decide +kernel
theorem dX8_at_57 : decode cX8_at 57 = .ok (.aload_n 0, 1) := by decide +kernel
theorem dX8_at_58 : decode cX8_at 58 = .ok (.getfield 32, 3) := by decide +kernel
theorem dX8_at_61 : decode cX8_at 61 = .ok (.iload 4, 2) := by decide +kernel
theorem dX8_at_63 : decode cX8_at 63 = .ok (.putfield 250, 3) := by decide +kernel
theorem dX8_at_66 : decode cX8_at 66 = .ok (.aload_n 0, 1) := by decide +kernel
theorem dX8_at_67 : decode cX8_at 67 = .ok (.iconst 0, 1) := by decide +kernel
theorem dX8_at_68 : decode cX8_at 68 = .ok (.putfield 65, 3) := by decide +kernel
theorem dX8_at_71 : decode cX8_at 71 = .ok (.iconst 1, 1) := by decide +kernel
theorem dX8_at_72 : decode cX8_at 72 = .ok (.ireturn, 1) := by decide +kernel
theorem sbX8_round_X8_round_r1 : SubW wsX8_round_r1 wsX8_round := fun _ h => (List.mem_cons_of_mem _ (List.mem_append_left _ (List.mem_append_left _ (List.mem_append_left _ (List.mem_append_left _ (List.mem_append_left _ h))))))
theorem sbX8_round_X8_round_r2 : SubW wsX8_round_r2 wsX8_round := fun _ h => (List.mem_cons_of_mem _ (List.mem_append_left _ (List.mem_append_left _ (List.mem_append_left _ (List.mem_append_left _ (List.mem_append_right _ (List.mem_append_left _ h)))))))
theorem sbX8_round_X8_round_r3 : SubW wsX8_round_r3 wsX8_round := fun _ h => (List.mem_cons_of_mem _ (List.mem_append_left _ (List.mem_append_left _ (List.mem_append_left _ (List.mem_append_left _ (List.mem_append_right _ (List.mem_append_right _ (List.mem_append_left _ h))))))))
theorem sbX8_round_X8_round_r4 : SubW wsX8_round_r4 wsX8_round := fun _ h => (List.mem_cons_of_mem _ (List.mem_append_left _ (List.mem_append_left _ (List.mem_append_left _ (List.mem_append_left _ (List.mem_append_right _ (List.mem_append_right _ (List.mem_append_right _ (List.mem_append_left _ h)))))))))
theorem sbX8_round_X8_round_r5 : SubW wsX8_round_r5 wsX8_round := fun _ h => (List.mem_cons_of_mem _ (List.mem_append_left _ (List.mem_append_left _ (List.mem_append_left _ (List.mem_append_left _ (List.mem_append_right _ (List.mem_append_right _ (List.mem_append_right _ (List.mem_append_right _ (List.mem_append_left _ h))))))))))
theorem sbX8_round_X8_round_r6 : SubW wsX8_round_r6 wsX8_round := fun _ h => (List.mem_cons_of_mem _ (List.mem_append_left _ (List.mem_append_left _ (List.mem_append_left _ (List.mem_append_left _ (List.mem_append_right _ (List.mem_append_right _ (List.mem_append_right _ (List.mem_append_right _ (List.mem_append_right _ h))))))))))
theorem mwX8_round_0 : (.code yX2_plan cX2_plan 4 none : Cond) ∈ wsX8_round := (sbX8_round_X8_round_r1 _ (memL 8 rfl))
theorem mwX8_round_1 : (.fieldLink RX4 25 "BuoyTender$Ship" "mostWind" "I" : Cond) ∈ wsX8_round := (sbX8_round_X8_round_r2 _ (memL 7 rfl))
theorem mwX8_round_2 : (.fieldLink RX4 15 "BuoyTender$Ship" "winds" "[I" : Cond) ∈ wsX8_round := (sbX8_round_X8_round_r2 _ (memL 6 rfl))
theorem mwX8_round_3 : (.fieldLink RX4 28 "BuoyTender$Ship" "draught" "I" : Cond) ∈ wsX8_round := (sbX8_round_X8_round_r2 _ (memL 5 rfl))
theorem mwX8_round_4 : (.fieldLink RX4 9 "BuoyTender$Ship" "tides" "[I" : Cond) ∈ wsX8_round := (sbX8_round_X8_round_r2 _ (memL 4 rfl))
theorem mwX8_round_5 : (.code yX4_mayBegin cX4_mayBegin 3 (some .boolean) : Cond) ∈ wsX8_round := (sbX8_round_X8_round_r2 _ (memL 3 rfl))
theorem mwX8_round_6 : (.selects RX4 yX4_mayBegin yX4_mayBegin : Cond) ∈ wsX8_round := (sbX8_round_X8_round_r2 _ (memL 2 rfl))
theorem mwX8_round_7 : (.initialized RX4 : Cond) ∈ wsX8_round := (sbX8_round_X8_round_r2 _ (memL 1 rfl))
theorem mwX8_round_8 : (.instanceMethod yX4_mayBegin : Cond) ∈ wsX8_round := (sbX8_round_X8_round_r2 _ (memL 0 rfl))
theorem mwX8_round_9 : (.fieldLink RX2 27 "BuoyTender$Planner" "opensIn" "[I" : Cond) ∈ wsX8_round := (sbX8_round_X8_round_r1 _ (memL 23 rfl))
theorem mwX8_round_10 : (.fieldLink RX2 30 "BuoyTender$Planner" "openedIn" "[I" : Cond) ∈ wsX8_round := (sbX8_round_X8_round_r1 _ (memL 22 rfl))
theorem mwX8_round_11 : (.code yX2_openHours cX2_openHours 7 none : Cond) ∈ wsX8_round := (sbX8_round_X8_round_r1 _ (memL 21 rfl))
theorem mwX8_round_12 : (.selects RX2 yX2_openHours yX2_openHours : Cond) ∈ wsX8_round := (sbX8_round_X8_round_r1 _ (memL 20 rfl))
theorem mwX8_round_13 : (.instanceMethod yX2_openHours : Cond) ∈ wsX8_round := (sbX8_round_X8_round_r1 _ (memL 19 rfl))
theorem mwX8_round_14 : (.methodLink RX2 95 yX2_openHours : Cond) ∈ wsX8_round := (sbX8_round_X8_round_r1 _ (memL 18 rfl))
theorem mwX8_round_15 : (.fieldLink RX2 21 "BuoyTender$Planner" "weights" "[I" : Cond) ∈ wsX8_round := (sbX8_round_X8_round_r1 _ (memL 17 rfl))
theorem mwX8_round_16 : (.fieldLink RX2 18 "BuoyTender$Planner" "loads" "[I" : Cond) ∈ wsX8_round := (sbX8_round_X8_round_r1 _ (memL 16 rfl))
theorem mwX8_round_17 : (.fieldLink RX2 15 "BuoyTender$Planner" "minutes" "[I" : Cond) ∈ wsX8_round := (sbX8_round_X8_round_r1 _ (memL 15 rfl))
theorem mwX8_round_18 : (.fieldLink RX2 9 "BuoyTender$Planner" "numbers" "[I" : Cond) ∈ wsX8_round := (sbX8_round_X8_round_r1 _ (memL 14 rfl))
theorem mwX8_round_19 : (.fieldLink RX2 76 "BuoyTender$Planner" "count" "I" : Cond) ∈ wsX8_round := (sbX8_round_X8_round_r1 _ (memL 13 rfl))
theorem mwX8_round_20 : (.code yX2_gather cX2_gather 7 none : Cond) ∈ wsX8_round := (sbX8_round_X8_round_r1 _ (memL 12 rfl))
theorem mwX8_round_21 : (.initialized RX2 : Cond) ∈ wsX8_round := (sbX8_round_X8_round_r1 _ (memL 6 rfl))
theorem mwX8_round_22 : (.selects RX2 yX2_gather yX2_gather : Cond) ∈ wsX8_round := (sbX8_round_X8_round_r1 _ (memL 11 rfl))
theorem mwX8_round_23 : (.instanceMethod yX2_gather : Cond) ∈ wsX8_round := (sbX8_round_X8_round_r1 _ (memL 10 rfl))
theorem mwX8_round_24 : (.methodLink RX2 48 yX2_gather : Cond) ∈ wsX8_round := (sbX8_round_X8_round_r1 _ (memL 9 rfl))
set_option maxRecDepth 20000 in
theorem sbX8_round_X2_plan_r1 : SubW wsX2_plan_r1 wsX8_round := (subW_cons mwX8_round_24 (subW_cons mwX8_round_23 (subW_cons mwX8_round_22 (subW_cons mwX8_round_21 (subW_cons mwX8_round_20 (subW_cons mwX8_round_19 (subW_cons mwX8_round_18 (subW_cons mwX8_round_17 (subW_cons mwX8_round_16 (subW_cons mwX8_round_15 (subW_cons mwX8_round_14 (subW_cons mwX8_round_13 (subW_cons mwX8_round_12 (subW_cons mwX8_round_11 (subW_cons mwX8_round_10 (subW_cons mwX8_round_9 (subW_cons mwX8_round_8 (subW_cons mwX8_round_7 (subW_cons mwX8_round_6 (subW_cons mwX8_round_5 (subW_cons mwX8_round_4 (subW_cons mwX8_round_3 (subW_cons mwX8_round_2 (subW_cons mwX8_round_1 subW_nil))))))))))))))))))))))))
theorem mwX8_round_25 : (.fieldLink RX2 36 "BuoyTender$Planner" "backs" "[I" : Cond) ∈ wsX8_round := (sbX8_round_X8_round_r3 _ (memL 7 rfl))
theorem mwX8_round_26 : (.code yX2_findEarliestEnds cX2_findEarliestEnds 7 none : Cond) ∈ wsX8_round := (sbX8_round_X8_round_r3 _ (memL 6 rfl))
theorem mwX8_round_27 : (.selects RX2 yX2_findEarliestEnds yX2_findEarliestEnds : Cond) ∈ wsX8_round := (sbX8_round_X8_round_r3 _ (memL 5 rfl))
theorem mwX8_round_28 : (.instanceMethod yX2_findEarliestEnds : Cond) ∈ wsX8_round := (sbX8_round_X8_round_r3 _ (memL 4 rfl))
theorem mwX8_round_29 : (.methodLink RX2 56 yX2_findEarliestEnds : Cond) ∈ wsX8_round := (sbX8_round_X8_round_r3 _ (memL 3 rfl))
theorem mwX8_round_30 : (.code Lib.Math.max.name Lib.Math.max.code 2 (some .int) : Cond) ∈ wsX8_round := (sbX8_round_X8_round_r3 _ (memL 2 rfl))
theorem mwX8_round_31 : (.static Lib.Math.max.name : Cond) ∈ wsX8_round := (sbX8_round_X8_round_r3 _ (memL 1 rfl))
theorem mwX8_round_32 : (.methodLink RX2 121 Lib.Math.max.name : Cond) ∈ wsX8_round := (sbX8_round_X8_round_r3 _ (memL 0 rfl))
theorem mwX8_round_33 : (.code Lib.Math.abs.name Lib.Math.abs.code 1 (some .int) : Cond) ∈ wsX8_round := (sbX8_round_X8_round_r2 _ (memL 23 rfl))
theorem mwX8_round_34 : (.initialized "java/lang/Math" : Cond) ∈ wsX8_round := (sbX8_round_X8_round_r2 _ (memL 22 rfl))
theorem mwX8_round_35 : (.static Lib.Math.abs.name : Cond) ∈ wsX8_round := (sbX8_round_X8_round_r2 _ (memL 21 rfl))
theorem mwX8_round_36 : (.methodLink RX2 115 Lib.Math.abs.name : Cond) ∈ wsX8_round := (sbX8_round_X8_round_r2 _ (memL 20 rfl))
theorem mwX8_round_37 : (.code yX2_way cX2_way 4 (some .int) : Cond) ∈ wsX8_round := (sbX8_round_X8_round_r2 _ (memL 19 rfl))
theorem mwX8_round_38 : (.static yX2_way : Cond) ∈ wsX8_round := (sbX8_round_X8_round_r2 _ (memL 18 rfl))
theorem mwX8_round_39 : (.methodLink RX2 109 yX2_way : Cond) ∈ wsX8_round := (sbX8_round_X8_round_r2 _ (memL 17 rfl))
theorem mwX8_round_40 : (.code yX2_markOfJob cX2_markOfJob 4 (some (.object "BuoyTender$Mark")) : Cond) ∈ wsX8_round := (sbX8_round_X8_round_r2 _ (memL 16 rfl))
theorem mwX8_round_41 : (.selects RX2 yX2_markOfJob yX2_markOfJob : Cond) ∈ wsX8_round := (sbX8_round_X8_round_r2 _ (memL 15 rfl))
theorem mwX8_round_42 : (.instanceMethod yX2_markOfJob : Cond) ∈ wsX8_round := (sbX8_round_X8_round_r2 _ (memL 14 rfl))
theorem mwX8_round_43 : (.methodLink RX2 105 yX2_markOfJob : Cond) ∈ wsX8_round := (sbX8_round_X8_round_r2 _ (memL 13 rfl))
theorem mwX8_round_44 : (.fieldLink RX2 24 "BuoyTender$Planner" "ways" "[I" : Cond) ∈ wsX8_round := (sbX8_round_X8_round_r2 _ (memL 12 rfl))
theorem mwX8_round_45 : (.code yX2_measure cX2_measure 7 none : Cond) ∈ wsX8_round := (sbX8_round_X8_round_r2 _ (memL 11 rfl))
theorem mwX8_round_46 : (.selects RX2 yX2_measure yX2_measure : Cond) ∈ wsX8_round := (sbX8_round_X8_round_r2 _ (memL 10 rfl))
theorem mwX8_round_47 : (.instanceMethod yX2_measure : Cond) ∈ wsX8_round := (sbX8_round_X8_round_r2 _ (memL 9 rfl))
theorem mwX8_round_48 : (.methodLink RX2 52 yX2_measure : Cond) ∈ wsX8_round := (sbX8_round_X8_round_r2 _ (memL 8 rfl))
set_option maxRecDepth 20000 in
theorem sbX8_round_X2_plan_r2 : SubW wsX2_plan_r2 wsX8_round := (subW_cons mwX8_round_48 (subW_cons mwX8_round_47 (subW_cons mwX8_round_46 (subW_cons mwX8_round_45 (subW_cons mwX8_round_44 (subW_cons mwX8_round_43 (subW_cons mwX8_round_42 (subW_cons mwX8_round_41 (subW_cons mwX8_round_40 (subW_cons mwX8_round_39 (subW_cons mwX8_round_38 (subW_cons mwX8_round_37 (subW_cons mwX8_round_36 (subW_cons mwX8_round_35 (subW_cons mwX8_round_34 (subW_cons mwX8_round_33 (subW_cons mwX8_round_32 (subW_cons mwX8_round_31 (subW_cons mwX8_round_30 (subW_cons mwX8_round_29 (subW_cons mwX8_round_28 (subW_cons mwX8_round_27 (subW_cons mwX8_round_26 (subW_cons mwX8_round_25 subW_nil))))))))))))))))))))))))
theorem mwX8_round_49 : (.methodLink RX2 60 yX2_chooseBest : Cond) ∈ wsX8_round := (sbX8_round_X8_round_r4 _ (memL 7 rfl))
theorem mwX8_round_50 : (.code yX2_beginFrom cX2_beginFrom 5 (some .int) : Cond) ∈ wsX8_round := (sbX8_round_X8_round_r4 _ (memL 6 rfl))
theorem mwX8_round_51 : (.selects RX2 yX2_beginFrom yX2_beginFrom : Cond) ∈ wsX8_round := (sbX8_round_X8_round_r4 _ (memL 5 rfl))
theorem mwX8_round_52 : (.instanceMethod yX2_beginFrom : Cond) ∈ wsX8_round := (sbX8_round_X8_round_r4 _ (memL 4 rfl))
theorem mwX8_round_53 : (.methodLink RX2 156 yX2_beginFrom : Cond) ∈ wsX8_round := (sbX8_round_X8_round_r4 _ (memL 3 rfl))
theorem mwX8_round_54 : (.code yX2_without cX2_without 2 (some .int) : Cond) ∈ wsX8_round := (sbX8_round_X8_round_r4 _ (memL 2 rfl))
theorem mwX8_round_55 : (.static yX2_without : Cond) ∈ wsX8_round := (sbX8_round_X8_round_r4 _ (memL 1 rfl))
theorem mwX8_round_56 : (.methodLink RX2 153 yX2_without : Cond) ∈ wsX8_round := (sbX8_round_X8_round_r4 _ (memL 0 rfl))
theorem mwX8_round_57 : (.code yX2_earliestEnd cX2_earliestEnd 7 (some .int) : Cond) ∈ wsX8_round := (sbX8_round_X8_round_r3 _ (memL 23 rfl))
theorem mwX8_round_58 : (.selects RX2 yX2_earliestEnd yX2_earliestEnd : Cond) ∈ wsX8_round := (sbX8_round_X8_round_r3 _ (memL 22 rfl))
theorem mwX8_round_59 : (.instanceMethod yX2_earliestEnd : Cond) ∈ wsX8_round := (sbX8_round_X8_round_r3 _ (memL 21 rfl))
theorem mwX8_round_60 : (.methodLink RX2 146 yX2_earliestEnd : Cond) ∈ wsX8_round := (sbX8_round_X8_round_r3 _ (memL 20 rfl))
theorem mwX8_round_61 : (.code yX2_isIn cX2_isIn 2 (some .boolean) : Cond) ∈ wsX8_round := (sbX8_round_X8_round_r3 _ (memL 19 rfl))
theorem mwX8_round_62 : (.static yX2_isIn : Cond) ∈ wsX8_round := (sbX8_round_X8_round_r3 _ (memL 18 rfl))
theorem mwX8_round_63 : (.methodLink RX2 128 yX2_isIn : Cond) ∈ wsX8_round := (sbX8_round_X8_round_r3 _ (memL 17 rfl))
theorem mwX8_round_64 : (.code yX2_sumOver cX2_sumOver 5 (some .int) : Cond) ∈ wsX8_round := (sbX8_round_X8_round_r3 _ (memL 16 rfl))
theorem mwX8_round_65 : (.selects RX2 yX2_sumOver yX2_sumOver : Cond) ∈ wsX8_round := (sbX8_round_X8_round_r3 _ (memL 15 rfl))
theorem mwX8_round_66 : (.instanceMethod yX2_sumOver : Cond) ∈ wsX8_round := (sbX8_round_X8_round_r3 _ (memL 14 rfl))
theorem mwX8_round_67 : (.methodLink RX2 139 yX2_sumOver : Cond) ∈ wsX8_round := (sbX8_round_X8_round_r3 _ (memL 13 rfl))
theorem mwX8_round_68 : (.code Lib.Math.min.name Lib.Math.min.code 2 (some .int) : Cond) ∈ wsX8_round := (sbX8_round_X8_round_r3 _ (memL 12 rfl))
theorem mwX8_round_69 : (.static Lib.Math.min.name : Cond) ∈ wsX8_round := (sbX8_round_X8_round_r3 _ (memL 11 rfl))
theorem mwX8_round_70 : (.methodLink RX2 133 Lib.Math.min.name : Cond) ∈ wsX8_round := (sbX8_round_X8_round_r3 _ (memL 10 rfl))
theorem mwX8_round_71 : (.fieldLink RX2 33 "BuoyTender$Planner" "ends" "[I" : Cond) ∈ wsX8_round := (sbX8_round_X8_round_r3 _ (memL 9 rfl))
theorem mwX8_round_72 : (.constant RX2 131 (1000000) : Cond) ∈ wsX8_round := (sbX8_round_X8_round_r3 _ (memL 8 rfl))
set_option maxRecDepth 20000 in
theorem sbX8_round_X2_plan_r3 : SubW wsX2_plan_r3 wsX8_round := (subW_cons mwX8_round_72 (subW_cons mwX8_round_71 (subW_cons mwX8_round_70 (subW_cons mwX8_round_69 (subW_cons mwX8_round_68 (subW_cons mwX8_round_67 (subW_cons mwX8_round_66 (subW_cons mwX8_round_65 (subW_cons mwX8_round_64 (subW_cons mwX8_round_63 (subW_cons mwX8_round_62 (subW_cons mwX8_round_61 (subW_cons mwX8_round_60 (subW_cons mwX8_round_59 (subW_cons mwX8_round_58 (subW_cons mwX8_round_57 (subW_cons mwX8_round_56 (subW_cons mwX8_round_55 (subW_cons mwX8_round_54 (subW_cons mwX8_round_53 (subW_cons mwX8_round_52 (subW_cons mwX8_round_51 (subW_cons mwX8_round_50 (subW_cons mwX8_round_49 subW_nil))))))))))))))))))))))))
theorem mwX8_round_73 : (.fieldLink RX2 39 "BuoyTender$Planner" "tried" "[I" : Cond) ∈ wsX8_round := (sbX8_round_X8_round_r5 _ (memL 7 rfl))
theorem mwX8_round_74 : (.fieldLink RX2 72 "BuoyTender$Planner" "length" "I" : Cond) ∈ wsX8_round := (sbX8_round_X8_round_r5 _ (memL 6 rfl))
theorem mwX8_round_75 : (.code yX2_chooseOrder cX2_chooseOrder 4 none : Cond) ∈ wsX8_round := (sbX8_round_X8_round_r5 _ (memL 5 rfl))
theorem mwX8_round_76 : (.selects RX2 yX2_chooseOrder yX2_chooseOrder : Cond) ∈ wsX8_round := (sbX8_round_X8_round_r5 _ (memL 4 rfl))
theorem mwX8_round_77 : (.instanceMethod yX2_chooseOrder : Cond) ∈ wsX8_round := (sbX8_round_X8_round_r5 _ (memL 3 rfl))
theorem mwX8_round_78 : (.methodLink RX2 66 yX2_chooseOrder : Cond) ∈ wsX8_round := (sbX8_round_X8_round_r5 _ (memL 2 rfl))
theorem mwX8_round_79 : (.code yX2_beginUpTo cX2_beginUpTo 6 (some .int) : Cond) ∈ wsX8_round := (sbX8_round_X8_round_r5 _ (memL 1 rfl))
theorem mwX8_round_80 : (.selects RX2 yX2_beginUpTo yX2_beginUpTo : Cond) ∈ wsX8_round := (sbX8_round_X8_round_r5 _ (memL 0 rfl))
theorem mwX8_round_81 : (.instanceMethod yX2_beginUpTo : Cond) ∈ wsX8_round := (sbX8_round_X8_round_r4 _ (memL 23 rfl))
theorem mwX8_round_82 : (.methodLink RX2 168 yX2_beginUpTo : Cond) ∈ wsX8_round := (sbX8_round_X8_round_r4 _ (memL 22 rfl))
theorem mwX8_round_83 : (.code yX2_latestEnd cX2_latestEnd 6 (some .int) : Cond) ∈ wsX8_round := (sbX8_round_X8_round_r4 _ (memL 21 rfl))
theorem mwX8_round_84 : (.selects RX2 yX2_latestEnd yX2_latestEnd : Cond) ∈ wsX8_round := (sbX8_round_X8_round_r4 _ (memL 20 rfl))
theorem mwX8_round_85 : (.instanceMethod yX2_latestEnd : Cond) ∈ wsX8_round := (sbX8_round_X8_round_r4 _ (memL 19 rfl))
theorem mwX8_round_86 : (.methodLink RX2 165 yX2_latestEnd : Cond) ∈ wsX8_round := (sbX8_round_X8_round_r4 _ (memL 18 rfl))
theorem mwX8_round_87 : (.constant RX2 132 (-1000000) : Cond) ∈ wsX8_round := (sbX8_round_X8_round_r4 _ (memL 17 rfl))
theorem mwX8_round_88 : (.code yX2_findLatestEnds cX2_findLatestEnds 3 none : Cond) ∈ wsX8_round := (sbX8_round_X8_round_r4 _ (memL 16 rfl))
theorem mwX8_round_89 : (.selects RX2 yX2_findLatestEnds yX2_findLatestEnds : Cond) ∈ wsX8_round := (sbX8_round_X8_round_r4 _ (memL 15 rfl))
theorem mwX8_round_90 : (.instanceMethod yX2_findLatestEnds : Cond) ∈ wsX8_round := (sbX8_round_X8_round_r4 _ (memL 14 rfl))
theorem mwX8_round_91 : (.methodLink RX2 63 yX2_findLatestEnds : Cond) ∈ wsX8_round := (sbX8_round_X8_round_r4 _ (memL 13 rfl))
theorem mwX8_round_92 : (.fieldLink RX2 162 "BuoyTender$Planner" "bestBack" "I" : Cond) ∈ wsX8_round := (sbX8_round_X8_round_r4 _ (memL 12 rfl))
theorem mwX8_round_93 : (.fieldLink RX2 159 "BuoyTender$Planner" "bestWeight" "I" : Cond) ∈ wsX8_round := (sbX8_round_X8_round_r4 _ (memL 11 rfl))
theorem mwX8_round_94 : (.code yX2_chooseBest cX2_chooseBest 3 none : Cond) ∈ wsX8_round := (sbX8_round_X8_round_r4 _ (memL 10 rfl))
theorem mwX8_round_95 : (.selects RX2 yX2_chooseBest yX2_chooseBest : Cond) ∈ wsX8_round := (sbX8_round_X8_round_r4 _ (memL 9 rfl))
theorem mwX8_round_96 : (.instanceMethod yX2_chooseBest : Cond) ∈ wsX8_round := (sbX8_round_X8_round_r4 _ (memL 8 rfl))
set_option maxRecDepth 20000 in
theorem sbX8_round_X2_plan_r4 : SubW wsX2_plan_r4 wsX8_round := (subW_cons mwX8_round_96 (subW_cons mwX8_round_95 (subW_cons mwX8_round_94 (subW_cons mwX8_round_93 (subW_cons mwX8_round_92 (subW_cons mwX8_round_91 (subW_cons mwX8_round_90 (subW_cons mwX8_round_89 (subW_cons mwX8_round_88 (subW_cons mwX8_round_87 (subW_cons mwX8_round_86 (subW_cons mwX8_round_85 (subW_cons mwX8_round_84 (subW_cons mwX8_round_83 (subW_cons mwX8_round_82 (subW_cons mwX8_round_81 (subW_cons mwX8_round_80 (subW_cons mwX8_round_79 (subW_cons mwX8_round_78 (subW_cons mwX8_round_77 (subW_cons mwX8_round_76 (subW_cons mwX8_round_75 (subW_cons mwX8_round_74 (subW_cons mwX8_round_73 subW_nil))))))))))))))))))))))))
theorem mwX8_round_97 : (.fieldLink RX2 45 "BuoyTender$Planner" "begins" "[I" : Cond) ∈ wsX8_round := (sbX8_round_X8_round_r6 _ (memL 5 rfl))
theorem mwX8_round_98 : (.code yX2_timeOrder cX2_timeOrder 6 none : Cond) ∈ wsX8_round := (sbX8_round_X8_round_r6 _ (memL 4 rfl))
theorem mwX8_round_99 : (.selects RX2 yX2_timeOrder yX2_timeOrder : Cond) ∈ wsX8_round := (sbX8_round_X8_round_r6 _ (memL 3 rfl))
theorem mwX8_round_100 : (.instanceMethod yX2_timeOrder : Cond) ∈ wsX8_round := (sbX8_round_X8_round_r6 _ (memL 2 rfl))
theorem mwX8_round_101 : (.methodLink RX2 69 yX2_timeOrder : Cond) ∈ wsX8_round := (sbX8_round_X8_round_r6 _ (memL 1 rfl))
theorem mwX8_round_102 : (.code yX2_isTriedFirst cX2_isTriedFirst 3 (some .boolean) : Cond) ∈ wsX8_round := (sbX8_round_X8_round_r6 _ (memL 0 rfl))
theorem mwX8_round_103 : (.selects RX2 yX2_isTriedFirst yX2_isTriedFirst : Cond) ∈ wsX8_round := (sbX8_round_X8_round_r5 _ (memL 23 rfl))
theorem mwX8_round_104 : (.instanceMethod yX2_isTriedFirst : Cond) ∈ wsX8_round := (sbX8_round_X8_round_r5 _ (memL 22 rfl))
theorem mwX8_round_105 : (.methodLink RX2 175 yX2_isTriedFirst : Cond) ∈ wsX8_round := (sbX8_round_X8_round_r5 _ (memL 21 rfl))
theorem mwX8_round_106 : (.code yX2_lowestNext cX2_lowestNext 6 (some .int) : Cond) ∈ wsX8_round := (sbX8_round_X8_round_r5 _ (memL 20 rfl))
theorem mwX8_round_107 : (.selects RX2 yX2_lowestNext yX2_lowestNext : Cond) ∈ wsX8_round := (sbX8_round_X8_round_r5 _ (memL 19 rfl))
theorem mwX8_round_108 : (.instanceMethod yX2_lowestNext : Cond) ∈ wsX8_round := (sbX8_round_X8_round_r5 _ (memL 18 rfl))
theorem mwX8_round_109 : (.methodLink RX2 185 yX2_lowestNext : Cond) ∈ wsX8_round := (sbX8_round_X8_round_r5 _ (memL 17 rfl))
theorem mwX8_round_110 : (.code yX2_tryFirstOrder cX2_tryFirstOrder 9 (some .int) : Cond) ∈ wsX8_round := (sbX8_round_X8_round_r5 _ (memL 16 rfl))
theorem mwX8_round_111 : (.selects RX2 yX2_tryFirstOrder yX2_tryFirstOrder : Cond) ∈ wsX8_round := (sbX8_round_X8_round_r5 _ (memL 15 rfl))
theorem mwX8_round_112 : (.instanceMethod yX2_tryFirstOrder : Cond) ∈ wsX8_round := (sbX8_round_X8_round_r5 _ (memL 14 rfl))
theorem mwX8_round_113 : (.methodLink RX2 171 yX2_tryFirstOrder : Cond) ∈ wsX8_round := (sbX8_round_X8_round_r5 _ (memL 13 rfl))
theorem mwX8_round_114 : (.initialized "java/lang/System" : Cond) ∈ wsX8_round := (sbX8_round_X8_round_r5 _ (memL 12 rfl))
theorem mwX8_round_115 : (.static arraycopyName : Cond) ∈ wsX8_round := (sbX8_round_X8_round_r5 _ (memL 11 rfl))
theorem mwX8_round_116 : (.native arraycopyName : Cond) ∈ wsX8_round := (sbX8_round_X8_round_r5 _ (memL 10 rfl))
theorem mwX8_round_117 : (.methodLink RX2 179 arraycopyName : Cond) ∈ wsX8_round := (sbX8_round_X8_round_r5 _ (memL 9 rfl))
theorem mwX8_round_118 : (.fieldLink RX2 42 "BuoyTender$Planner" "order" "[I" : Cond) ∈ wsX8_round := (sbX8_round_X8_round_r5 _ (memL 8 rfl))
set_option maxRecDepth 20000 in
theorem sbX8_round_X2_plan_r5 : SubW wsX2_plan_r5 wsX8_round := (subW_cons mwX8_round_118 (subW_cons mwX8_round_117 (subW_cons mwX8_round_116 (subW_cons mwX8_round_115 (subW_cons mwX8_round_114 (subW_cons mwX8_round_113 (subW_cons mwX8_round_112 (subW_cons mwX8_round_111 (subW_cons mwX8_round_110 (subW_cons mwX8_round_109 (subW_cons mwX8_round_108 (subW_cons mwX8_round_107 (subW_cons mwX8_round_106 (subW_cons mwX8_round_105 (subW_cons mwX8_round_104 (subW_cons mwX8_round_103 (subW_cons mwX8_round_102 (subW_cons mwX8_round_101 (subW_cons mwX8_round_100 (subW_cons mwX8_round_99 (subW_cons mwX8_round_98 (subW_cons mwX8_round_97 subW_nil))))))))))))))))))))))
set_option maxRecDepth 20000 in
theorem sbX8_round_X20 : SubW wsX20 wsX8_round := fun _ h => (List.mem_cons_of_mem _ (List.mem_append_left _ (List.mem_append_left _ (List.mem_append_right _ h))))
set_option maxRecDepth 20000 in
theorem sbX8_round_X10 : SubW wsX10 wsX8_round := fun _ h => (List.mem_cons_of_mem _ (List.mem_append_left _ (List.mem_append_right _ h)))
set_option maxRecDepth 20000 in
theorem sbX8_round_X40 : SubW wsX40 wsX8_round := fun _ h => (List.mem_cons_of_mem _ (List.mem_append_right _ h))
set_option maxRecDepth 20000 in
theorem sbX8_round_X2_plan : SubW wsX2_plan wsX8_round := (subW_cons mwX8_round_0 (subW_app (subW_app (subW_app (subW_app sbX8_round_X2_plan_r1 (subW_app sbX8_round_X2_plan_r2 (subW_app sbX8_round_X2_plan_r3 (subW_app sbX8_round_X2_plan_r4 sbX8_round_X2_plan_r5)))) sbX8_round_X20) sbX8_round_X10) sbX8_round_X40))
set_option maxRecDepth 20000 in
theorem gw_wsX8_round_r1 : goodW wsX8_round_r1 := (goodW_of (by decide +kernel))
set_option maxRecDepth 20000 in
theorem gw_wsX8_round_r2 : goodW wsX8_round_r2 := (goodW_of (by decide +kernel))
set_option maxRecDepth 20000 in
theorem gw_wsX8_round_r3 : goodW wsX8_round_r3 := (goodW_of (by decide +kernel))
set_option maxRecDepth 20000 in
theorem gw_wsX8_round_r4 : goodW wsX8_round_r4 := (goodW_of (by decide +kernel))
set_option maxRecDepth 20000 in
theorem gw_wsX8_round_r5 : goodW wsX8_round_r5 := (goodW_of (by decide +kernel))
set_option maxRecDepth 20000 in
theorem gw_wsX8_round_r6 : goodW wsX8_round_r6 := (goodW_of (by decide +kernel))
set_option maxRecDepth 20000 in
theorem gw_wsX8_round : goodW wsX8_round := (goodW_cons rfl (goodW_app (goodW_app (goodW_app (goodW_app (goodW_app gw_wsX8_round_r1 (goodW_app gw_wsX8_round_r2 (goodW_app gw_wsX8_round_r3 (goodW_app gw_wsX8_round_r4 (goodW_app gw_wsX8_round_r5 gw_wsX8_round_r6))))) gw_wsX80) gw_wsX20) gw_wsX10) gw_wsX40))
theorem ggX8_round_X2_plan : GoodIn wsX8_round wsX2_plan := goodIn_W gw_wsX8_round sbX8_round_X2_plan
set_option maxRecDepth 20000 in
theorem gX8_round_X2_plan_n252 : GoodIn wsX8_round (wsX2_plan) := ggX8_round_X2_plan
theorem mwX8_round_119 : (.code yX2_loadDone cX2_loadDone 3 (some .int) : Cond) ∈ wsX8_round := (sbX8_round_X8_round_r6 _ (memL 8 rfl))
set_option maxRecDepth 20000 in
theorem sbX8_round_X2_loadDone : SubW wsX2_loadDone wsX8_round := (subW_cons mwX8_round_119 (subW_app (subW_cons mwX8_round_74 (subW_cons mwX8_round_16 (subW_cons mwX8_round_118 subW_nil))) sbX8_round_X20))
theorem ggX8_round_X2_loadDone : GoodIn wsX8_round wsX2_loadDone := goodIn_W gw_wsX8_round sbX8_round_X2_loadDone
set_option maxRecDepth 20000 in
theorem gX8_round_X2_loadDone_n265 : GoodIn wsX8_round (wsX2_loadDone) := ggX8_round_X2_loadDone
theorem mwX8_round_120 : (.code yX2_step cX2_step 2 (some .int) : Cond) ∈ wsX8_round := (sbX8_round_X8_round_r6 _ (memL 11 rfl))
set_option maxRecDepth 20000 in
theorem sbX8_round_X2_step : SubW wsX2_step wsX8_round := (subW_cons mwX8_round_120 (subW_app (subW_cons mwX8_round_74 (subW_cons mwX8_round_18 (subW_cons mwX8_round_118 (subW_cons mwX8_round_97 subW_nil)))) sbX8_round_X20))
theorem ggX8_round_X2_step : GoodIn wsX8_round wsX2_step := goodIn_W gw_wsX8_round sbX8_round_X2_step
set_option maxRecDepth 20000 in
theorem gX8_round_X2_step_n268 : GoodIn wsX8_round (wsX2_step) := ggX8_round_X2_step
theorem dX8_round_0 : decode cX8_round 0 = .ok (.aload_n 0, 1) := by decide +kernel
theorem dX8_round_1 : decode cX8_round 1 = .ok (.getfield 65, 3) := by decide +kernel
theorem dX8_round_4 : decode cX8_round 4 = .ok (.ifCond .ne 27, 3) := by decide +kernel
theorem dX8_round_7 : decode cX8_round 7 = .ok (.aload_n 0, 1) := by decide +kernel
theorem dX8_round_8 : decode cX8_round 8 = .ok (.getfield 39, 3) := by decide +kernel
theorem dX8_round_11 : decode cX8_round 11 = .ok (.aload_n 0, 1) := by decide +kernel
theorem dX8_round_12 : decode cX8_round 12 = .ok (.getfield 15, 3) := by decide +kernel
theorem dX8_round_15 : decode cX8_round 15 = .ok (.aload_n 0, 1) := by decide +kernel
theorem dX8_round_16 : decode cX8_round 16 = .ok (.getfield 9, 3) := by decide +kernel
theorem dX8_round_19 : decode cX8_round 19 = .ok (.aload_n 0, 1) := by decide +kernel
theorem dX8_round_20 : decode cX8_round 20 = .ok (.getfield 32, 3) := by decide +kernel
theorem dX8_round_23 : decode cX8_round 23 = .ok (.invokevirtual 252, 3) := by decide +kernel
theorem dX8_round_26 : decode cX8_round 26 = .ok (.aload_n 0, 1) := by decide +kernel
theorem dX8_round_27 : decode cX8_round 27 = .ok (.iconst 1, 1) := by decide +kernel
theorem dX8_round_28 : decode cX8_round 28 = .ok (.putfield 65, 3) := by decide +kernel
theorem dX8_round_31 : decode cX8_round 31 = .ok (.iload_n 1, 1) := by decide +kernel
theorem dX8_round_32 : decode cX8_round 32 = .ok (.tableswitch 64 0 3 #[32, 40, 48, 56], 32) := by decide +kernel
theorem dX8_round_64 : decode cX8_round 64 = .ok (.aload_n 0, 1) := by decide +kernel
theorem dX8_round_65 : decode cX8_round 65 = .ok (.getfield 39, 3) := by decide +kernel
theorem dX8_round_68 : decode cX8_round 68 = .ok (.getfield 256, 3) := by decide +kernel
theorem dX8_round_71 : decode cX8_round 71 = .ok (.ireturn, 1) := by decide +kernel
theorem dX8_round_72 : decode cX8_round 72 = .ok (.aload_n 0, 1) := by decide +kernel
theorem dX8_round_73 : decode cX8_round 73 = .ok (.getfield 39, 3) := by decide +kernel
theorem dX8_round_76 : decode cX8_round 76 = .ok (.getfield 259, 3) := by decide +kernel
theorem dX8_round_79 : decode cX8_round 79 = .ok (.ireturn, 1) := by decide +kernel
theorem dX8_round_80 : decode cX8_round 80 = .ok (.aload_n 0, 1) := by decide +kernel
theorem dX8_round_81 : decode cX8_round 81 = .ok (.getfield 39, 3) := by decide +kernel
theorem dX8_round_84 : decode cX8_round 84 = .ok (.getfield 262, 3) := by decide +kernel
theorem dX8_round_87 : decode cX8_round 87 = .ok (.ireturn, 1) := by decide +kernel
theorem dX8_round_88 : decode cX8_round 88 = .ok (.aload_n 0, 1) := by decide +kernel
theorem dX8_round_89 : decode cX8_round 89 = .ok (.getfield 39, 3) := by decide +kernel
theorem dX8_round_92 : decode cX8_round 92 = .ok (.invokevirtual 265, 3) := by decide +kernel
theorem dX8_round_95 : decode cX8_round 95 = .ok (.ireturn, 1) := by decide +kernel
theorem dX8_round_96 : decode cX8_round 96 = .ok (.aload_n 0, 1) := by decide +kernel
theorem dX8_round_97 : decode cX8_round 97 = .ok (.getfield 39, 3) := by decide +kernel
theorem dX8_round_100 : decode cX8_round 100 = .ok (.iload_n 1, 1) := by decide +kernel
theorem dX8_round_101 : decode cX8_round 101 = .ok (.invokevirtual 268, 3) := by decide +kernel
theorem dX8_round_104 : decode cX8_round 104 = .ok (.ireturn, 1) := by decide +kernel
theorem mwX8_about_0 : (.code yX8_jobCount cX8_jobCount 4 (some .int) : Cond) ∈ wsX8_about := (List.mem_cons_of_mem _ (List.mem_append_left _ (List.mem_append_left _ (List.mem_append_left _ (List.mem_append_left _ (memL 9 rfl))))))
theorem mwX8_about_1 : (.fieldLink RX8 15 "BuoyTender" "marks" "[LBuoyTender$Mark;" : Cond) ∈ wsX8_about := (List.mem_cons_of_mem _ (List.mem_append_left _ (List.mem_append_left _ (List.mem_append_left _ (List.mem_append_left _ (memL 14 rfl))))))
theorem mwX8_about_2 : (.code yX8_known cX8_known 2 (some (.object "BuoyTender$Mark")) : Cond) ∈ wsX8_about := (List.mem_cons_of_mem _ (List.mem_append_left _ (List.mem_append_left _ (List.mem_append_left _ (List.mem_append_left _ (memL 13 rfl))))))
theorem mwX8_about_3 : (.initialized RX8 : Cond) ∈ wsX8_about := (List.mem_cons_of_mem _ (List.mem_append_left _ (List.mem_append_left _ (List.mem_append_left _ (List.mem_append_left _ (memL 8 rfl))))))
theorem mwX8_about_4 : (.selects RX8 yX8_known yX8_known : Cond) ∈ wsX8_about := (List.mem_cons_of_mem _ (List.mem_append_left _ (List.mem_append_left _ (List.mem_append_left _ (List.mem_append_left _ (memL 12 rfl))))))
theorem mwX8_about_5 : (.instanceMethod yX8_known : Cond) ∈ wsX8_about := (List.mem_cons_of_mem _ (List.mem_append_left _ (List.mem_append_left _ (List.mem_append_left _ (List.mem_append_left _ (memL 11 rfl))))))
theorem mwX8_about_6 : (.methodLink RX8 76 yX8_known : Cond) ∈ wsX8_about := (List.mem_cons_of_mem _ (List.mem_append_left _ (List.mem_append_left _ (List.mem_append_left _ (List.mem_append_left _ (memL 10 rfl))))))
theorem mwX8_about_7 : (.fieldLink RX8 69 "BuoyTender" "markCount" "I" : Cond) ∈ wsX8_about := (List.mem_cons_of_mem _ (List.mem_append_left _ (List.mem_append_left _ (List.mem_append_left _ (List.mem_append_left _ (memL 0 rfl))))))
set_option maxRecDepth 20000 in
theorem sbX8_about_X80 : SubW wsX80 wsX8_about := fun _ h => (List.mem_cons_of_mem _ (List.mem_append_left _ (List.mem_append_left _ (List.mem_append_left _ (List.mem_append_right _ h)))))
set_option maxRecDepth 20000 in
theorem sbX8_about_X10 : SubW wsX10 wsX8_about := fun _ h => (List.mem_cons_of_mem _ (List.mem_append_right _ h))
set_option maxRecDepth 20000 in
theorem sbX8_about_X8_jobCount : SubW wsX8_jobCount wsX8_about := (subW_cons mwX8_about_0 (subW_app (subW_app (subW_cons mwX8_about_7 (subW_cons mwX8_about_6 (subW_cons mwX8_about_5 (subW_cons mwX8_about_4 (subW_cons mwX8_about_3 (subW_cons mwX8_about_2 (subW_cons mwX8_about_1 subW_nil))))))) sbX8_about_X80) sbX8_about_X10))
set_option maxRecDepth 20000 in
theorem gw_wsX8_about : goodW wsX8_about := (goodW_cons rfl (goodW_app (goodW_app (goodW_app (goodW_app (goodW_of (by decide +kernel)) gw_wsX80) gw_wsX70) gw_wsX40) gw_wsX10))
theorem ggX8_about_X8_jobCount : GoodIn wsX8_about wsX8_jobCount := goodIn_W gw_wsX8_about sbX8_about_X8_jobCount
theorem mwX8_about_8 : (.selects RX8 yX8_jobCount yX8_jobCount : Cond) ∈ wsX8_about := (List.mem_cons_of_mem _ (List.mem_append_left _ (List.mem_append_left _ (List.mem_append_left _ (List.mem_append_left _ (memL 7 rfl))))))
theorem mwX8_about_9 : (.instanceMethod yX8_jobCount : Cond) ∈ wsX8_about := (List.mem_cons_of_mem _ (List.mem_append_left _ (List.mem_append_left _ (List.mem_append_left _ (List.mem_append_left _ (memL 6 rfl))))))
theorem mwX8_about_10 : (.methodLink RX8 274 yX8_jobCount : Cond) ∈ wsX8_about := (List.mem_cons_of_mem _ (List.mem_append_left _ (List.mem_append_left _ (List.mem_append_left _ (List.mem_append_left _ (memL 5 rfl))))))
theorem gX8_about_X8_jobCount : GoodIn wsX8_about (wsV RX8 274 RX8 yX8_jobCount wsX8_jobCount) := goodIn_W gw_wsX8_about (subW_app (subW_cons mwX8_about_10 (subW_cons mwX8_about_9 (subW_cons mwX8_about_8 (subW_cons mwX8_about_3 subW_nil)))) sbX8_about_X8_jobCount)
theorem dX8_about_0 : decode cX8_about 0 = .ok (.iload_n 1, 1) := by decide +kernel
theorem dX8_about_1 : decode cX8_about 1 = .ok (.tableswitch 75 0 5 #[39, 44, 49, 57, 62, 67], 39) := by decide +kernel
theorem dX8_about_40 : decode cX8_about 40 = .ok (.aload_n 0, 1) := by decide +kernel
theorem dX8_about_41 : decode cX8_about 41 = .ok (.getfield 69, 3) := by decide +kernel
theorem dX8_about_44 : decode cX8_about 44 = .ok (.ireturn, 1) := by decide +kernel
theorem dX8_about_45 : decode cX8_about 45 = .ok (.aload_n 0, 1) := by decide +kernel
theorem dX8_about_46 : decode cX8_about 46 = .ok (.getfield 120, 3) := by decide +kernel
theorem dX8_about_49 : decode cX8_about 49 = .ok (.ireturn, 1) := by decide +kernel
theorem dX8_about_50 : decode cX8_about 50 = .ok (.aload_n 0, 1) := by decide +kernel
theorem dX8_about_51 : decode cX8_about 51 = .ok (.getfield 25, 3) := by decide +kernel
theorem dX8_about_54 : decode cX8_about 54 = .ok (.getfield 271, 3) := by decide +kernel
theorem dX8_about_57 : decode cX8_about 57 = .ok (.ireturn, 1) := by decide +kernel
theorem dX8_about_58 : decode cX8_about 58 = .ok (.aload_n 0, 1) := by decide +kernel
theorem dX8_about_59 : decode cX8_about 59 = .ok (.getfield 178, 3) := by decide +kernel
theorem dX8_about_62 : decode cX8_about 62 = .ok (.ireturn, 1) := by decide +kernel
theorem dX8_about_63 : decode cX8_about 63 = .ok (.aload_n 0, 1) := by decide +kernel
theorem dX8_about_64 : decode cX8_about 64 = .ok (.invokevirtual 274, 3) := by decide +kernel
theorem dX8_about_67 : decode cX8_about 67 = .ok (.ireturn, 1) := by decide +kernel
theorem dX8_about_68 : decode cX8_about 68 = .ok (.aload_n 0, 1) := by decide +kernel
theorem dX8_about_69 : decode cX8_about 69 = .ok (.getfield 32, 3) := by decide +kernel
theorem dX8_about_72 : decode cX8_about 72 = .ok (.getfield 250, 3) := by decide +kernel
theorem dX8_about_75 : decode cX8_about 75 = .ok (.ireturn, 1) := by decide +kernel
theorem dX8_about_76 : decode cX8_about 76 = .ok (.iconst (-1), 1) := by decide +kernel
theorem dX8_about_77 : decode cX8_about 77 = .ok (.ireturn, 1) := by decide +kernel
theorem dX8_within_0 : decode cX8_within 0 = .ok (.iload_n 0, 1) := by decide +kernel
theorem dX8_within_1 : decode cX8_within 1 = .ok (.iload_n 1, 1) := by decide +kernel
theorem dX8_within_2 : decode cX8_within 2 = .ok (.if_icmp .lt 12, 3) := by decide +kernel
theorem dX8_within_5 : decode cX8_within 5 = .ok (.iload_n 0, 1) := by decide +kernel
theorem dX8_within_6 : decode cX8_within 6 = .ok (.iload_n 2, 1) := by decide +kernel
theorem dX8_within_7 : decode cX8_within 7 = .ok (.if_icmp .gt 7, 3) := by decide +kernel
theorem dX8_within_10 : decode cX8_within 10 = .ok (.iconst 1, 1) := by decide +kernel
theorem dX8_within_11 : decode cX8_within 11 = .ok (.goto 4, 3) := by decide +kernel
theorem dX8_within_14 : decode cX8_within 14 = .ok (.iconst 0, 1) := by decide +kernel
theorem dX8_within_15 : decode cX8_within 15 = .ok (.ireturn, 1) := by decide +kernel
theorem mwX8_isPlace_0 : (.code yX8_within cX8_within 3 (some .boolean) : Cond) ∈ wsX8_isPlace := (List.mem_cons_of_mem _ (memL 3 rfl))
set_option maxRecDepth 20000 in
theorem sbX8_isPlace_X8_within : SubW wsX8_within wsX8_isPlace := (subW_cons mwX8_isPlace_0 subW_nil)
set_option maxRecDepth 20000 in
theorem gw_wsX8_isPlace : goodW wsX8_isPlace := (goodW_cons rfl (goodW_of (by decide +kernel)))
theorem ggX8_isPlace_X8_within : GoodIn wsX8_isPlace wsX8_within := goodIn_W gw_wsX8_isPlace sbX8_isPlace_X8_within
theorem mwX8_isPlace_1 : (.initialized RX8 : Cond) ∈ wsX8_isPlace := (List.mem_cons_of_mem _ (memL 2 rfl))
theorem mwX8_isPlace_2 : (.static yX8_within : Cond) ∈ wsX8_isPlace := (List.mem_cons_of_mem _ (memL 1 rfl))
theorem mwX8_isPlace_3 : (.methodLink RX8 61 yX8_within : Cond) ∈ wsX8_isPlace := (List.mem_cons_of_mem _ (memL 0 rfl))
theorem gX8_isPlace_X8_within : GoodIn wsX8_isPlace (va_wsS RX8 61 yX8_within wsX8_within) := goodIn_W gw_wsX8_isPlace (subW_app (subW_cons mwX8_isPlace_3 (subW_cons mwX8_isPlace_2 (subW_cons mwX8_isPlace_1 subW_nil))) sbX8_isPlace_X8_within)
theorem dX8_isPlace_0 : decode cX8_isPlace 0 = .ok (.iload_n 0, 1) := by decide +kernel
theorem dX8_isPlace_1 : decode cX8_isPlace 1 = .ok (.iconst 0, 1) := by decide +kernel
theorem dX8_isPlace_2 : decode cX8_isPlace 2 = .ok (.bipush 39, 2) := by decide +kernel
theorem dX8_isPlace_4 : decode cX8_isPlace 4 = .ok (.invokestatic 61, 3) := by decide +kernel
theorem dX8_isPlace_7 : decode cX8_isPlace 7 = .ok (.ifCond .eq 17, 3) := by decide +kernel
theorem dX8_isPlace_10 : decode cX8_isPlace 10 = .ok (.iload_n 1, 1) := by decide +kernel
theorem dX8_isPlace_11 : decode cX8_isPlace 11 = .ok (.iconst 0, 1) := by decide +kernel
theorem dX8_isPlace_12 : decode cX8_isPlace 12 = .ok (.bipush 39, 2) := by decide +kernel
theorem dX8_isPlace_14 : decode cX8_isPlace 14 = .ok (.invokestatic 61, 3) := by decide +kernel
theorem dX8_isPlace_17 : decode cX8_isPlace 17 = .ok (.ifCond .eq 7, 3) := by decide +kernel
theorem dX8_isPlace_20 : decode cX8_isPlace 20 = .ok (.iconst 1, 1) := by decide +kernel
theorem dX8_isPlace_21 : decode cX8_isPlace 21 = .ok (.goto 4, 3) := by decide +kernel
theorem dX8_isPlace_24 : decode cX8_isPlace 24 = .ok (.iconst 0, 1) := by decide +kernel
theorem dX8_isPlace_25 : decode cX8_isPlace 25 = .ok (.ireturn, 1) := by decide +kernel
theorem mwX8_isWay_0 : (.code yX8_within cX8_within 3 (some .boolean) : Cond) ∈ wsX8_isWay := (List.mem_cons_of_mem _ (memL 3 rfl))
set_option maxRecDepth 20000 in
theorem sbX8_isWay_X8_within : SubW wsX8_within wsX8_isWay := (subW_cons mwX8_isWay_0 subW_nil)
set_option maxRecDepth 20000 in
theorem gw_wsX8_isWay : goodW wsX8_isWay := (goodW_cons rfl (goodW_of (by decide +kernel)))
theorem ggX8_isWay_X8_within : GoodIn wsX8_isWay wsX8_within := goodIn_W gw_wsX8_isWay sbX8_isWay_X8_within
theorem mwX8_isWay_1 : (.initialized RX8 : Cond) ∈ wsX8_isWay := (List.mem_cons_of_mem _ (memL 2 rfl))
theorem mwX8_isWay_2 : (.static yX8_within : Cond) ∈ wsX8_isWay := (List.mem_cons_of_mem _ (memL 1 rfl))
theorem mwX8_isWay_3 : (.methodLink RX8 61 yX8_within : Cond) ∈ wsX8_isWay := (List.mem_cons_of_mem _ (memL 0 rfl))
theorem gX8_isWay_X8_within : GoodIn wsX8_isWay (va_wsS RX8 61 yX8_within wsX8_within) := goodIn_W gw_wsX8_isWay (subW_app (subW_cons mwX8_isWay_3 (subW_cons mwX8_isWay_2 (subW_cons mwX8_isWay_1 subW_nil))) sbX8_isWay_X8_within)
theorem dX8_isWay_0 : decode cX8_isWay 0 = .ok (.iload_n 0, 1) := by decide +kernel
theorem dX8_isWay_1 : decode cX8_isWay 1 = .ok (.sipush (-1000), 3) := by decide +kernel
theorem dX8_isWay_4 : decode cX8_isWay 4 = .ok (.sipush 1000, 3) := by decide +kernel
theorem dX8_isWay_7 : decode cX8_isWay 7 = .ok (.invokestatic 61, 3) := by decide +kernel
theorem dX8_isWay_10 : decode cX8_isWay 10 = .ok (.ifCond .eq 28, 3) := by decide +kernel
theorem dX8_isWay_13 : decode cX8_isWay 13 = .ok (.iload_n 1, 1) := by decide +kernel
theorem dX8_isWay_14 : decode cX8_isWay 14 = .ok (.sipush (-1000), 3) := by decide +kernel
theorem dX8_isWay_17 : decode cX8_isWay 17 = .ok (.sipush 1000, 3) := by decide +kernel
theorem dX8_isWay_20 : decode cX8_isWay 20 = .ok (.invokestatic 61, 3) := by decide +kernel
theorem dX8_isWay_23 : decode cX8_isWay 23 = .ok (.ifCond .eq 15, 3) := by decide +kernel
theorem dX8_isWay_26 : decode cX8_isWay 26 = .ok (.iload_n 0, 1) := by decide +kernel
theorem dX8_isWay_27 : decode cX8_isWay 27 = .ok (.ifCond .ne 7, 3) := by decide +kernel
theorem dX8_isWay_30 : decode cX8_isWay 30 = .ok (.iload_n 1, 1) := by decide +kernel
theorem dX8_isWay_31 : decode cX8_isWay 31 = .ok (.ifCond .eq 7, 3) := by decide +kernel
theorem dX8_isWay_34 : decode cX8_isWay 34 = .ok (.iconst 1, 1) := by decide +kernel
theorem dX8_isWay_35 : decode cX8_isWay 35 = .ok (.goto 4, 3) := by decide +kernel
theorem dX8_isWay_38 : decode cX8_isWay 38 = .ok (.iconst 0, 1) := by decide +kernel
theorem dX8_isWay_39 : decode cX8_isWay 39 = .ok (.ireturn, 1) := by decide +kernel
theorem dX8_squareBetween_0 : decode cX8_squareBetween 0 = .ok (.iload_n 0, 1) := by decide +kernel
theorem dX8_squareBetween_1 : decode cX8_squareBetween 1 = .ok (.iload_n 2, 1) := by decide +kernel
theorem dX8_squareBetween_2 : decode cX8_squareBetween 2 = .ok (.isub, 1) := by decide +kernel
theorem dX8_squareBetween_3 : decode cX8_squareBetween 3 = .ok (.iload_n 0, 1) := by decide +kernel
theorem dX8_squareBetween_4 : decode cX8_squareBetween 4 = .ok (.iload_n 2, 1) := by decide +kernel
theorem dX8_squareBetween_5 : decode cX8_squareBetween 5 = .ok (.isub, 1) := by decide +kernel
theorem dX8_squareBetween_6 : decode cX8_squareBetween 6 = .ok (.imul, 1) := by decide +kernel
theorem dX8_squareBetween_7 : decode cX8_squareBetween 7 = .ok (.iload_n 1, 1) := by decide +kernel
theorem dX8_squareBetween_8 : decode cX8_squareBetween 8 = .ok (.iload_n 3, 1) := by decide +kernel
theorem dX8_squareBetween_9 : decode cX8_squareBetween 9 = .ok (.isub, 1) := by decide +kernel
theorem dX8_squareBetween_10 : decode cX8_squareBetween 10 = .ok (.iload_n 1, 1) := by decide +kernel
theorem dX8_squareBetween_11 : decode cX8_squareBetween 11 = .ok (.iload_n 3, 1) := by decide +kernel
theorem dX8_squareBetween_12 : decode cX8_squareBetween 12 = .ok (.isub, 1) := by decide +kernel
theorem dX8_squareBetween_13 : decode cX8_squareBetween 13 = .ok (.imul, 1) := by decide +kernel
theorem dX8_squareBetween_14 : decode cX8_squareBetween 14 = .ok (.iadd, 1) := by decide +kernel
theorem dX8_squareBetween_15 : decode cX8_squareBetween 15 = .ok (.ireturn, 1) := by decide +kernel
theorem dX8_known_0 : decode cX8_known 0 = .ok (.iload_n 1, 1) := by decide +kernel
theorem dX8_known_1 : decode cX8_known 1 = .ok (.ifCond .lt 29, 3) := by decide +kernel
theorem dX8_known_4 : decode cX8_known 4 = .ok (.iload_n 1, 1) := by decide +kernel
theorem dX8_known_5 : decode cX8_known 5 = .ok (.aload_n 0, 1) := by decide +kernel
theorem dX8_known_6 : decode cX8_known 6 = .ok (.getfield 69, 3) := by decide +kernel
theorem dX8_known_9 : decode cX8_known 9 = .ok (.if_icmp .ge 21, 3) := by decide +kernel
theorem dX8_known_12 : decode cX8_known 12 = .ok (.iload_n 1, 1) := by decide +kernel
theorem dX8_known_13 : decode cX8_known 13 = .ok (.aload_n 0, 1) := by decide +kernel
theorem dX8_known_14 : decode cX8_known 14 = .ok (.getfield 15, 3) := by decide +kernel
theorem dX8_known_17 : decode cX8_known 17 = .ok (.arraylength, 1) := by decide +kernel
theorem dX8_known_18 : decode cX8_known 18 = .ok (.if_icmp .ge 12, 3) := by decide +kernel
theorem dX8_known_21 : decode cX8_known 21 = .ok (.aload_n 0, 1) := by decide +kernel
theorem dX8_known_22 : decode cX8_known 22 = .ok (.getfield 15, 3) := by decide +kernel
theorem dX8_known_25 : decode cX8_known 25 = .ok (.iload_n 1, 1) := by decide +kernel
theorem dX8_known_26 : decode cX8_known 26 = .ok (.aaload, 1) := by decide +kernel
theorem dX8_known_27 : decode cX8_known 27 = .ok (.goto 4, 3) := by decide +kernel
theorem dX8_known_30 : decode cX8_known 30 = .ok (.aconst_null, 1) := by decide +kernel
theorem dX8_known_31 : decode cX8_known 31 = .ok (.areturn, 1) := by decide +kernel
theorem dX8_thisMonth_0 : decode cX8_thisMonth 0 = .ok (.aload_n 0, 1) := by decide +kernel
theorem dX8_thisMonth_1 : decode cX8_thisMonth 1 = .ok (.getfield 120, 3) := by decide +kernel
theorem dX8_thisMonth_4 : decode cX8_thisMonth 4 = .ok (.bipush 30, 2) := by decide +kernel
theorem dX8_thisMonth_6 : decode cX8_thisMonth 6 = .ok (.idiv, 1) := by decide +kernel
theorem dX8_thisMonth_7 : decode cX8_thisMonth 7 = .ok (.ireturn, 1) := by decide +kernel
theorem mwX8_surveyed_0 : (.code yX6_how cX6_how 1 (some .int) : Cond) ∈ wsX8_surveyed := (List.mem_cons_of_mem _ (List.mem_append_left _ (List.mem_append_left _ (memL 4 rfl))))
theorem mwX8_surveyed_1 : (.fieldLink RX6 15 "BuoyTender$Survey" "inRadius" "I" : Cond) ∈ wsX8_surveyed := (List.mem_cons_of_mem _ (List.mem_append_left _ (List.mem_append_left _ (memL 6 rfl))))
theorem mwX8_surveyed_2 : (.fieldLink RX6 9 "BuoyTender$Survey" "left" "I" : Cond) ∈ wsX8_surveyed := (List.mem_cons_of_mem _ (List.mem_append_left _ (List.mem_append_left _ (memL 5 rfl))))
set_option maxRecDepth 20000 in
theorem sbX8_surveyed_X60 : SubW wsX60 wsX8_surveyed := fun _ h => (List.mem_cons_of_mem _ (List.mem_append_right _ h))
set_option maxRecDepth 20000 in
theorem sbX8_surveyed_X6_how : SubW wsX6_how wsX8_surveyed := (subW_cons mwX8_surveyed_0 (subW_app (subW_cons mwX8_surveyed_2 (subW_cons mwX8_surveyed_1 subW_nil)) sbX8_surveyed_X60))
set_option maxRecDepth 20000 in
theorem gw_wsX8_surveyed : goodW wsX8_surveyed := (goodW_cons rfl (goodW_app (goodW_app (goodW_of (by decide +kernel)) gw_wsX80) gw_wsX60))
theorem ggX8_surveyed_X6_how : GoodIn wsX8_surveyed wsX6_how := goodIn_W gw_wsX8_surveyed sbX8_surveyed_X6_how
set_option maxRecDepth 20000 in
theorem gX8_surveyed_X6_how_n277 : GoodIn wsX8_surveyed (wsX6_how) := ggX8_surveyed_X6_how
theorem dX8_surveyed_0 : decode cX8_surveyed 0 = .ok (.iload_n 1, 1) := by decide +kernel
theorem dX8_surveyed_1 : decode cX8_surveyed 1 = .ok (.tableswitch 95 0 5 #[39, 55, 63, 71, 79, 87], 39) := by decide +kernel
theorem dX8_surveyed_40 : decode cX8_surveyed 40 = .ok (.iload_n 2, 1) := by decide +kernel
theorem dX8_surveyed_41 : decode cX8_surveyed 41 = .ok (.ifCond .eq 13, 3) := by decide +kernel
theorem dX8_surveyed_44 : decode cX8_surveyed 44 = .ok (.aload_n 0, 1) := by decide +kernel
theorem dX8_surveyed_45 : decode cX8_surveyed 45 = .ok (.getfield 46, 3) := by decide +kernel
theorem dX8_surveyed_48 : decode cX8_surveyed 48 = .ok (.invokevirtual 277, 3) := by decide +kernel
theorem dX8_surveyed_51 : decode cX8_surveyed 51 = .ok (.goto 4, 3) := by decide +kernel
theorem dX8_surveyed_54 : decode cX8_surveyed 54 = .ok (.iconst 0, 1) := by decide +kernel
theorem dX8_surveyed_55 : decode cX8_surveyed 55 = .ok (.ireturn, 1) := by decide +kernel
theorem dX8_surveyed_56 : decode cX8_surveyed 56 = .ok (.aload_n 0, 1) := by decide +kernel
theorem dX8_surveyed_57 : decode cX8_surveyed 57 = .ok (.getfield 46, 3) := by decide +kernel
theorem dX8_surveyed_60 : decode cX8_surveyed 60 = .ok (.getfield 280, 3) := by decide +kernel
theorem dX8_surveyed_63 : decode cX8_surveyed 63 = .ok (.ireturn, 1) := by decide +kernel
theorem dX8_surveyed_64 : decode cX8_surveyed 64 = .ok (.aload_n 0, 1) := by decide +kernel
theorem dX8_surveyed_65 : decode cX8_surveyed 65 = .ok (.getfield 46, 3) := by decide +kernel
theorem dX8_surveyed_68 : decode cX8_surveyed 68 = .ok (.getfield 283, 3) := by decide +kernel
theorem dX8_surveyed_71 : decode cX8_surveyed 71 = .ok (.ireturn, 1) := by decide +kernel
theorem dX8_surveyed_72 : decode cX8_surveyed 72 = .ok (.aload_n 0, 1) := by decide +kernel
theorem dX8_surveyed_73 : decode cX8_surveyed 73 = .ok (.getfield 46, 3) := by decide +kernel
theorem dX8_surveyed_76 : decode cX8_surveyed 76 = .ok (.getfield 286, 3) := by decide +kernel
theorem dX8_surveyed_79 : decode cX8_surveyed 79 = .ok (.ireturn, 1) := by decide +kernel
theorem dX8_surveyed_80 : decode cX8_surveyed 80 = .ok (.aload_n 0, 1) := by decide +kernel
theorem dX8_surveyed_81 : decode cX8_surveyed 81 = .ok (.getfield 46, 3) := by decide +kernel
theorem dX8_surveyed_84 : decode cX8_surveyed 84 = .ok (.getfield 289, 3) := by decide +kernel
theorem dX8_surveyed_87 : decode cX8_surveyed 87 = .ok (.ireturn, 1) := by decide +kernel
theorem dX8_surveyed_88 : decode cX8_surveyed 88 = .ok (.aload_n 0, 1) := by decide +kernel
theorem dX8_surveyed_89 : decode cX8_surveyed 89 = .ok (.getfield 46, 3) := by decide +kernel
theorem dX8_surveyed_92 : decode cX8_surveyed 92 = .ok (.getfield 292, 3) := by decide +kernel
theorem dX8_surveyed_95 : decode cX8_surveyed 95 = .ok (.ireturn, 1) := by decide +kernel
theorem dX8_surveyed_96 : decode cX8_surveyed 96 = .ok (.iconst (-1), 1) := by decide +kernel
theorem dX8_surveyed_97 : decode cX8_surveyed 97 = .ok (.ireturn, 1) := by decide +kernel
theorem sbX8_clashesNearby_X8_clashesNearby_r1 : SubW wsX8_clashesNearby_r1 wsX8_clashesNearby := fun _ h => (List.mem_cons_of_mem _ (List.mem_append_left _ (List.mem_append_left _ (List.mem_append_left _ (List.mem_append_left _ h)))))
theorem sbX8_clashesNearby_X8_clashesNearby_r2 : SubW wsX8_clashesNearby_r2 wsX8_clashesNearby := fun _ h => (List.mem_cons_of_mem _ (List.mem_append_left _ (List.mem_append_left _ (List.mem_append_left _ (List.mem_append_right _ h)))))
theorem mwX8_clashesNearby_0 : (.code yX8_known cX8_known 2 (some (.object "BuoyTender$Mark")) : Cond) ∈ wsX8_clashesNearby := (sbX8_clashesNearby_X8_clashesNearby_r1 _ (memL 7 rfl))
theorem mwX8_clashesNearby_1 : (.fieldLink RX8 15 "BuoyTender" "marks" "[LBuoyTender$Mark;" : Cond) ∈ wsX8_clashesNearby := (sbX8_clashesNearby_X8_clashesNearby_r1 _ (memL 8 rfl))
theorem mwX8_clashesNearby_2 : (.fieldLink RX8 69 "BuoyTender" "markCount" "I" : Cond) ∈ wsX8_clashesNearby := (sbX8_clashesNearby_X8_clashesNearby_r1 _ (memL 0 rfl))
set_option maxRecDepth 20000 in
theorem sbX8_clashesNearby_X80 : SubW wsX80 wsX8_clashesNearby := fun _ h => (List.mem_cons_of_mem _ (List.mem_append_left _ (List.mem_append_left _ (List.mem_append_right _ h))))
set_option maxRecDepth 20000 in
theorem sbX8_clashesNearby_X8_known : SubW wsX8_known wsX8_clashesNearby := (subW_cons mwX8_clashesNearby_0 (subW_app (subW_cons mwX8_clashesNearby_2 (subW_cons mwX8_clashesNearby_1 subW_nil)) sbX8_clashesNearby_X80))
set_option maxRecDepth 20000 in
theorem gw_wsX8_clashesNearby_r1 : goodW wsX8_clashesNearby_r1 := (goodW_of (by decide +kernel))
set_option maxRecDepth 20000 in
theorem gw_wsX8_clashesNearby_r2 : goodW wsX8_clashesNearby_r2 := (goodW_of (by decide +kernel))
set_option maxRecDepth 20000 in
theorem gw_wsX8_clashesNearby : goodW wsX8_clashesNearby := (goodW_cons rfl (goodW_app (goodW_app (goodW_app (goodW_app gw_wsX8_clashesNearby_r1 gw_wsX8_clashesNearby_r2) gw_wsX80) gw_wsX10) gw_wsX30))
theorem ggX8_clashesNearby_X8_known : GoodIn wsX8_clashesNearby wsX8_known := goodIn_W gw_wsX8_clashesNearby sbX8_clashesNearby_X8_known
theorem mwX8_clashesNearby_3 : (.initialized RX8 : Cond) ∈ wsX8_clashesNearby := (sbX8_clashesNearby_X8_clashesNearby_r1 _ (memL 6 rfl))
theorem mwX8_clashesNearby_4 : (.selects RX8 yX8_known yX8_known : Cond) ∈ wsX8_clashesNearby := (sbX8_clashesNearby_X8_clashesNearby_r1 _ (memL 5 rfl))
theorem mwX8_clashesNearby_5 : (.instanceMethod yX8_known : Cond) ∈ wsX8_clashesNearby := (sbX8_clashesNearby_X8_clashesNearby_r1 _ (memL 4 rfl))
theorem mwX8_clashesNearby_6 : (.methodLink RX8 76 yX8_known : Cond) ∈ wsX8_clashesNearby := (sbX8_clashesNearby_X8_clashesNearby_r1 _ (memL 3 rfl))
theorem gX8_clashesNearby_X8_known : GoodIn wsX8_clashesNearby (wsV RX8 76 RX8 yX8_known wsX8_known) := goodIn_W gw_wsX8_clashesNearby (subW_app (subW_cons mwX8_clashesNearby_6 (subW_cons mwX8_clashesNearby_5 (subW_cons mwX8_clashesNearby_4 (subW_cons mwX8_clashesNearby_3 subW_nil)))) sbX8_clashesNearby_X8_known)
theorem mwX8_clashesNearby_7 : (.code yX1_isNear cX1_isNear 3 (some .boolean) : Cond) ∈ wsX8_clashesNearby := (sbX8_clashesNearby_X8_clashesNearby_r1 _ (memL 12 rfl))
theorem mwX8_clashesNearby_8 : (.code yX8_squareBetween cX8_squareBetween 4 (some .int) : Cond) ∈ wsX8_clashesNearby := (sbX8_clashesNearby_X8_clashesNearby_r1 _ (memL 16 rfl))
theorem mwX8_clashesNearby_9 : (.static yX8_squareBetween : Cond) ∈ wsX8_clashesNearby := (sbX8_clashesNearby_X8_clashesNearby_r1 _ (memL 15 rfl))
theorem mwX8_clashesNearby_10 : (.fieldLink RX1 34 "BuoyTender$Mark" "y" "I" : Cond) ∈ wsX8_clashesNearby := (sbX8_clashesNearby_X8_clashesNearby_r1 _ (memL 14 rfl))
theorem mwX8_clashesNearby_11 : (.fieldLink RX1 30 "BuoyTender$Mark" "x" "I" : Cond) ∈ wsX8_clashesNearby := (sbX8_clashesNearby_X8_clashesNearby_r1 _ (memL 13 rfl))
set_option maxRecDepth 20000 in
theorem sbX8_clashesNearby_X10 : SubW wsX10 wsX8_clashesNearby := fun _ h => (List.mem_cons_of_mem _ (List.mem_append_left _ (List.mem_append_right _ h)))
set_option maxRecDepth 20000 in
theorem sbX8_clashesNearby_X1_isNear : SubW wsX1_isNear wsX8_clashesNearby := (subW_cons mwX8_clashesNearby_7 (subW_app (subW_cons mwX8_clashesNearby_11 (subW_cons mwX8_clashesNearby_10 (subW_cons mwX8_clashesNearby_9 (subW_cons mwX8_clashesNearby_3 (subW_cons mwX8_clashesNearby_8 subW_nil))))) sbX8_clashesNearby_X10))
theorem ggX8_clashesNearby_X1_isNear : GoodIn wsX8_clashesNearby wsX1_isNear := goodIn_W gw_wsX8_clashesNearby sbX8_clashesNearby_X1_isNear
set_option maxRecDepth 20000 in
theorem gX8_clashesNearby_X1_isNear_n295 : GoodIn wsX8_clashesNearby (wsX1_isNear) := ggX8_clashesNearby_X1_isNear
theorem mwX8_clashesNearby_12 : (.code yX3_matches cX3_matches 3 (some .boolean) : Cond) ∈ wsX8_clashesNearby := (sbX8_clashesNearby_X8_clashesNearby_r1 _ (memL 20 rfl))
theorem mwX8_clashesNearby_13 : (.fieldLink RX3 9 "BuoyTender$Rhythm" "steps" "[I" : Cond) ∈ wsX8_clashesNearby := (sbX8_clashesNearby_X8_clashesNearby_r2 _ (memL 2 rfl))
theorem mwX8_clashesNearby_14 : (.code yX3_matchesTurned cX3_matchesTurned 4 (some .boolean) : Cond) ∈ wsX8_clashesNearby := (sbX8_clashesNearby_X8_clashesNearby_r2 _ (memL 1 rfl))
theorem mwX8_clashesNearby_15 : (.initialized RX3 : Cond) ∈ wsX8_clashesNearby := (sbX8_clashesNearby_X8_clashesNearby_r1 _ (memL 18 rfl))
theorem mwX8_clashesNearby_16 : (.selects RX3 yX3_matchesTurned yX3_matchesTurned : Cond) ∈ wsX8_clashesNearby := (sbX8_clashesNearby_X8_clashesNearby_r2 _ (memL 0 rfl))
theorem mwX8_clashesNearby_17 : (.instanceMethod yX3_matchesTurned : Cond) ∈ wsX8_clashesNearby := (sbX8_clashesNearby_X8_clashesNearby_r1 _ (memL 23 rfl))
theorem mwX8_clashesNearby_18 : (.methodLink RX3 29 yX3_matchesTurned : Cond) ∈ wsX8_clashesNearby := (sbX8_clashesNearby_X8_clashesNearby_r1 _ (memL 22 rfl))
theorem mwX8_clashesNearby_19 : (.fieldLink RX3 15 "BuoyTender$Rhythm" "many" "I" : Cond) ∈ wsX8_clashesNearby := (sbX8_clashesNearby_X8_clashesNearby_r1 _ (memL 21 rfl))
set_option maxRecDepth 20000 in
theorem sbX8_clashesNearby_X30 : SubW wsX30 wsX8_clashesNearby := fun _ h => (List.mem_cons_of_mem _ (List.mem_append_right _ h))
set_option maxRecDepth 20000 in
theorem sbX8_clashesNearby_X3_matches : SubW wsX3_matches wsX8_clashesNearby := (subW_cons mwX8_clashesNearby_12 (subW_app (subW_cons mwX8_clashesNearby_19 (subW_cons mwX8_clashesNearby_18 (subW_cons mwX8_clashesNearby_17 (subW_cons mwX8_clashesNearby_16 (subW_cons mwX8_clashesNearby_15 (subW_cons mwX8_clashesNearby_14 (subW_cons mwX8_clashesNearby_13 subW_nil))))))) sbX8_clashesNearby_X30))
theorem ggX8_clashesNearby_X3_matches : GoodIn wsX8_clashesNearby wsX3_matches := goodIn_W gw_wsX8_clashesNearby sbX8_clashesNearby_X3_matches
set_option maxRecDepth 20000 in
theorem gX8_clashesNearby_X3_matches_n185 : GoodIn wsX8_clashesNearby (wsX3_matches) := ggX8_clashesNearby_X3_matches
theorem dX8_clashesNearby_0 : decode cX8_clashesNearby 0 = .ok (.iconst 0, 1) := by decide +kernel
theorem dX8_clashesNearby_1 : decode cX8_clashesNearby 1 = .ok (.istore_n 3, 1) := by decide +kernel
theorem dX8_clashesNearby_2 : decode cX8_clashesNearby 2 = .ok (.iload_n 3, 1) := by decide +kernel
theorem dX8_clashesNearby_3 : decode cX8_clashesNearby 3 = .ok (.aload_n 0, 1) := by decide +kernel
theorem dX8_clashesNearby_4 : decode cX8_clashesNearby 4 = .ok (.getfield 69, 3) := by decide +kernel
theorem dX8_clashesNearby_7 : decode cX8_clashesNearby 7 = .ok (.if_icmp .ge 56, 3) := by decide +kernel
theorem dX8_clashesNearby_10 : decode cX8_clashesNearby 10 = .ok (.aload_n 0, 1) := by decide +kernel
theorem dX8_clashesNearby_11 : decode cX8_clashesNearby 11 = .ok (.iload_n 3, 1) := by decide +kernel
theorem dX8_clashesNearby_12 : decode cX8_clashesNearby 12 = .ok (.invokevirtual 76, 3) := by decide +kernel
theorem dX8_clashesNearby_15 : decode cX8_clashesNearby 15 = .ok (.astore 4, 2) := by decide +kernel
theorem dX8_clashesNearby_17 : decode cX8_clashesNearby 17 = .ok (.iload_n 3, 1) := by decide +kernel
theorem dX8_clashesNearby_18 : decode cX8_clashesNearby 18 = .ok (.iload_n 1, 1) := by decide +kernel
theorem dX8_clashesNearby_19 : decode cX8_clashesNearby 19 = .ok (.if_icmp .eq 38, 3) := by decide +kernel
theorem dX8_clashesNearby_22 : decode cX8_clashesNearby 22 = .ok (.aload 4, 2) := by decide +kernel
theorem dX8_clashesNearby_24 : decode cX8_clashesNearby 24 = .ok (.ifnull 33, 3) := by decide +kernel
theorem dX8_clashesNearby_27 : decode cX8_clashesNearby 27 = .ok (.aload_n 2, 1) := by decide +kernel
theorem dX8_clashesNearby_28 : decode cX8_clashesNearby 28 = .ok (.aload 4, 2) := by decide +kernel
theorem dX8_clashesNearby_30 : decode cX8_clashesNearby 30 = .ok (.aload_n 0, 1) := by decide +kernel
theorem dX8_clashesNearby_31 : decode cX8_clashesNearby 31 = .ok (.getfield 178, 3) := by decide +kernel
theorem dX8_clashesNearby_34 : decode cX8_clashesNearby 34 = .ok (.invokevirtual 295, 3) := by decide +kernel
theorem dX8_clashesNearby_37 : decode cX8_clashesNearby 37 = .ok (.ifCond .eq 20, 3) := by decide +kernel
theorem dX8_clashesNearby_40 : decode cX8_clashesNearby 40 = .ok (.aload_n 0, 1) := by decide +kernel
theorem dX8_clashesNearby_41 : decode cX8_clashesNearby 41 = .ok (.getfield 53, 3) := by decide +kernel
theorem dX8_clashesNearby_44 : decode cX8_clashesNearby 44 = .ok (.aload 4, 2) := by decide +kernel
theorem dX8_clashesNearby_46 : decode cX8_clashesNearby 46 = .ok (.getfield 157, 3) := by decide +kernel
theorem dX8_clashesNearby_49 : decode cX8_clashesNearby 49 = .ok (.invokevirtual 185, 3) := by decide +kernel
theorem dX8_clashesNearby_52 : decode cX8_clashesNearby 52 = .ok (.ifCond .eq 5, 3) := by decide +kernel
theorem dX8_clashesNearby_55 : decode cX8_clashesNearby 55 = .ok (.iconst 1, 1) := by decide +kernel
theorem dX8_clashesNearby_56 : decode cX8_clashesNearby 56 = .ok (.ireturn, 1) := by decide +kernel
theorem dX8_clashesNearby_57 : decode cX8_clashesNearby 57 = .ok (.iinc 3 1, 3) := by decide +kernel
theorem dX8_clashesNearby_60 : decode cX8_clashesNearby 60 = .ok (.goto (-58), 3) := by decide +kernel
theorem dX8_clashesNearby_63 : decode cX8_clashesNearby 63 = .ok (.iconst 0, 1) := by decide +kernel
theorem dX8_clashesNearby_64 : decode cX8_clashesNearby 64 = .ok (.ireturn, 1) := by decide +kernel
theorem sbX8_clashesWithin_X8_clashesWithin_r1 : SubW wsX8_clashesWithin_r1 wsX8_clashesWithin := fun _ h => (List.mem_cons_of_mem _ (List.mem_append_left _ (List.mem_append_left _ (List.mem_append_left _ (List.mem_append_left _ h)))))
theorem sbX8_clashesWithin_X8_clashesWithin_r2 : SubW wsX8_clashesWithin_r2 wsX8_clashesWithin := fun _ h => (List.mem_cons_of_mem _ (List.mem_append_left _ (List.mem_append_left _ (List.mem_append_left _ (List.mem_append_right _ h)))))
theorem mwX8_clashesWithin_0 : (.code yX8_known cX8_known 2 (some (.object "BuoyTender$Mark")) : Cond) ∈ wsX8_clashesWithin := (sbX8_clashesWithin_X8_clashesWithin_r1 _ (memL 5 rfl))
theorem mwX8_clashesWithin_1 : (.fieldLink RX8 15 "BuoyTender" "marks" "[LBuoyTender$Mark;" : Cond) ∈ wsX8_clashesWithin := (sbX8_clashesWithin_X8_clashesWithin_r1 _ (memL 6 rfl))
theorem mwX8_clashesWithin_2 : (.fieldLink RX8 69 "BuoyTender" "markCount" "I" : Cond) ∈ wsX8_clashesWithin := (sbX8_clashesWithin_X8_clashesWithin_r1 _ (memL 0 rfl))
set_option maxRecDepth 20000 in
theorem sbX8_clashesWithin_X80 : SubW wsX80 wsX8_clashesWithin := fun _ h => (List.mem_cons_of_mem _ (List.mem_append_left _ (List.mem_append_left _ (List.mem_append_right _ h))))
set_option maxRecDepth 20000 in
theorem sbX8_clashesWithin_X8_known : SubW wsX8_known wsX8_clashesWithin := (subW_cons mwX8_clashesWithin_0 (subW_app (subW_cons mwX8_clashesWithin_2 (subW_cons mwX8_clashesWithin_1 subW_nil)) sbX8_clashesWithin_X80))
set_option maxRecDepth 20000 in
theorem gw_wsX8_clashesWithin_r1 : goodW wsX8_clashesWithin_r1 := (goodW_of (by decide +kernel))
set_option maxRecDepth 20000 in
theorem gw_wsX8_clashesWithin_r2 : goodW wsX8_clashesWithin_r2 := (goodW_of (by decide +kernel))
set_option maxRecDepth 20000 in
theorem gw_wsX8_clashesWithin : goodW wsX8_clashesWithin := (goodW_cons rfl (goodW_app (goodW_app (goodW_app (goodW_app gw_wsX8_clashesWithin_r1 gw_wsX8_clashesWithin_r2) gw_wsX80) gw_wsX10) gw_wsX30))
theorem ggX8_clashesWithin_X8_known : GoodIn wsX8_clashesWithin wsX8_known := goodIn_W gw_wsX8_clashesWithin sbX8_clashesWithin_X8_known
theorem mwX8_clashesWithin_3 : (.initialized RX8 : Cond) ∈ wsX8_clashesWithin := (sbX8_clashesWithin_X8_clashesWithin_r1 _ (memL 4 rfl))
theorem mwX8_clashesWithin_4 : (.selects RX8 yX8_known yX8_known : Cond) ∈ wsX8_clashesWithin := (sbX8_clashesWithin_X8_clashesWithin_r1 _ (memL 3 rfl))
theorem mwX8_clashesWithin_5 : (.instanceMethod yX8_known : Cond) ∈ wsX8_clashesWithin := (sbX8_clashesWithin_X8_clashesWithin_r1 _ (memL 2 rfl))
theorem mwX8_clashesWithin_6 : (.methodLink RX8 76 yX8_known : Cond) ∈ wsX8_clashesWithin := (sbX8_clashesWithin_X8_clashesWithin_r1 _ (memL 1 rfl))
theorem gX8_clashesWithin_X8_known : GoodIn wsX8_clashesWithin (wsV RX8 76 RX8 yX8_known wsX8_known) := goodIn_W gw_wsX8_clashesWithin (subW_app (subW_cons mwX8_clashesWithin_6 (subW_cons mwX8_clashesWithin_5 (subW_cons mwX8_clashesWithin_4 (subW_cons mwX8_clashesWithin_3 subW_nil)))) sbX8_clashesWithin_X8_known)
theorem mwX8_clashesWithin_7 : (.code yX1_isNear cX1_isNear 3 (some .boolean) : Cond) ∈ wsX8_clashesWithin := (sbX8_clashesWithin_X8_clashesWithin_r1 _ (memL 10 rfl))
theorem mwX8_clashesWithin_8 : (.code yX8_squareBetween cX8_squareBetween 4 (some .int) : Cond) ∈ wsX8_clashesWithin := (sbX8_clashesWithin_X8_clashesWithin_r1 _ (memL 14 rfl))
theorem mwX8_clashesWithin_9 : (.static yX8_squareBetween : Cond) ∈ wsX8_clashesWithin := (sbX8_clashesWithin_X8_clashesWithin_r1 _ (memL 13 rfl))
theorem mwX8_clashesWithin_10 : (.fieldLink RX1 34 "BuoyTender$Mark" "y" "I" : Cond) ∈ wsX8_clashesWithin := (sbX8_clashesWithin_X8_clashesWithin_r1 _ (memL 12 rfl))
theorem mwX8_clashesWithin_11 : (.fieldLink RX1 30 "BuoyTender$Mark" "x" "I" : Cond) ∈ wsX8_clashesWithin := (sbX8_clashesWithin_X8_clashesWithin_r1 _ (memL 11 rfl))
set_option maxRecDepth 20000 in
theorem sbX8_clashesWithin_X10 : SubW wsX10 wsX8_clashesWithin := fun _ h => (List.mem_cons_of_mem _ (List.mem_append_left _ (List.mem_append_right _ h)))
set_option maxRecDepth 20000 in
theorem sbX8_clashesWithin_X1_isNear : SubW wsX1_isNear wsX8_clashesWithin := (subW_cons mwX8_clashesWithin_7 (subW_app (subW_cons mwX8_clashesWithin_11 (subW_cons mwX8_clashesWithin_10 (subW_cons mwX8_clashesWithin_9 (subW_cons mwX8_clashesWithin_3 (subW_cons mwX8_clashesWithin_8 subW_nil))))) sbX8_clashesWithin_X10))
theorem ggX8_clashesWithin_X1_isNear : GoodIn wsX8_clashesWithin wsX1_isNear := goodIn_W gw_wsX8_clashesWithin sbX8_clashesWithin_X1_isNear
set_option maxRecDepth 20000 in
theorem gX8_clashesWithin_X1_isNear_n295 : GoodIn wsX8_clashesWithin (wsX1_isNear) := ggX8_clashesWithin_X1_isNear
theorem mwX8_clashesWithin_12 : (.code yX3_matches cX3_matches 3 (some .boolean) : Cond) ∈ wsX8_clashesWithin := (sbX8_clashesWithin_X8_clashesWithin_r1 _ (memL 18 rfl))
theorem mwX8_clashesWithin_13 : (.fieldLink RX3 9 "BuoyTender$Rhythm" "steps" "[I" : Cond) ∈ wsX8_clashesWithin := (sbX8_clashesWithin_X8_clashesWithin_r2 _ (memL 0 rfl))
theorem mwX8_clashesWithin_14 : (.code yX3_matchesTurned cX3_matchesTurned 4 (some .boolean) : Cond) ∈ wsX8_clashesWithin := (sbX8_clashesWithin_X8_clashesWithin_r1 _ (memL 23 rfl))
theorem mwX8_clashesWithin_15 : (.initialized RX3 : Cond) ∈ wsX8_clashesWithin := (sbX8_clashesWithin_X8_clashesWithin_r1 _ (memL 16 rfl))
theorem mwX8_clashesWithin_16 : (.selects RX3 yX3_matchesTurned yX3_matchesTurned : Cond) ∈ wsX8_clashesWithin := (sbX8_clashesWithin_X8_clashesWithin_r1 _ (memL 22 rfl))
theorem mwX8_clashesWithin_17 : (.instanceMethod yX3_matchesTurned : Cond) ∈ wsX8_clashesWithin := (sbX8_clashesWithin_X8_clashesWithin_r1 _ (memL 21 rfl))
theorem mwX8_clashesWithin_18 : (.methodLink RX3 29 yX3_matchesTurned : Cond) ∈ wsX8_clashesWithin := (sbX8_clashesWithin_X8_clashesWithin_r1 _ (memL 20 rfl))
theorem mwX8_clashesWithin_19 : (.fieldLink RX3 15 "BuoyTender$Rhythm" "many" "I" : Cond) ∈ wsX8_clashesWithin := (sbX8_clashesWithin_X8_clashesWithin_r1 _ (memL 19 rfl))
set_option maxRecDepth 20000 in
theorem sbX8_clashesWithin_X30 : SubW wsX30 wsX8_clashesWithin := fun _ h => (List.mem_cons_of_mem _ (List.mem_append_right _ h))
set_option maxRecDepth 20000 in
theorem sbX8_clashesWithin_X3_matches : SubW wsX3_matches wsX8_clashesWithin := (subW_cons mwX8_clashesWithin_12 (subW_app (subW_cons mwX8_clashesWithin_19 (subW_cons mwX8_clashesWithin_18 (subW_cons mwX8_clashesWithin_17 (subW_cons mwX8_clashesWithin_16 (subW_cons mwX8_clashesWithin_15 (subW_cons mwX8_clashesWithin_14 (subW_cons mwX8_clashesWithin_13 subW_nil))))))) sbX8_clashesWithin_X30))
theorem ggX8_clashesWithin_X3_matches : GoodIn wsX8_clashesWithin wsX3_matches := goodIn_W gw_wsX8_clashesWithin sbX8_clashesWithin_X3_matches
set_option maxRecDepth 20000 in
theorem gX8_clashesWithin_X3_matches_n185 : GoodIn wsX8_clashesWithin (wsX3_matches) := ggX8_clashesWithin_X3_matches
theorem dX8_clashesWithin_0 : decode cX8_clashesWithin 0 = .ok (.iconst 0, 1) := by decide +kernel
theorem dX8_clashesWithin_1 : decode cX8_clashesWithin 1 = .ok (.istore_n 2, 1) := by decide +kernel
theorem dX8_clashesWithin_2 : decode cX8_clashesWithin 2 = .ok (.iload_n 2, 1) := by decide +kernel
theorem dX8_clashesWithin_3 : decode cX8_clashesWithin 3 = .ok (.aload_n 0, 1) := by decide +kernel
theorem dX8_clashesWithin_4 : decode cX8_clashesWithin 4 = .ok (.getfield 69, 3) := by decide +kernel
theorem dX8_clashesWithin_7 : decode cX8_clashesWithin 7 = .ok (.if_icmp .ge 80, 3) := by decide +kernel
theorem dX8_clashesWithin_10 : decode cX8_clashesWithin 10 = .ok (.iload_n 2, 1) := by decide +kernel
theorem dX8_clashesWithin_11 : decode cX8_clashesWithin 11 = .ok (.iconst 1, 1) := by decide +kernel
theorem dX8_clashesWithin_12 : decode cX8_clashesWithin 12 = .ok (.iadd, 1) := by decide +kernel
theorem dX8_clashesWithin_13 : decode cX8_clashesWithin 13 = .ok (.istore_n 3, 1) := by decide +kernel
theorem dX8_clashesWithin_14 : decode cX8_clashesWithin 14 = .ok (.iload_n 3, 1) := by decide +kernel
theorem dX8_clashesWithin_15 : decode cX8_clashesWithin 15 = .ok (.aload_n 0, 1) := by decide +kernel
theorem dX8_clashesWithin_16 : decode cX8_clashesWithin 16 = .ok (.getfield 69, 3) := by decide +kernel
theorem dX8_clashesWithin_19 : decode cX8_clashesWithin 19 = .ok (.if_icmp .ge 62, 3) := by decide +kernel
theorem dX8_clashesWithin_22 : decode cX8_clashesWithin 22 = .ok (.aload_n 0, 1) := by decide +kernel
theorem dX8_clashesWithin_23 : decode cX8_clashesWithin 23 = .ok (.iload_n 2, 1) := by decide +kernel
theorem dX8_clashesWithin_24 : decode cX8_clashesWithin 24 = .ok (.invokevirtual 76, 3) := by decide +kernel
theorem dX8_clashesWithin_27 : decode cX8_clashesWithin 27 = .ok (.astore 4, 2) := by decide +kernel
theorem dX8_clashesWithin_29 : decode cX8_clashesWithin 29 = .ok (.aload_n 0, 1) := by decide +kernel
theorem dX8_clashesWithin_30 : decode cX8_clashesWithin 30 = .ok (.iload_n 3, 1) := by decide +kernel
theorem dX8_clashesWithin_31 : decode cX8_clashesWithin 31 = .ok (.invokevirtual 76, 3) := by decide +kernel
theorem dX8_clashesWithin_34 : decode cX8_clashesWithin 34 = .ok (.astore 5, 2) := by decide +kernel
theorem dX8_clashesWithin_36 : decode cX8_clashesWithin 36 = .ok (.aload 4, 2) := by decide +kernel
theorem dX8_clashesWithin_38 : decode cX8_clashesWithin 38 = .ok (.ifnull 37, 3) := by decide +kernel
theorem dX8_clashesWithin_41 : decode cX8_clashesWithin 41 = .ok (.aload 5, 2) := by decide +kernel
theorem dX8_clashesWithin_43 : decode cX8_clashesWithin 43 = .ok (.ifnull 32, 3) := by decide +kernel
theorem dX8_clashesWithin_46 : decode cX8_clashesWithin 46 = .ok (.aload 4, 2) := by decide +kernel
theorem dX8_clashesWithin_48 : decode cX8_clashesWithin 48 = .ok (.aload 5, 2) := by decide +kernel
theorem dX8_clashesWithin_50 : decode cX8_clashesWithin 50 = .ok (.iload_n 1, 1) := by decide +kernel
theorem dX8_clashesWithin_51 : decode cX8_clashesWithin 51 = .ok (.invokevirtual 295, 3) := by decide +kernel
theorem dX8_clashesWithin_54 : decode cX8_clashesWithin 54 = .ok (.ifCond .eq 21, 3) := by decide +kernel
theorem dX8_clashesWithin_57 : decode cX8_clashesWithin 57 = .ok (.aload 4, 2) := by decide +kernel
theorem dX8_clashesWithin_59 : decode cX8_clashesWithin 59 = .ok (.getfield 157, 3) := by decide +kernel
theorem dX8_clashesWithin_62 : decode cX8_clashesWithin 62 = .ok (.aload 5, 2) := by decide +kernel
theorem dX8_clashesWithin_64 : decode cX8_clashesWithin 64 = .ok (.getfield 157, 3) := by decide +kernel
theorem dX8_clashesWithin_67 : decode cX8_clashesWithin 67 = .ok (.invokevirtual 185, 3) := by decide +kernel
theorem dX8_clashesWithin_70 : decode cX8_clashesWithin 70 = .ok (.ifCond .eq 5, 3) := by decide +kernel
theorem dX8_clashesWithin_73 : decode cX8_clashesWithin 73 = .ok (.iconst 1, 1) := by decide +kernel
theorem dX8_clashesWithin_74 : decode cX8_clashesWithin 74 = .ok (.ireturn, 1) := by decide +kernel
theorem dX8_clashesWithin_75 : decode cX8_clashesWithin 75 = .ok (.iinc 3 1, 3) := by decide +kernel
theorem dX8_clashesWithin_78 : decode cX8_clashesWithin 78 = .ok (.goto (-64), 3) := by decide +kernel
theorem dX8_clashesWithin_81 : decode cX8_clashesWithin 81 = .ok (.iinc 2 1, 3) := by decide +kernel
theorem dX8_clashesWithin_84 : decode cX8_clashesWithin 84 = .ok (.goto (-82), 3) := by decide +kernel
theorem dX8_clashesWithin_87 : decode cX8_clashesWithin 87 = .ok (.iconst 0, 1) := by decide +kernel
theorem dX8_clashesWithin_88 : decode cX8_clashesWithin 88 = .ok (.ireturn, 1) := by decide +kernel
theorem mwX8_jobCount_0 : (.code yX8_known cX8_known 2 (some (.object "BuoyTender$Mark")) : Cond) ∈ wsX8_jobCount := (List.mem_cons_of_mem _ (List.mem_append_left _ (List.mem_append_left _ (memL 5 rfl))))
theorem mwX8_jobCount_1 : (.fieldLink RX8 15 "BuoyTender" "marks" "[LBuoyTender$Mark;" : Cond) ∈ wsX8_jobCount := (List.mem_cons_of_mem _ (List.mem_append_left _ (List.mem_append_left _ (memL 6 rfl))))
theorem mwX8_jobCount_2 : (.fieldLink RX8 69 "BuoyTender" "markCount" "I" : Cond) ∈ wsX8_jobCount := (List.mem_cons_of_mem _ (List.mem_append_left _ (List.mem_append_left _ (memL 0 rfl))))
set_option maxRecDepth 20000 in
theorem sbX8_jobCount_X80 : SubW wsX80 wsX8_jobCount := fun _ h => (List.mem_cons_of_mem _ (List.mem_append_left _ (List.mem_append_right _ h)))
set_option maxRecDepth 20000 in
theorem sbX8_jobCount_X8_known : SubW wsX8_known wsX8_jobCount := (subW_cons mwX8_jobCount_0 (subW_app (subW_cons mwX8_jobCount_2 (subW_cons mwX8_jobCount_1 subW_nil)) sbX8_jobCount_X80))
set_option maxRecDepth 20000 in
theorem gw_wsX8_jobCount : goodW wsX8_jobCount := (goodW_cons rfl (goodW_app (goodW_app (goodW_of (by decide +kernel)) gw_wsX80) gw_wsX10))
theorem ggX8_jobCount_X8_known : GoodIn wsX8_jobCount wsX8_known := goodIn_W gw_wsX8_jobCount sbX8_jobCount_X8_known
theorem mwX8_jobCount_3 : (.initialized RX8 : Cond) ∈ wsX8_jobCount := (List.mem_cons_of_mem _ (List.mem_append_left _ (List.mem_append_left _ (memL 4 rfl))))
theorem mwX8_jobCount_4 : (.selects RX8 yX8_known yX8_known : Cond) ∈ wsX8_jobCount := (List.mem_cons_of_mem _ (List.mem_append_left _ (List.mem_append_left _ (memL 3 rfl))))
theorem mwX8_jobCount_5 : (.instanceMethod yX8_known : Cond) ∈ wsX8_jobCount := (List.mem_cons_of_mem _ (List.mem_append_left _ (List.mem_append_left _ (memL 2 rfl))))
theorem mwX8_jobCount_6 : (.methodLink RX8 76 yX8_known : Cond) ∈ wsX8_jobCount := (List.mem_cons_of_mem _ (List.mem_append_left _ (List.mem_append_left _ (memL 1 rfl))))
theorem gX8_jobCount_X8_known : GoodIn wsX8_jobCount (wsV RX8 76 RX8 yX8_known wsX8_known) := goodIn_W gw_wsX8_jobCount (subW_app (subW_cons mwX8_jobCount_6 (subW_cons mwX8_jobCount_5 (subW_cons mwX8_jobCount_4 (subW_cons mwX8_jobCount_3 subW_nil)))) sbX8_jobCount_X8_known)
theorem dX8_jobCount_0 : decode cX8_jobCount 0 = .ok (.iconst 0, 1) := by decide +kernel
theorem dX8_jobCount_1 : decode cX8_jobCount 1 = .ok (.istore_n 1, 1) := by decide +kernel
theorem dX8_jobCount_2 : decode cX8_jobCount 2 = .ok (.iconst 0, 1) := by decide +kernel
theorem dX8_jobCount_3 : decode cX8_jobCount 3 = .ok (.istore_n 2, 1) := by decide +kernel
theorem dX8_jobCount_4 : decode cX8_jobCount 4 = .ok (.iload_n 2, 1) := by decide +kernel
theorem dX8_jobCount_5 : decode cX8_jobCount 5 = .ok (.aload_n 0, 1) := by decide +kernel
theorem dX8_jobCount_6 : decode cX8_jobCount 6 = .ok (.getfield 69, 3) := by decide +kernel
theorem dX8_jobCount_9 : decode cX8_jobCount 9 = .ok (.if_icmp .ge 29, 3) := by decide +kernel
theorem dX8_jobCount_12 : decode cX8_jobCount 12 = .ok (.aload_n 0, 1) := by decide +kernel
theorem dX8_jobCount_13 : decode cX8_jobCount 13 = .ok (.iload_n 2, 1) := by decide +kernel
theorem dX8_jobCount_14 : decode cX8_jobCount 14 = .ok (.invokevirtual 76, 3) := by decide +kernel
theorem dX8_jobCount_17 : decode cX8_jobCount 17 = .ok (.astore_n 3, 1) := by decide +kernel
theorem dX8_jobCount_18 : decode cX8_jobCount 18 = .ok (.aload_n 3, 1) := by decide +kernel
theorem dX8_jobCount_19 : decode cX8_jobCount 19 = .ok (.ifnull 13, 3) := by decide +kernel
theorem dX8_jobCount_22 : decode cX8_jobCount 22 = .ok (.aload_n 3, 1) := by decide +kernel
theorem dX8_jobCount_23 : decode cX8_jobCount 23 = .ok (.getfield 224, 3) := by decide +kernel
theorem dX8_jobCount_26 : decode cX8_jobCount 26 = .ok (.ifCond .le 6, 3) := by decide +kernel
theorem dX8_jobCount_29 : decode cX8_jobCount 29 = .ok (.iinc 1 1, 3) := by decide +kernel
theorem dX8_jobCount_32 : decode cX8_jobCount 32 = .ok (.iinc 2 1, 3) := by decide +kernel
theorem dX8_jobCount_35 : decode cX8_jobCount 35 = .ok (.goto (-31), 3) := by decide +kernel
theorem dX8_jobCount_38 : decode cX8_jobCount 38 = .ok (.iload_n 1, 1) := by decide +kernel
theorem dX8_jobCount_39 : decode cX8_jobCount 39 = .ok (.ireturn, 1) := by decide +kernel
theorem dX9_init_0 : decode cX9_init 0 = .ok (.aload_n 0, 1) := by decide +kernel
theorem dX9_init_1 : decode cX9_init 1 = .ok (.invokespecial 1, 3) := by decide +kernel
theorem dX9_init_4 : decode cX9_init 4 = .ok (.aload_n 0, 1) := by decide +kernel
theorem dX9_init_5 : decode cX9_init 5 = .ok (.sipush 1600, 3) := by decide +kernel
theorem dX9_init_8 : decode cX9_init 8 = .ok (.newarray .int, 2) := by decide +kernel
theorem dX9_init_10 : decode cX9_init 10 = .ok (.putfield 7, 3) := by decide +kernel
theorem dX9_init_13 : decode cX9_init 13 = .ok (.aload_n 0, 1) := by decide +kernel
theorem dX9_init_14 : decode cX9_init 14 = .ok (.bipush 10, 2) := by decide +kernel
theorem dX9_init_16 : decode cX9_init 16 = .ok (.newarray .int, 2) := by decide +kernel
theorem dX9_init_18 : decode cX9_init 18 = .ok (.putfield 13, 3) := by decide +kernel
theorem dX9_init_21 : decode cX9_init 21 = .ok (.aload_n 0, 1) := by decide +kernel
theorem dX9_init_22 : decode cX9_init 22 = .ok (.bipush 10, 2) := by decide +kernel
theorem dX9_init_24 : decode cX9_init 24 = .ok (.newarray .int, 2) := by decide +kernel
theorem dX9_init_26 : decode cX9_init 26 = .ok (.putfield 16, 3) := by decide +kernel
theorem dX9_init_29 : decode cX9_init 29 = .ok (.aload_n 0, 1) := by decide +kernel
theorem dX9_init_30 : decode cX9_init 30 = .ok (.bipush 10, 2) := by decide +kernel
theorem dX9_init_32 : decode cX9_init 32 = .ok (.newarray .int, 2) := by decide +kernel
theorem dX9_init_34 : decode cX9_init 34 = .ok (.putfield 19, 3) := by decide +kernel
theorem dX9_init_37 : decode cX9_init 37 = .ok (.aload_n 0, 1) := by decide +kernel
theorem dX9_init_38 : decode cX9_init 38 = .ok (.sipush 16000, 3) := by decide +kernel
theorem dX9_init_41 : decode cX9_init 41 = .ok (.newarray .boolean, 2) := by decide +kernel
theorem dX9_init_43 : decode cX9_init 43 = .ok (.putfield 22, 3) := by decide +kernel
theorem dX9_init_46 : decode cX9_init 46 = .ok (.aload_n 0, 1) := by decide +kernel
theorem dX9_init_47 : decode cX9_init 47 = .ok (.bipush 10, 2) := by decide +kernel
theorem dX9_init_49 : decode cX9_init 49 = .ok (.newarray .boolean, 2) := by decide +kernel
theorem dX9_init_51 : decode cX9_init 51 = .ok (.putfield 26, 3) := by decide +kernel
theorem dX9_init_54 : decode cX9_init 54 = .ok (.aload_n 0, 1) := by decide +kernel
theorem dX9_init_55 : decode cX9_init 55 = .ok (.bipush 10, 2) := by decide +kernel
theorem dX9_init_57 : decode cX9_init 57 = .ok (.newarray .int, 2) := by decide +kernel
theorem dX9_init_59 : decode cX9_init 59 = .ok (.dup, 1) := by decide +kernel
theorem dX9_init_60 : decode cX9_init 60 = .ok (.iconst 0, 1) := by decide +kernel
theorem dX9_init_61 : decode cX9_init 61 = .ok (.iconst (-1), 1) := by decide +kernel
theorem dX9_init_62 : decode cX9_init 62 = .ok (.iastore, 1) := by decide +kernel
theorem dX9_init_63 : decode cX9_init 63 = .ok (.dup, 1) := by decide +kernel
theorem dX9_init_64 : decode cX9_init 64 = .ok (.iconst 1, 1) := by decide +kernel
theorem dX9_init_65 : decode cX9_init 65 = .ok (.iconst (-1), 1) := by decide +kernel
theorem dX9_init_66 : decode cX9_init 66 = .ok (.iastore, 1) := by decide +kernel
theorem dX9_init_67 : decode cX9_init 67 = .ok (.dup, 1) := by decide +kernel
theorem dX9_init_68 : decode cX9_init 68 = .ok (.iconst 2, 1) := by decide +kernel
theorem dX9_init_69 : decode cX9_init 69 = .ok (.iconst (-1), 1) := by decide +kernel
theorem dX9_init_70 : decode cX9_init 70 = .ok (.iastore, 1) := by decide +kernel
theorem dX9_init_71 : decode cX9_init 71 = .ok (.dup, 1) := by decide +kernel
theorem dX9_init_72 : decode cX9_init 72 = .ok (.iconst 3, 1) := by decide +kernel
theorem dX9_init_73 : decode cX9_init 73 = .ok (.iconst (-1), 1) := by decide +kernel
theorem dX9_init_74 : decode cX9_init 74 = .ok (.iastore, 1) := by decide +kernel
theorem dX9_init_75 : decode cX9_init 75 = .ok (.dup, 1) := by decide +kernel
theorem dX9_init_76 : decode cX9_init 76 = .ok (.iconst 4, 1) := by decide +kernel
theorem dX9_init_77 : decode cX9_init 77 = .ok (.iconst (-1), 1) := by decide +kernel
theorem dX9_init_78 : decode cX9_init 78 = .ok (.iastore, 1) := by decide +kernel
theorem dX9_init_79 : decode cX9_init 79 = .ok (.dup, 1) := by decide +kernel
theorem dX9_init_80 : decode cX9_init 80 = .ok (.iconst 5, 1) := by decide +kernel
theorem dX9_init_81 : decode cX9_init 81 = .ok (.iconst (-1), 1) := by decide +kernel
theorem dX9_init_82 : decode cX9_init 82 = .ok (.iastore, 1) := by decide +kernel
theorem dX9_init_83 : decode cX9_init 83 = .ok (.dup, 1) := by decide +kernel
theorem dX9_init_84 : decode cX9_init 84 = .ok (.bipush 6, 2) := by decide +kernel
theorem dX9_init_86 : decode cX9_init 86 = .ok (.iconst (-1), 1) := by decide +kernel
theorem dX9_init_87 : decode cX9_init 87 = .ok (.iastore, 1) := by decide +kernel
theorem dX9_init_88 : decode cX9_init 88 = .ok (.dup, 1) := by decide +kernel
theorem dX9_init_89 : decode cX9_init 89 = .ok (.bipush 7, 2) := by decide +kernel
theorem dX9_init_91 : decode cX9_init 91 = .ok (.iconst (-1), 1) := by decide +kernel
theorem dX9_init_92 : decode cX9_init 92 = .ok (.iastore, 1) := by decide +kernel
theorem dX9_init_93 : decode cX9_init 93 = .ok (.dup, 1) := by decide +kernel
theorem dX9_init_94 : decode cX9_init 94 = .ok (.bipush 8, 2) := by decide +kernel
theorem dX9_init_96 : decode cX9_init 96 = .ok (.iconst (-1), 1) := by decide +kernel
theorem dX9_init_97 : decode cX9_init 97 = .ok (.iastore, 1) := by decide +kernel
theorem dX9_init_98 : decode cX9_init 98 = .ok (.dup, 1) := by decide +kernel
theorem dX9_init_99 : decode cX9_init 99 = .ok (.bipush 9, 2) := by decide +kernel
theorem dX9_init_101 : decode cX9_init 101 = .ok (.iconst (-1), 1) := by decide +kernel
theorem dX9_init_102 : decode cX9_init 102 = .ok (.iastore, 1) := by decide +kernel
theorem dX9_init_103 : decode cX9_init 103 = .ok (.putfield 29, 3) := by decide +kernel
