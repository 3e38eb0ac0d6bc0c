theorem dX2_chooseOrder_52 : decode cX2_chooseOrder 52 = .ok (.istore_n 3, 1) := by decide +kernel
theorem dX2_chooseOrder_53 : decode cX2_chooseOrder 53 = .ok (.aload_n 0, 1) := by decide +kernel
theorem dX2_chooseOrder_54 : decode cX2_chooseOrder 54 = .ok (.getfield 72, 3) := by decide +kernel
theorem dX2_chooseOrder_57 : decode cX2_chooseOrder 57 = .ok (.iconst (-1), 1) := by decide +kernel
theorem dX2_chooseOrder_58 : decode cX2_chooseOrder 58 = .ok (.if_icmp .eq 11, 3) := by decide +kernel
theorem dX2_chooseOrder_61 : decode cX2_chooseOrder 61 = .ok (.aload_n 0, 1) := by decide +kernel
theorem dX2_chooseOrder_62 : decode cX2_chooseOrder 62 = .ok (.iload_n 3, 1) := by decide +kernel
theorem dX2_chooseOrder_63 : decode cX2_chooseOrder 63 = .ok (.invokevirtual 175, 3) := by decide +kernel
theorem dX2_chooseOrder_66 : decode cX2_chooseOrder 66 = .ok (.ifCond .eq 23, 3) := by decide +kernel
theorem dX2_chooseOrder_69 : decode cX2_chooseOrder 69 = .ok (.aload_n 0, 1) := by decide +kernel
theorem dX2_chooseOrder_70 : decode cX2_chooseOrder 70 = .ok (.getfield 39, 3) := by decide +kernel
theorem dX2_chooseOrder_73 : decode cX2_chooseOrder 73 = .ok (.iconst 0, 1) := by decide +kernel
theorem dX2_chooseOrder_74 : decode cX2_chooseOrder 74 = .ok (.aload_n 0, 1) := by decide +kernel
theorem dX2_chooseOrder_75 : decode cX2_chooseOrder 75 = .ok (.getfield 42, 3) := by decide +kernel
theorem dX2_chooseOrder_78 : decode cX2_chooseOrder 78 = .ok (.iconst 0, 1) := by decide +kernel
theorem dX2_chooseOrder_79 : decode cX2_chooseOrder 79 = .ok (.bipush 10, 2) := by decide +kernel
theorem dX2_chooseOrder_81 : decode cX2_chooseOrder 81 = .ok (.invokestatic 179, 3) := by decide +kernel
theorem dX2_chooseOrder_84 : decode cX2_chooseOrder 84 = .ok (.aload_n 0, 1) := by decide +kernel
theorem dX2_chooseOrder_85 : decode cX2_chooseOrder 85 = .ok (.iload_n 3, 1) := by decide +kernel
theorem dX2_chooseOrder_86 : decode cX2_chooseOrder 86 = .ok (.putfield 72, 3) := by decide +kernel
theorem dX2_chooseOrder_89 : decode cX2_chooseOrder 89 = .ok (.iinc 2 1, 3) := by decide +kernel
theorem dX2_chooseOrder_92 : decode cX2_chooseOrder 92 = .ok (.goto (-85), 3) := by decide +kernel
theorem dX2_chooseOrder_95 : decode cX2_chooseOrder 95 = .ok (.return_, 1) := by decide +kernel
theorem mwX2_tryFirstOrder_0 : (.code yX2_lowestNext cX2_lowestNext 6 (some .int) : Cond) ∈ wsX2_tryFirstOrder := (List.mem_cons_of_mem _ (List.mem_append_left _ (List.mem_append_left _ (memL 8 rfl))))
theorem mwX2_tryFirstOrder_1 : (.code yX2_without cX2_without 2 (some .int) : Cond) ∈ wsX2_tryFirstOrder := (List.mem_cons_of_mem _ (List.mem_append_left _ (List.mem_append_left _ (memL 21 rfl))))
theorem mwX2_tryFirstOrder_2 : (.static yX2_without : Cond) ∈ wsX2_tryFirstOrder := (List.mem_cons_of_mem _ (List.mem_append_left _ (List.mem_append_left _ (memL 20 rfl))))
theorem mwX2_tryFirstOrder_3 : (.methodLink RX2 153 yX2_without : Cond) ∈ wsX2_tryFirstOrder := (List.mem_cons_of_mem _ (List.mem_append_left _ (List.mem_append_left _ (memL 19 rfl))))
theorem mwX2_tryFirstOrder_4 : (.fieldLink RX2 27 "BuoyTender$Planner" "opensIn" "[I" : Cond) ∈ wsX2_tryFirstOrder := (List.mem_cons_of_mem _ (List.mem_append_left _ (List.mem_append_left _ (memL 18 rfl))))
theorem mwX2_tryFirstOrder_5 : (.constant RX2 131 (1000000) : Cond) ∈ wsX2_tryFirstOrder := (List.mem_cons_of_mem _ (List.mem_append_left _ (List.mem_append_left _ (memL 17 rfl))))
theorem mwX2_tryFirstOrder_6 : (.code yX2_beginFrom cX2_beginFrom 5 (some .int) : Cond) ∈ wsX2_tryFirstOrder := (List.mem_cons_of_mem _ (List.mem_append_left _ (List.mem_append_left _ (memL 16 rfl))))
theorem mwX2_tryFirstOrder_7 : (.selects RX2 yX2_beginFrom yX2_beginFrom : Cond) ∈ wsX2_tryFirstOrder := (List.mem_cons_of_mem _ (List.mem_append_left _ (List.mem_append_left _ (memL 15 rfl))))
theorem mwX2_tryFirstOrder_8 : (.instanceMethod yX2_beginFrom : Cond) ∈ wsX2_tryFirstOrder := (List.mem_cons_of_mem _ (List.mem_append_left _ (List.mem_append_left _ (memL 14 rfl))))
theorem mwX2_tryFirstOrder_9 : (.methodLink RX2 156 yX2_beginFrom : Cond) ∈ wsX2_tryFirstOrder := (List.mem_cons_of_mem _ (List.mem_append_left _ (List.mem_append_left _ (memL 13 rfl))))
theorem mwX2_tryFirstOrder_10 : (.code yX2_isIn cX2_isIn 2 (some .boolean) : Cond) ∈ wsX2_tryFirstOrder := (List.mem_cons_of_mem _ (List.mem_append_left _ (List.mem_append_left _ (memL 12 rfl))))
theorem mwX2_tryFirstOrder_11 : (.initialized RX2 : Cond) ∈ wsX2_tryFirstOrder := (List.mem_cons_of_mem _ (List.mem_append_left _ (List.mem_append_left _ (memL 7 rfl))))
theorem mwX2_tryFirstOrder_12 : (.static yX2_isIn : Cond) ∈ wsX2_tryFirstOrder := (List.mem_cons_of_mem _ (List.mem_append_left _ (List.mem_append_left _ (memL 11 rfl))))
theorem mwX2_tryFirstOrder_13 : (.methodLink RX2 128 yX2_isIn : Cond) ∈ wsX2_tryFirstOrder := (List.mem_cons_of_mem _ (List.mem_append_left _ (List.mem_append_left _ (memL 10 rfl))))
theorem mwX2_tryFirstOrder_14 : (.fieldLink RX2 33 "BuoyTender$Planner" "ends" "[I" : Cond) ∈ wsX2_tryFirstOrder := (List.mem_cons_of_mem _ (List.mem_append_left _ (List.mem_append_left _ (memL 9 rfl))))
theorem mwX2_tryFirstOrder_15 : (.fieldLink RX2 15 "BuoyTender$Planner" "minutes" "[I" : Cond) ∈ wsX2_tryFirstOrder := (List.mem_cons_of_mem _ (List.mem_append_left _ (List.mem_append_left _ (memL 3 rfl))))
theorem mwX2_tryFirstOrder_16 : (.fieldLink RX2 24 "BuoyTender$Planner" "ways" "[I" : Cond) ∈ wsX2_tryFirstOrder := (List.mem_cons_of_mem _ (List.mem_append_left _ (List.mem_append_left _ (memL 2 rfl))))
theorem mwX2_tryFirstOrder_17 : (.fieldLink RX2 76 "BuoyTender$Planner" "count" "I" : Cond) ∈ wsX2_tryFirstOrder := (List.mem_cons_of_mem _ (List.mem_append_left _ (List.mem_append_left _ (memL 0 rfl))))
set_option maxRecDepth 20000 in
theorem sbX2_tryFirstOrder_X20 : SubW wsX20 wsX2_tryFirstOrder := fun _ h => (List.mem_cons_of_mem _ (List.mem_append_right _ h))
set_option maxRecDepth 20000 in
theorem sbX2_tryFirstOrder_X2_lowestNext : SubW wsX2_lowestNext wsX2_tryFirstOrder := (subW_cons mwX2_tryFirstOrder_0 (subW_app (subW_cons mwX2_tryFirstOrder_17 (subW_cons mwX2_tryFirstOrder_16 (subW_cons mwX2_tryFirstOrder_15 (subW_cons mwX2_tryFirstOrder_14 (subW_cons mwX2_tryFirstOrder_13 (subW_cons mwX2_tryFirstOrder_12 (subW_cons mwX2_tryFirstOrder_11 (subW_cons mwX2_tryFirstOrder_10 (subW_cons mwX2_tryFirstOrder_9 (subW_cons mwX2_tryFirstOrder_8 (subW_cons mwX2_tryFirstOrder_7 (subW_cons mwX2_tryFirstOrder_6 (subW_cons mwX2_tryFirstOrder_5 (subW_cons mwX2_tryFirstOrder_4 (subW_cons mwX2_tryFirstOrder_3 (subW_cons mwX2_tryFirstOrder_2 (subW_cons mwX2_tryFirstOrder_1 subW_nil))))))))))))))))) sbX2_tryFirstOrder_X20))
set_option maxRecDepth 20000 in
theorem gw_wsX2_tryFirstOrder : goodW wsX2_tryFirstOrder := (goodW_cons rfl (goodW_app (goodW_app (goodW_of (by decide +kernel)) gw_wsX40) gw_wsX20))
theorem ggX2_tryFirstOrder_X2_lowestNext : GoodIn wsX2_tryFirstOrder wsX2_lowestNext := goodIn_W gw_wsX2_tryFirstOrder sbX2_tryFirstOrder_X2_lowestNext
theorem mwX2_tryFirstOrder_18 : (.selects RX2 yX2_lowestNext yX2_lowestNext : Cond) ∈ wsX2_tryFirstOrder := (List.mem_cons_of_mem _ (List.mem_append_left _ (List.mem_append_left _ (memL 6 rfl))))
theorem mwX2_tryFirstOrder_19 : (.instanceMethod yX2_lowestNext : Cond) ∈ wsX2_tryFirstOrder := (List.mem_cons_of_mem _ (List.mem_append_left _ (List.mem_append_left _ (memL 5 rfl))))
theorem mwX2_tryFirstOrder_20 : (.methodLink RX2 185 yX2_lowestNext : Cond) ∈ wsX2_tryFirstOrder := (List.mem_cons_of_mem _ (List.mem_append_left _ (List.mem_append_left _ (memL 4 rfl))))
theorem gX2_tryFirstOrder_X2_lowestNext : GoodIn wsX2_tryFirstOrder (wsV RX2 185 RX2 yX2_lowestNext wsX2_lowestNext) := goodIn_W gw_wsX2_tryFirstOrder (subW_app (subW_cons mwX2_tryFirstOrder_20 (subW_cons mwX2_tryFirstOrder_19 (subW_cons mwX2_tryFirstOrder_18 (subW_cons mwX2_tryFirstOrder_11 subW_nil)))) sbX2_tryFirstOrder_X2_lowestNext)
set_option maxRecDepth 20000 in
theorem sbX2_tryFirstOrder_X2_beginFrom : SubW wsX2_beginFrom wsX2_tryFirstOrder := (subW_cons mwX2_tryFirstOrder_6 (subW_app (subW_cons mwX2_tryFirstOrder_5 (subW_cons mwX2_tryFirstOrder_4 subW_nil)) sbX2_tryFirstOrder_X20))
theorem ggX2_tryFirstOrder_X2_beginFrom : GoodIn wsX2_tryFirstOrder wsX2_beginFrom := goodIn_W gw_wsX2_tryFirstOrder sbX2_tryFirstOrder_X2_beginFrom
theorem gX2_tryFirstOrder_X2_beginFrom : GoodIn wsX2_tryFirstOrder (wsV RX2 156 RX2 yX2_beginFrom wsX2_beginFrom) := goodIn_W gw_wsX2_tryFirstOrder (subW_app (subW_cons mwX2_tryFirstOrder_9 (subW_cons mwX2_tryFirstOrder_8 (subW_cons mwX2_tryFirstOrder_7 (subW_cons mwX2_tryFirstOrder_11 subW_nil)))) sbX2_tryFirstOrder_X2_beginFrom)
set_option maxRecDepth 20000 in
theorem sbX2_tryFirstOrder_X2_without : SubW wsX2_without wsX2_tryFirstOrder := (subW_cons mwX2_tryFirstOrder_1 subW_nil)
theorem ggX2_tryFirstOrder_X2_without : GoodIn wsX2_tryFirstOrder wsX2_without := goodIn_W gw_wsX2_tryFirstOrder sbX2_tryFirstOrder_X2_without
theorem gX2_tryFirstOrder_X2_without : GoodIn wsX2_tryFirstOrder (va_wsS RX2 153 yX2_without wsX2_without) := goodIn_W gw_wsX2_tryFirstOrder (subW_app (subW_cons mwX2_tryFirstOrder_3 (subW_cons mwX2_tryFirstOrder_2 (subW_cons mwX2_tryFirstOrder_11 subW_nil))) sbX2_tryFirstOrder_X2_without)
theorem dX2_tryFirstOrder_0 : decode cX2_tryFirstOrder 0 = .ok (.iconst 0, 1) := by decide +kernel
theorem dX2_tryFirstOrder_1 : decode cX2_tryFirstOrder 1 = .ok (.istore_n 3, 1) := by decide +kernel
theorem dX2_tryFirstOrder_2 : decode cX2_tryFirstOrder 2 = .ok (.iload_n 1, 1) := by decide +kernel
theorem dX2_tryFirstOrder_3 : decode cX2_tryFirstOrder 3 = .ok (.istore 4, 2) := by decide +kernel
theorem dX2_tryFirstOrder_5 : decode cX2_tryFirstOrder 5 = .ok (.bipush 10, 2) := by decide +kernel
theorem dX2_tryFirstOrder_7 : decode cX2_tryFirstOrder 7 = .ok (.istore 5, 2) := by decide +kernel
theorem dX2_tryFirstOrder_9 : decode cX2_tryFirstOrder 9 = .ok (.aload_n 2, 1) := by decide +kernel
theorem dX2_tryFirstOrder_10 : decode cX2_tryFirstOrder 10 = .ok (.getfield 136, 3) := by decide +kernel
theorem dX2_tryFirstOrder_13 : decode cX2_tryFirstOrder 13 = .ok (.istore 6, 2) := by decide +kernel
theorem dX2_tryFirstOrder_15 : decode cX2_tryFirstOrder 15 = .ok (.iconst 0, 1) := by decide +kernel
theorem dX2_tryFirstOrder_16 : decode cX2_tryFirstOrder 16 = .ok (.istore 7, 2) := by decide +kernel
theorem dX2_tryFirstOrder_18 : decode cX2_tryFirstOrder 18 = .ok (.iload 7, 2) := by decide +kernel
theorem dX2_tryFirstOrder_20 : decode cX2_tryFirstOrder 20 = .ok (.aload_n 0, 1) := by decide +kernel
theorem dX2_tryFirstOrder_21 : decode cX2_tryFirstOrder 21 = .ok (.getfield 76, 3) := by decide +kernel
theorem dX2_tryFirstOrder_24 : decode cX2_tryFirstOrder 24 = .ok (.if_icmp .ge 90, 3) := by decide +kernel
theorem dX2_tryFirstOrder_27 : decode cX2_tryFirstOrder 27 = .ok (.iload 4, 2) := by decide +kernel
theorem dX2_tryFirstOrder_29 : decode cX2_tryFirstOrder 29 = .ok (.ifCond .eq 85, 3) := by decide +kernel
theorem dX2_tryFirstOrder_32 : decode cX2_tryFirstOrder 32 = .ok (.aload_n 0, 1) := by decide +kernel
theorem dX2_tryFirstOrder_33 : decode cX2_tryFirstOrder 33 = .ok (.iload 4, 2) := by decide +kernel
theorem dX2_tryFirstOrder_35 : decode cX2_tryFirstOrder 35 = .ok (.iload 5, 2) := by decide +kernel
theorem dX2_tryFirstOrder_37 : decode cX2_tryFirstOrder 37 = .ok (.iload 6, 2) := by decide +kernel
theorem dX2_tryFirstOrder_39 : decode cX2_tryFirstOrder 39 = .ok (.invokevirtual 185, 3) := by decide +kernel
theorem dX2_tryFirstOrder_42 : decode cX2_tryFirstOrder 42 = .ok (.istore 8, 2) := by decide +kernel
theorem dX2_tryFirstOrder_44 : decode cX2_tryFirstOrder 44 = .ok (.iload 8, 2) := by decide +kernel
theorem dX2_tryFirstOrder_46 : decode cX2_tryFirstOrder 46 = .ok (.iconst (-1), 1) := by decide +kernel
theorem dX2_tryFirstOrder_47 : decode cX2_tryFirstOrder 47 = .ok (.if_icmp .ne 5, 3) := by decide +kernel
theorem dX2_tryFirstOrder_50 : decode cX2_tryFirstOrder 50 = .ok (.iload_n 3, 1) := by decide +kernel
theorem dX2_tryFirstOrder_51 : decode cX2_tryFirstOrder 51 = .ok (.ireturn, 1) := by decide +kernel
theorem dX2_tryFirstOrder_52 : decode cX2_tryFirstOrder 52 = .ok (.aload_n 0, 1) := by decide +kernel
theorem dX2_tryFirstOrder_53 : decode cX2_tryFirstOrder 53 = .ok (.getfield 39, 3) := by decide +kernel
theorem dX2_tryFirstOrder_56 : decode cX2_tryFirstOrder 56 = .ok (.iload_n 3, 1) := by decide +kernel
theorem dX2_tryFirstOrder_57 : decode cX2_tryFirstOrder 57 = .ok (.iload 8, 2) := by decide +kernel
theorem dX2_tryFirstOrder_59 : decode cX2_tryFirstOrder 59 = .ok (.iastore, 1) := by decide +kernel
theorem dX2_tryFirstOrder_60 : decode cX2_tryFirstOrder 60 = .ok (.iinc 3 1, 3) := by decide +kernel
theorem dX2_tryFirstOrder_63 : decode cX2_tryFirstOrder 63 = .ok (.aload_n 0, 1) := by decide +kernel
theorem dX2_tryFirstOrder_64 : decode cX2_tryFirstOrder 64 = .ok (.iload 8, 2) := by decide +kernel
theorem dX2_tryFirstOrder_66 : decode cX2_tryFirstOrder 66 = .ok (.iload 6, 2) := by decide +kernel
theorem dX2_tryFirstOrder_68 : decode cX2_tryFirstOrder 68 = .ok (.aload_n 0, 1) := by decide +kernel
theorem dX2_tryFirstOrder_69 : decode cX2_tryFirstOrder 69 = .ok (.getfield 24, 3) := by decide +kernel
theorem dX2_tryFirstOrder_72 : decode cX2_tryFirstOrder 72 = .ok (.iload 5, 2) := by decide +kernel
theorem dX2_tryFirstOrder_74 : decode cX2_tryFirstOrder 74 = .ok (.bipush 11, 2) := by decide +kernel
theorem dX2_tryFirstOrder_76 : decode cX2_tryFirstOrder 76 = .ok (.imul, 1) := by decide +kernel
theorem dX2_tryFirstOrder_77 : decode cX2_tryFirstOrder 77 = .ok (.iload 8, 2) := by decide +kernel
theorem dX2_tryFirstOrder_79 : decode cX2_tryFirstOrder 79 = .ok (.iadd, 1) := by decide +kernel
theorem dX2_tryFirstOrder_80 : decode cX2_tryFirstOrder 80 = .ok (.iaload, 1) := by decide +kernel
theorem dX2_tryFirstOrder_81 : decode cX2_tryFirstOrder 81 = .ok (.iadd, 1) := by decide +kernel
theorem dX2_tryFirstOrder_82 : decode cX2_tryFirstOrder 82 = .ok (.invokevirtual 156, 3) := by decide +kernel
theorem dX2_tryFirstOrder_85 : decode cX2_tryFirstOrder 85 = .ok (.aload_n 0, 1) := by decide +kernel
theorem dX2_tryFirstOrder_86 : decode cX2_tryFirstOrder 86 = .ok (.getfield 15, 3) := by decide +kernel
theorem dX2_tryFirstOrder_89 : decode cX2_tryFirstOrder 89 = .ok (.iload 8, 2) := by decide +kernel
theorem dX2_tryFirstOrder_91 : decode cX2_tryFirstOrder 91 = .ok (.iaload, 1) := by decide +kernel
theorem dX2_tryFirstOrder_92 : decode cX2_tryFirstOrder 92 = .ok (.iadd, 1) := by decide +kernel
theorem dX2_tryFirstOrder_93 : decode cX2_tryFirstOrder 93 = .ok (.istore 6, 2) := by decide +kernel
theorem dX2_tryFirstOrder_95 : decode cX2_tryFirstOrder 95 = .ok (.iload 8, 2) := by decide +kernel
theorem dX2_tryFirstOrder_97 : decode cX2_tryFirstOrder 97 = .ok (.iload 4, 2) := by decide +kernel
theorem dX2_tryFirstOrder_99 : decode cX2_tryFirstOrder 99 = .ok (.invokestatic 153, 3) := by decide +kernel
theorem dX2_tryFirstOrder_102 : decode cX2_tryFirstOrder 102 = .ok (.istore 4, 2) := by decide +kernel
theorem dX2_tryFirstOrder_104 : decode cX2_tryFirstOrder 104 = .ok (.iload 8, 2) := by decide +kernel
theorem dX2_tryFirstOrder_106 : decode cX2_tryFirstOrder 106 = .ok (.istore 5, 2) := by decide +kernel
theorem dX2_tryFirstOrder_108 : decode cX2_tryFirstOrder 108 = .ok (.iinc 7 1, 3) := by decide +kernel
theorem dX2_tryFirstOrder_111 : decode cX2_tryFirstOrder 111 = .ok (.goto (-93), 3) := by decide +kernel
theorem dX2_tryFirstOrder_114 : decode cX2_tryFirstOrder 114 = .ok (.iload_n 3, 1) := by decide +kernel
theorem dX2_tryFirstOrder_115 : decode cX2_tryFirstOrder 115 = .ok (.ireturn, 1) := by decide +kernel
theorem mwX2_lowestNext_0 : (.code yX2_isIn cX2_isIn 2 (some .boolean) : Cond) ∈ wsX2_lowestNext := (List.mem_cons_of_mem _ (List.mem_append_left _ (memL 7 rfl)))
set_option maxRecDepth 20000 in
theorem sbX2_lowestNext_X2_isIn : SubW wsX2_isIn wsX2_lowestNext := (subW_cons mwX2_lowestNext_0 subW_nil)
set_option maxRecDepth 20000 in
theorem gw_wsX2_lowestNext : goodW wsX2_lowestNext := (goodW_cons rfl (goodW_app (goodW_of (by decide +kernel)) gw_wsX20))
theorem ggX2_lowestNext_X2_isIn : GoodIn wsX2_lowestNext wsX2_isIn := goodIn_W gw_wsX2_lowestNext sbX2_lowestNext_X2_isIn
theorem mwX2_lowestNext_1 : (.initialized RX2 : Cond) ∈ wsX2_lowestNext := (List.mem_cons_of_mem _ (List.mem_append_left _ (memL 6 rfl)))
theorem mwX2_lowestNext_2 : (.static yX2_isIn : Cond) ∈ wsX2_lowestNext := (List.mem_cons_of_mem _ (List.mem_append_left _ (memL 5 rfl)))
theorem mwX2_lowestNext_3 : (.methodLink RX2 128 yX2_isIn : Cond) ∈ wsX2_lowestNext := (List.mem_cons_of_mem _ (List.mem_append_left _ (memL 4 rfl)))
theorem gX2_lowestNext_X2_isIn : GoodIn wsX2_lowestNext (va_wsS RX2 128 yX2_isIn wsX2_isIn) := goodIn_W gw_wsX2_lowestNext (subW_app (subW_cons mwX2_lowestNext_3 (subW_cons mwX2_lowestNext_2 (subW_cons mwX2_lowestNext_1 subW_nil))) sbX2_lowestNext_X2_isIn)
theorem mwX2_lowestNext_4 : (.code yX2_beginFrom cX2_beginFrom 5 (some .int) : Cond) ∈ wsX2_lowestNext := (List.mem_cons_of_mem _ (List.mem_append_left _ (memL 11 rfl)))
theorem mwX2_lowestNext_5 : (.fieldLink RX2 27 "BuoyTender$Planner" "opensIn" "[I" : Cond) ∈ wsX2_lowestNext := (List.mem_cons_of_mem _ (List.mem_append_left _ (memL 13 rfl)))
theorem mwX2_lowestNext_6 : (.constant RX2 131 (1000000) : Cond) ∈ wsX2_lowestNext := (List.mem_cons_of_mem _ (List.mem_append_left _ (memL 12 rfl)))
set_option maxRecDepth 20000 in
theorem sbX2_lowestNext_X20 : SubW wsX20 wsX2_lowestNext := fun _ h => (List.mem_cons_of_mem _ (List.mem_append_right _ h))
set_option maxRecDepth 20000 in
theorem sbX2_lowestNext_X2_beginFrom : SubW wsX2_beginFrom wsX2_lowestNext := (subW_cons mwX2_lowestNext_4 (subW_app (subW_cons mwX2_lowestNext_6 (subW_cons mwX2_lowestNext_5 subW_nil)) sbX2_lowestNext_X20))
theorem ggX2_lowestNext_X2_beginFrom : GoodIn wsX2_lowestNext wsX2_beginFrom := goodIn_W gw_wsX2_lowestNext sbX2_lowestNext_X2_beginFrom
theorem mwX2_lowestNext_7 : (.selects RX2 yX2_beginFrom yX2_beginFrom : Cond) ∈ wsX2_lowestNext := (List.mem_cons_of_mem _ (List.mem_append_left _ (memL 10 rfl)))
theorem mwX2_lowestNext_8 : (.instanceMethod yX2_beginFrom : Cond) ∈ wsX2_lowestNext := (List.mem_cons_of_mem _ (List.mem_append_left _ (memL 9 rfl)))
theorem mwX2_lowestNext_9 : (.methodLink RX2 156 yX2_beginFrom : Cond) ∈ wsX2_lowestNext := (List.mem_cons_of_mem _ (List.mem_append_left _ (memL 8 rfl)))
theorem gX2_lowestNext_X2_beginFrom : GoodIn wsX2_lowestNext (wsV RX2 156 RX2 yX2_beginFrom wsX2_beginFrom) := goodIn_W gw_wsX2_lowestNext (subW_app (subW_cons mwX2_lowestNext_9 (subW_cons mwX2_lowestNext_8 (subW_cons mwX2_lowestNext_7 (subW_cons mwX2_lowestNext_1 subW_nil)))) sbX2_lowestNext_X2_beginFrom)
theorem mwX2_lowestNext_10 : (.code yX2_without cX2_without 2 (some .int) : Cond) ∈ wsX2_lowestNext := (List.mem_cons_of_mem _ (List.mem_append_left _ (memL 16 rfl)))
set_option maxRecDepth 20000 in
theorem sbX2_lowestNext_X2_without : SubW wsX2_without wsX2_lowestNext := (subW_cons mwX2_lowestNext_10 subW_nil)
theorem ggX2_lowestNext_X2_without : GoodIn wsX2_lowestNext wsX2_without := goodIn_W gw_wsX2_lowestNext sbX2_lowestNext_X2_without
theorem mwX2_lowestNext_11 : (.static yX2_without : Cond) ∈ wsX2_lowestNext := (List.mem_cons_of_mem _ (List.mem_append_left _ (memL 15 rfl)))
theorem mwX2_lowestNext_12 : (.methodLink RX2 153 yX2_without : Cond) ∈ wsX2_lowestNext := (List.mem_cons_of_mem _ (List.mem_append_left _ (memL 14 rfl)))
theorem gX2_lowestNext_X2_without : GoodIn wsX2_lowestNext (va_wsS RX2 153 yX2_without wsX2_without) := goodIn_W gw_wsX2_lowestNext (subW_app (subW_cons mwX2_lowestNext_12 (subW_cons mwX2_lowestNext_11 (subW_cons mwX2_lowestNext_1 subW_nil))) sbX2_lowestNext_X2_without)
theorem dX2_lowestNext_0 : decode cX2_lowestNext 0 = .ok (.iconst 0, 1) := by decide +kernel
theorem dX2_lowestNext_1 : decode cX2_lowestNext 1 = .ok (.istore 4, 2) := by decide +kernel
theorem dX2_lowestNext_3 : decode cX2_lowestNext 3 = .ok (.iload 4, 2) := by decide +kernel
theorem dX2_lowestNext_5 : decode cX2_lowestNext 5 = .ok (.aload_n 0, 1) := by decide +kernel
theorem dX2_lowestNext_6 : decode cX2_lowestNext 6 = .ok (.getfield 76, 3) := by decide +kernel
theorem dX2_lowestNext_9 : decode cX2_lowestNext 9 = .ok (.if_icmp .ge 73, 3) := by decide +kernel
theorem dX2_lowestNext_12 : decode cX2_lowestNext 12 = .ok (.iload 4, 2) := by decide +kernel
theorem dX2_lowestNext_14 : decode cX2_lowestNext 14 = .ok (.iload_n 1, 1) := by decide +kernel
theorem dX2_lowestNext_15 : decode cX2_lowestNext 15 = .ok (.invokestatic 128, 3) := by decide +kernel
theorem dX2_lowestNext_18 : decode cX2_lowestNext 18 = .ok (.ifCond .eq 58, 3) := by decide +kernel
theorem dX2_lowestNext_21 : decode cX2_lowestNext 21 = .ok (.aload_n 0, 1) := by decide +kernel
theorem dX2_lowestNext_22 : decode cX2_lowestNext 22 = .ok (.iload 4, 2) := by decide +kernel
theorem dX2_lowestNext_24 : decode cX2_lowestNext 24 = .ok (.iload_n 3, 1) := by decide +kernel
theorem dX2_lowestNext_25 : decode cX2_lowestNext 25 = .ok (.aload_n 0, 1) := by decide +kernel
theorem dX2_lowestNext_26 : decode cX2_lowestNext 26 = .ok (.getfield 24, 3) := by decide +kernel
theorem dX2_lowestNext_29 : decode cX2_lowestNext 29 = .ok (.iload_n 2, 1) := by decide +kernel
theorem dX2_lowestNext_30 : decode cX2_lowestNext 30 = .ok (.bipush 11, 2) := by decide +kernel
theorem dX2_lowestNext_32 : decode cX2_lowestNext 32 = .ok (.imul, 1) := by decide +kernel
theorem dX2_lowestNext_33 : decode cX2_lowestNext 33 = .ok (.iload 4, 2) := by decide +kernel
theorem dX2_lowestNext_35 : decode cX2_lowestNext 35 = .ok (.iadd, 1) := by decide +kernel
theorem dX2_lowestNext_36 : decode cX2_lowestNext 36 = .ok (.iaload, 1) := by decide +kernel
theorem dX2_lowestNext_37 : decode cX2_lowestNext 37 = .ok (.iadd, 1) := by decide +kernel
theorem dX2_lowestNext_38 : decode cX2_lowestNext 38 = .ok (.invokevirtual 156, 3) := by decide +kernel
theorem dX2_lowestNext_41 : decode cX2_lowestNext 41 = .ok (.aload_n 0, 1) := by decide +kernel
theorem dX2_lowestNext_42 : decode cX2_lowestNext 42 = .ok (.getfield 15, 3) := by decide +kernel
theorem dX2_lowestNext_45 : decode cX2_lowestNext 45 = .ok (.iload 4, 2) := by decide +kernel
theorem dX2_lowestNext_47 : decode cX2_lowestNext 47 = .ok (.iaload, 1) := by decide +kernel
theorem dX2_lowestNext_48 : decode cX2_lowestNext 48 = .ok (.iadd, 1) := by decide +kernel
theorem dX2_lowestNext_49 : decode cX2_lowestNext 49 = .ok (.istore 5, 2) := by decide +kernel
theorem dX2_lowestNext_51 : decode cX2_lowestNext 51 = .ok (.iload 5, 2) := by decide +kernel
theorem dX2_lowestNext_53 : decode cX2_lowestNext 53 = .ok (.aload_n 0, 1) := by decide +kernel
theorem dX2_lowestNext_54 : decode cX2_lowestNext 54 = .ok (.getfield 33, 3) := by decide +kernel
theorem dX2_lowestNext_57 : decode cX2_lowestNext 57 = .ok (.iload 4, 2) := by decide +kernel
theorem dX2_lowestNext_59 : decode cX2_lowestNext 59 = .ok (.iload_n 1, 1) := by decide +kernel
theorem dX2_lowestNext_60 : decode cX2_lowestNext 60 = .ok (.invokestatic 153, 3) := by decide +kernel
theorem dX2_lowestNext_63 : decode cX2_lowestNext 63 = .ok (.bipush 10, 2) := by decide +kernel
theorem dX2_lowestNext_65 : decode cX2_lowestNext 65 = .ok (.imul, 1) := by decide +kernel
theorem dX2_lowestNext_66 : decode cX2_lowestNext 66 = .ok (.iload 4, 2) := by decide +kernel
theorem dX2_lowestNext_68 : decode cX2_lowestNext 68 = .ok (.iadd, 1) := by decide +kernel
theorem dX2_lowestNext_69 : decode cX2_lowestNext 69 = .ok (.iaload, 1) := by decide +kernel
theorem dX2_lowestNext_70 : decode cX2_lowestNext 70 = .ok (.if_icmp .gt 6, 3) := by decide +kernel
theorem dX2_lowestNext_73 : decode cX2_lowestNext 73 = .ok (.iload 4, 2) := by decide +kernel
theorem dX2_lowestNext_75 : decode cX2_lowestNext 75 = .ok (.ireturn, 1) := by decide +kernel
theorem dX2_lowestNext_76 : decode cX2_lowestNext 76 = .ok (.iinc 4 1, 3) := by decide +kernel
theorem dX2_lowestNext_79 : decode cX2_lowestNext 79 = .ok (.goto (-76), 3) := by decide +kernel
theorem dX2_lowestNext_82 : decode cX2_lowestNext 82 = .ok (.iconst (-1), 1) := by decide +kernel
theorem dX2_lowestNext_83 : decode cX2_lowestNext 83 = .ok (.ireturn, 1) := by decide +kernel
theorem dX2_isTriedFirst_0 : decode cX2_isTriedFirst 0 = .ok (.iconst 0, 1) := by decide +kernel
theorem dX2_isTriedFirst_1 : decode cX2_isTriedFirst 1 = .ok (.istore_n 2, 1) := by decide +kernel
theorem dX2_isTriedFirst_2 : decode cX2_isTriedFirst 2 = .ok (.iload_n 2, 1) := by decide +kernel
theorem dX2_isTriedFirst_3 : decode cX2_isTriedFirst 3 = .ok (.iload_n 1, 1) := by decide +kernel
theorem dX2_isTriedFirst_4 : decode cX2_isTriedFirst 4 = .ok (.if_icmp .ge 53, 3) := by decide +kernel
theorem dX2_isTriedFirst_7 : decode cX2_isTriedFirst 7 = .ok (.iload_n 2, 1) := by decide +kernel
theorem dX2_isTriedFirst_8 : decode cX2_isTriedFirst 8 = .ok (.aload_n 0, 1) := by decide +kernel
theorem dX2_isTriedFirst_9 : decode cX2_isTriedFirst 9 = .ok (.getfield 72, 3) := by decide +kernel
theorem dX2_isTriedFirst_12 : decode cX2_isTriedFirst 12 = .ok (.if_icmp .ge 45, 3) := by decide +kernel
theorem dX2_isTriedFirst_15 : decode cX2_isTriedFirst 15 = .ok (.aload_n 0, 1) := by decide +kernel
theorem dX2_isTriedFirst_16 : decode cX2_isTriedFirst 16 = .ok (.getfield 39, 3) := by decide +kernel
theorem dX2_isTriedFirst_19 : decode cX2_isTriedFirst 19 = .ok (.iload_n 2, 1) := by decide +kernel
theorem dX2_isTriedFirst_20 : decode cX2_isTriedFirst 20 = .ok (.iaload, 1) := by decide +kernel
theorem dX2_isTriedFirst_21 : decode cX2_isTriedFirst 21 = .ok (.aload_n 0, 1) := by decide +kernel
theorem dX2_isTriedFirst_22 : decode cX2_isTriedFirst 22 = .ok (.getfield 42, 3) := by decide +kernel
theorem dX2_isTriedFirst_25 : decode cX2_isTriedFirst 25 = .ok (.iload_n 2, 1) := by decide +kernel
theorem dX2_isTriedFirst_26 : decode cX2_isTriedFirst 26 = .ok (.iaload, 1) := by decide +kernel
theorem dX2_isTriedFirst_27 : decode cX2_isTriedFirst 27 = .ok (.if_icmp .eq 24, 3) := by decide +kernel
theorem dX2_isTriedFirst_30 : decode cX2_isTriedFirst 30 = .ok (.aload_n 0, 1) := by decide +kernel
theorem dX2_isTriedFirst_31 : decode cX2_isTriedFirst 31 = .ok (.getfield 39, 3) := by decide +kernel
theorem dX2_isTriedFirst_34 : decode cX2_isTriedFirst 34 = .ok (.iload_n 2, 1) := by decide +kernel
theorem dX2_isTriedFirst_35 : decode cX2_isTriedFirst 35 = .ok (.iaload, 1) := by decide +kernel
theorem dX2_isTriedFirst_36 : decode cX2_isTriedFirst 36 = .ok (.aload_n 0, 1) := by decide +kernel
theorem dX2_isTriedFirst_37 : decode cX2_isTriedFirst 37 = .ok (.getfield 42, 3) := by decide +kernel
theorem dX2_isTriedFirst_40 : decode cX2_isTriedFirst 40 = .ok (.iload_n 2, 1) := by decide +kernel
theorem dX2_isTriedFirst_41 : decode cX2_isTriedFirst 41 = .ok (.iaload, 1) := by decide +kernel
theorem dX2_isTriedFirst_42 : decode cX2_isTriedFirst 42 = .ok (.if_icmp .ge 7, 3) := by decide +kernel
theorem dX2_isTriedFirst_45 : decode cX2_isTriedFirst 45 = .ok (.iconst 1, 1) := by decide +kernel
theorem dX2_isTriedFirst_46 : decode cX2_isTriedFirst 46 = .ok (.goto 4, 3) := by decide +kernel
theorem dX2_isTriedFirst_49 : decode cX2_isTriedFirst 49 = .ok (.iconst 0, 1) := by decide +kernel
theorem dX2_isTriedFirst_50 : decode cX2_isTriedFirst 50 = .ok (.ireturn, 1) := by decide +kernel
theorem dX2_isTriedFirst_51 : decode cX2_isTriedFirst 51 = .ok (.iinc 2 1, 3) := by decide +kernel
theorem dX2_isTriedFirst_54 : decode cX2_isTriedFirst 54 = .ok (.goto (-52), 3) := by decide +kernel
theorem dX2_isTriedFirst_57 : decode cX2_isTriedFirst 57 = .ok (.iload_n 1, 1) := by decide +kernel
theorem dX2_isTriedFirst_58 : decode cX2_isTriedFirst 58 = .ok (.aload_n 0, 1) := by decide +kernel
theorem dX2_isTriedFirst_59 : decode cX2_isTriedFirst 59 = .ok (.getfield 72, 3) := by decide +kernel
theorem dX2_isTriedFirst_62 : decode cX2_isTriedFirst 62 = .ok (.if_icmp .ge 7, 3) := by decide +kernel
theorem dX2_isTriedFirst_65 : decode cX2_isTriedFirst 65 = .ok (.iconst 1, 1) := by decide +kernel
theorem dX2_isTriedFirst_66 : decode cX2_isTriedFirst 66 = .ok (.goto 4, 3) := by decide +kernel
theorem dX2_isTriedFirst_69 : decode cX2_isTriedFirst 69 = .ok (.iconst 0, 1) := by decide +kernel
theorem dX2_isTriedFirst_70 : decode cX2_isTriedFirst 70 = .ok (.ireturn, 1) := by decide +kernel
theorem mwX2_timeOrder_0 : (.code yX2_beginFrom cX2_beginFrom 5 (some .int) : Cond) ∈ wsX2_timeOrder := (List.mem_cons_of_mem _ (List.mem_append_left _ (List.mem_append_left _ (memL 9 rfl))))
theorem mwX2_timeOrder_1 : (.fieldLink RX2 27 "BuoyTender$Planner" "opensIn" "[I" : Cond) ∈ wsX2_timeOrder := (List.mem_cons_of_mem _ (List.mem_append_left _ (List.mem_append_left _ (memL 11 rfl))))
theorem mwX2_timeOrder_2 : (.constant RX2 131 (1000000) : Cond) ∈ wsX2_timeOrder := (List.mem_cons_of_mem _ (List.mem_append_left _ (List.mem_append_left _ (memL 10 rfl))))
set_option maxRecDepth 20000 in
theorem sbX2_timeOrder_X20 : SubW wsX20 wsX2_timeOrder := fun _ h => (List.mem_cons_of_mem _ (List.mem_append_right _ h))
set_option maxRecDepth 20000 in
theorem sbX2_timeOrder_X2_beginFrom : SubW wsX2_beginFrom wsX2_timeOrder := (subW_cons mwX2_timeOrder_0 (subW_app (subW_cons mwX2_timeOrder_2 (subW_cons mwX2_timeOrder_1 subW_nil)) sbX2_timeOrder_X20))
set_option maxRecDepth 20000 in
theorem gw_wsX2_timeOrder : goodW wsX2_timeOrder := (goodW_cons rfl (goodW_app (goodW_app (goodW_of (by decide +kernel)) gw_wsX40) gw_wsX20))
theorem ggX2_timeOrder_X2_beginFrom : GoodIn wsX2_timeOrder wsX2_beginFrom := goodIn_W gw_wsX2_timeOrder sbX2_timeOrder_X2_beginFrom
theorem mwX2_timeOrder_3 : (.initialized RX2 : Cond) ∈ wsX2_timeOrder := (List.mem_cons_of_mem _ (List.mem_append_left _ (List.mem_append_left _ (memL 8 rfl))))
theorem mwX2_timeOrder_4 : (.selects RX2 yX2_beginFrom yX2_beginFrom : Cond) ∈ wsX2_timeOrder := (List.mem_cons_of_mem _ (List.mem_append_left _ (List.mem_append_left _ (memL 7 rfl))))
theorem mwX2_timeOrder_5 : (.instanceMethod yX2_beginFrom : Cond) ∈ wsX2_timeOrder := (List.mem_cons_of_mem _ (List.mem_append_left _ (List.mem_append_left _ (memL 6 rfl))))
theorem mwX2_timeOrder_6 : (.methodLink RX2 156 yX2_beginFrom : Cond) ∈ wsX2_timeOrder := (List.mem_cons_of_mem _ (List.mem_append_left _ (List.mem_append_left _ (memL 5 rfl))))
theorem gX2_timeOrder_X2_beginFrom : GoodIn wsX2_timeOrder (wsV RX2 156 RX2 yX2_beginFrom wsX2_beginFrom) := goodIn_W gw_wsX2_timeOrder (subW_app (subW_cons mwX2_timeOrder_6 (subW_cons mwX2_timeOrder_5 (subW_cons mwX2_timeOrder_4 (subW_cons mwX2_timeOrder_3 subW_nil)))) sbX2_timeOrder_X2_beginFrom)
theorem dX2_timeOrder_0 : decode cX2_timeOrder 0 = .ok (.bipush 10, 2) := by decide +kernel
theorem dX2_timeOrder_2 : decode cX2_timeOrder 2 = .ok (.istore_n 2, 1) := by decide +kernel
theorem dX2_timeOrder_3 : decode cX2_timeOrder 3 = .ok (.aload_n 1, 1) := by decide +kernel
theorem dX2_timeOrder_4 : decode cX2_timeOrder 4 = .ok (.getfield 136, 3) := by decide +kernel
theorem dX2_timeOrder_7 : decode cX2_timeOrder 7 = .ok (.istore_n 3, 1) := by decide +kernel
theorem dX2_timeOrder_8 : decode cX2_timeOrder 8 = .ok (.iconst 0, 1) := by decide +kernel
theorem dX2_timeOrder_9 : decode cX2_timeOrder 9 = .ok (.istore 4, 2) := by decide +kernel
theorem dX2_timeOrder_11 : decode cX2_timeOrder 11 = .ok (.iload 4, 2) := by decide +kernel
theorem dX2_timeOrder_13 : decode cX2_timeOrder 13 = .ok (.aload_n 0, 1) := by decide +kernel
theorem dX2_timeOrder_14 : decode cX2_timeOrder 14 = .ok (.getfield 72, 3) := by decide +kernel
theorem dX2_timeOrder_17 : decode cX2_timeOrder 17 = .ok (.if_icmp .ge 64, 3) := by decide +kernel
theorem dX2_timeOrder_20 : decode cX2_timeOrder 20 = .ok (.aload_n 0, 1) := by decide +kernel
theorem dX2_timeOrder_21 : decode cX2_timeOrder 21 = .ok (.getfield 42, 3) := by decide +kernel
theorem dX2_timeOrder_24 : decode cX2_timeOrder 24 = .ok (.iload 4, 2) := by decide +kernel
theorem dX2_timeOrder_26 : decode cX2_timeOrder 26 = .ok (.iaload, 1) := by decide +kernel
theorem dX2_timeOrder_27 : decode cX2_timeOrder 27 = .ok (.istore 5, 2) := by decide +kernel
theorem dX2_timeOrder_29 : decode cX2_timeOrder 29 = .ok (.aload_n 0, 1) := by decide +kernel
theorem dX2_timeOrder_30 : decode cX2_timeOrder 30 = .ok (.getfield 45, 3) := by decide +kernel
theorem dX2_timeOrder_33 : decode cX2_timeOrder 33 = .ok (.iload 4, 2) := by decide +kernel
theorem dX2_timeOrder_35 : decode cX2_timeOrder 35 = .ok (.aload_n 0, 1) := by decide +kernel
theorem dX2_timeOrder_36 : decode cX2_timeOrder 36 = .ok (.iload 5, 2) := by decide +kernel
theorem dX2_timeOrder_38 : decode cX2_timeOrder 38 = .ok (.iload_n 3, 1) := by decide +kernel
theorem dX2_timeOrder_39 : decode cX2_timeOrder 39 = .ok (.aload_n 0, 1) := by decide +kernel
theorem dX2_timeOrder_40 : decode cX2_timeOrder 40 = .ok (.getfield 24, 3) := by decide +kernel
theorem dX2_timeOrder_43 : decode cX2_timeOrder 43 = .ok (.iload_n 2, 1) := by decide +kernel
theorem dX2_timeOrder_44 : decode cX2_timeOrder 44 = .ok (.bipush 11, 2) := by decide +kernel
theorem dX2_timeOrder_46 : decode cX2_timeOrder 46 = .ok (.imul, 1) := by decide +kernel
theorem dX2_timeOrder_47 : decode cX2_timeOrder 47 = .ok (.iload 5, 2) := by decide +kernel
theorem dX2_timeOrder_49 : decode cX2_timeOrder 49 = .ok (.iadd, 1) := by decide +kernel
theorem dX2_timeOrder_50 : decode cX2_timeOrder 50 = .ok (.iaload, 1) := by decide +kernel
theorem dX2_timeOrder_51 : decode cX2_timeOrder 51 = .ok (.iadd, 1) := by decide +kernel
theorem dX2_timeOrder_52 : decode cX2_timeOrder 52 = .ok (.invokevirtual 156, 3) := by decide +kernel
theorem dX2_timeOrder_55 : decode cX2_timeOrder 55 = .ok (.iastore, 1) := by decide +kernel
theorem dX2_timeOrder_56 : decode cX2_timeOrder 56 = .ok (.aload_n 0, 1) := by decide +kernel
theorem dX2_timeOrder_57 : decode cX2_timeOrder 57 = .ok (.getfield 45, 3) := by decide +kernel
theorem dX2_timeOrder_60 : decode cX2_timeOrder 60 = .ok (.iload 4, 2) := by decide +kernel
theorem dX2_timeOrder_62 : decode cX2_timeOrder 62 = .ok (.iaload, 1) := by decide +kernel
theorem dX2_timeOrder_63 : decode cX2_timeOrder 63 = .ok (.aload_n 0, 1) := by decide +kernel
theorem dX2_timeOrder_64 : decode cX2_timeOrder 64 = .ok (.getfield 15, 3) := by decide +kernel
theorem dX2_timeOrder_67 : decode cX2_timeOrder 67 = .ok (.iload 5, 2) := by decide +kernel
theorem dX2_timeOrder_69 : decode cX2_timeOrder 69 = .ok (.iaload, 1) := by decide +kernel
theorem dX2_timeOrder_70 : decode cX2_timeOrder 70 = .ok (.iadd, 1) := by decide +kernel
theorem dX2_timeOrder_71 : decode cX2_timeOrder 71 = .ok (.istore_n 3, 1) := by decide +kernel
theorem dX2_timeOrder_72 : decode cX2_timeOrder 72 = .ok (.iload 5, 2) := by decide +kernel
theorem dX2_timeOrder_74 : decode cX2_timeOrder 74 = .ok (.istore_n 2, 1) := by decide +kernel
theorem dX2_timeOrder_75 : decode cX2_timeOrder 75 = .ok (.iinc 4 1, 3) := by decide +kernel
theorem dX2_timeOrder_78 : decode cX2_timeOrder 78 = .ok (.goto (-67), 3) := by decide +kernel
theorem dX2_timeOrder_81 : decode cX2_timeOrder 81 = .ok (.return_, 1) := by decide +kernel
theorem dX3_init_0 : decode cX3_init 0 = .ok (.aload_n 0, 1) := by decide +kernel
theorem dX3_init_1 : decode cX3_init 1 = .ok (.invokespecial 3, 3) := by decide +kernel
theorem dX3_init_4 : decode cX3_init 4 = .ok (.aload_n 0, 1) := by decide +kernel
theorem dX3_init_5 : decode cX3_init 5 = .ok (.bipush 8, 2) := by decide +kernel
theorem dX3_init_7 : decode cX3_init 7 = .ok (.newarray .int, 2) := by decide +kernel
theorem dX3_init_9 : decode cX3_init 9 = .ok (.putfield 9, 3) := by decide +kernel
theorem dX3_init_12 : decode cX3_init 12 = .ok (.return_, 1) := by decide +kernel
theorem dX3_isLit_0 : decode cX3_isLit 0 = .ok (.aload_n 0, 1) := by decide +kernel
theorem dX3_isLit_1 : decode cX3_isLit 1 = .ok (.getfield 15, 3) := by decide +kernel
theorem dX3_isLit_4 : decode cX3_isLit 4 = .ok (.ifCond .le 7, 3) := by decide +kernel
theorem dX3_isLit_7 : decode cX3_isLit 7 = .ok (.iconst 1, 1) := by decide +kernel
theorem dX3_isLit_8 : decode cX3_isLit 8 = .ok (.goto 4, 3) := by decide +kernel
theorem dX3_isLit_11 : decode cX3_isLit 11 = .ok (.iconst 0, 1) := by decide +kernel
theorem dX3_isLit_12 : decode cX3_isLit 12 = .ok (.ireturn, 1) := by decide +kernel
theorem dX3_goDark_0 : decode cX3_goDark 0 = .ok (.aload_n 0, 1) := by decide +kernel
theorem dX3_goDark_1 : decode cX3_goDark 1 = .ok (.iconst 0, 1) := by decide +kernel
theorem dX3_goDark_2 : decode cX3_goDark 2 = .ok (.putfield 15, 3) := by decide +kernel
theorem dX3_goDark_5 : decode cX3_goDark 5 = .ok (.return_, 1) := by decide +kernel
theorem mwX3_read_0 : (.code yX8_within cX8_within 3 (some .boolean) : Cond) ∈ wsX3_read := (List.mem_cons_of_mem _ (List.mem_append_left _ (memL 4 rfl)))
set_option maxRecDepth 20000 in
theorem sbX3_read_X8_within : SubW wsX8_within wsX3_read := (subW_cons mwX3_read_0 subW_nil)
set_option maxRecDepth 20000 in
theorem gw_wsX3_read : goodW wsX3_read := (goodW_cons rfl (goodW_app (goodW_of (by decide +kernel)) gw_wsX30))
theorem ggX3_read_X8_within : GoodIn wsX3_read wsX8_within := goodIn_W gw_wsX3_read sbX3_read_X8_within
set_option maxRecDepth 20000 in
theorem gX3_read_X8_within_n19 : GoodIn wsX3_read (wsX8_within) := ggX3_read_X8_within
theorem dX3_read_0 : decode cX3_read 0 = .ok (.iload_n 1, 1) := by decide +kernel
theorem dX3_read_1 : decode cX3_read 1 = .ok (.iconst 1, 1) := by decide +kernel
theorem dX3_read_2 : decode cX3_read 2 = .ok (.bipush 8, 2) := by decide +kernel
theorem dX3_read_4 : decode cX3_read 4 = .ok (.invokestatic 19, 3) := by decide +kernel
theorem dX3_read_7 : decode cX3_read 7 = .ok (.ifCond .eq 9, 3) := by decide +kernel
theorem dX3_read_10 : decode cX3_read 10 = .ok (.iload_n 1, 1) := by decide +kernel
theorem dX3_read_11 : decode cX3_read 11 = .ok (.iconst 2, 1) := by decide +kernel
theorem dX3_read_12 : decode cX3_read 12 = .ok (.irem, 1) := by decide +kernel
theorem dX3_read_13 : decode cX3_read 13 = .ok (.ifCond .eq 5, 3) := by decide +kernel
theorem dX3_read_16 : decode cX3_read 16 = .ok (.iconst 0, 1) := by decide +kernel
theorem dX3_read_17 : decode cX3_read 17 = .ok (.ireturn, 1) := by decide +kernel
theorem dX3_read_18 : decode cX3_read 18 = .ok (.iload_n 2, 1) := by decide +kernel
theorem dX3_read_19 : decode cX3_read 19 = .ok (.istore_n 3, 1) := by decide +kernel
theorem dX3_read_20 : decode cX3_read 20 = .ok (.iconst 0, 1) := by decide +kernel
theorem dX3_read_21 : decode cX3_read 21 = .ok (.istore 4, 2) := by decide +kernel
theorem dX3_read_23 : decode cX3_read 23 = .ok (.iload 4, 2) := by decide +kernel
theorem dX3_read_25 : decode cX3_read 25 = .ok (.iload_n 1, 1) := by decide +kernel
theorem dX3_read_26 : decode cX3_read 26 = .ok (.if_icmp .ge 36, 3) := by decide +kernel
theorem dX3_read_29 : decode cX3_read 29 = .ok (.iload_n 3, 1) := by decide +kernel
theorem dX3_read_30 : decode cX3_read 30 = .ok (.bipush 10, 2) := by decide +kernel
theorem dX3_read_32 : decode cX3_read 32 = .ok (.irem, 1) := by decide +kernel
theorem dX3_read_33 : decode cX3_read 33 = .ok (.istore 5, 2) := by decide +kernel
theorem dX3_read_35 : decode cX3_read 35 = .ok (.iload 5, 2) := by decide +kernel
theorem dX3_read_37 : decode cX3_read 37 = .ok (.ifCond .gt 5, 3) := by decide +kernel
theorem dX3_read_40 : decode cX3_read 40 = .ok (.iconst 0, 1) := by decide +kernel
theorem dX3_read_41 : decode cX3_read 41 = .ok (.ireturn, 1) := by decide +kernel
theorem dX3_read_42 : decode cX3_read 42 = .ok (.aload_n 0, 1) := by decide +kernel
theorem dX3_read_43 : decode cX3_read 43 = .ok (.getfield 9, 3) := by decide +kernel
theorem dX3_read_46 : decode cX3_read 46 = .ok (.iload 4, 2) := by decide +kernel
theorem dX3_read_48 : decode cX3_read 48 = .ok (.iload 5, 2) := by decide +kernel
theorem dX3_read_50 : decode cX3_read 50 = .ok (.iastore, 1) := by decide +kernel
theorem dX3_read_51 : decode cX3_read 51 = .ok (.iload_n 3, 1) := by decide +kernel
theorem dX3_read_52 : decode cX3_read 52 = .ok (.bipush 10, 2) := by decide +kernel
theorem dX3_read_54 : decode cX3_read 54 = .ok (.idiv, 1) := by decide +kernel
theorem dX3_read_55 : decode cX3_read 55 = .ok (.istore_n 3, 1) := by decide +kernel
theorem dX3_read_56 : decode cX3_read 56 = .ok (.iinc 4 1, 3) := by decide +kernel
theorem dX3_read_59 : decode cX3_read 59 = .ok (.goto (-36), 3) := by decide +kernel
theorem dX3_read_62 : decode cX3_read 62 = .ok (.aload_n 0, 1) := by decide +kernel
theorem dX3_read_63 : decode cX3_read 63 = .ok (.iload_n 1, 1) := by decide +kernel
theorem dX3_read_64 : decode cX3_read 64 = .ok (.putfield 15, 3) := by decide +kernel
theorem dX3_read_67 : decode cX3_read 67 = .ok (.iload_n 3, 1) := by decide +kernel
theorem dX3_read_68 : decode cX3_read 68 = .ok (.ifCond .ne 7, 3) := by decide +kernel
theorem dX3_read_71 : decode cX3_read 71 = .ok (.iconst 1, 1) := by decide +kernel
theorem dX3_read_72 : decode cX3_read 72 = .ok (.goto 4, 3) := by decide +kernel
theorem dX3_read_75 : decode cX3_read 75 = .ok (.iconst 0, 1) := by decide +kernel
theorem dX3_read_76 : decode cX3_read 76 = .ok (.ireturn, 1) := by decide +kernel
theorem dX3_copyFrom_0 : decode cX3_copyFrom 0 = .ok (.aload_n 1, 1) := by decide +kernel
theorem dX3_copyFrom_1 : decode cX3_copyFrom 1 = .ok (.getfield 9, 3) := by decide +kernel
theorem dX3_copyFrom_4 : decode cX3_copyFrom 4 = .ok (.iconst 0, 1) := by decide +kernel
theorem dX3_copyFrom_5 : decode cX3_copyFrom 5 = .ok (.aload_n 0, 1) := by decide +kernel
theorem dX3_copyFrom_6 : decode cX3_copyFrom 6 = .ok (.getfield 9, 3) := by decide +kernel
theorem dX3_copyFrom_9 : decode cX3_copyFrom 9 = .ok (.iconst 0, 1) := by decide +kernel
theorem dX3_copyFrom_10 : decode cX3_copyFrom 10 = .ok (.bipush 8, 2) := by decide +kernel
theorem dX3_copyFrom_12 : decode cX3_copyFrom 12 = .ok (.invokestatic 23, 3) := by decide +kernel
theorem dX3_copyFrom_15 : decode cX3_copyFrom 15 = .ok (.aload_n 0, 1) := by decide +kernel
theorem dX3_copyFrom_16 : decode cX3_copyFrom 16 = .ok (.aload_n 1, 1) := by decide +kernel
theorem dX3_copyFrom_17 : decode cX3_copyFrom 17 = .ok (.getfield 15, 3) := by decide +kernel
theorem dX3_copyFrom_20 : decode cX3_copyFrom 20 = .ok (.putfield 15, 3) := by decide +kernel
theorem dX3_copyFrom_23 : decode cX3_copyFrom 23 = .ok (.return_, 1) := by decide +kernel
theorem mwX3_matches_0 : (.code yX3_matchesTurned cX3_matchesTurned 4 (some .boolean) : Cond) ∈ wsX3_matches := (List.mem_cons_of_mem _ (List.mem_append_left _ (memL 5 rfl)))
theorem mwX3_matches_1 : (.fieldLink RX3 9 "BuoyTender$Rhythm" "steps" "[I" : Cond) ∈ wsX3_matches := (List.mem_cons_of_mem _ (List.mem_append_left _ (memL 6 rfl)))
theorem mwX3_matches_2 : (.fieldLink RX3 15 "BuoyTender$Rhythm" "many" "I" : Cond) ∈ wsX3_matches := (List.mem_cons_of_mem _ (List.mem_append_left _ (memL 0 rfl)))
set_option maxRecDepth 20000 in
theorem sbX3_matches_X30 : SubW wsX30 wsX3_matches := fun _ h => (List.mem_cons_of_mem _ (List.mem_append_right _ h))
set_option maxRecDepth 20000 in
theorem sbX3_matches_X3_matchesTurned : SubW wsX3_matchesTurned wsX3_matches := (subW_cons mwX3_matches_0 (subW_app (subW_cons mwX3_matches_2 (subW_cons mwX3_matches_1 subW_nil)) sbX3_matches_X30))
set_option maxRecDepth 20000 in
theorem gw_wsX3_matches : goodW wsX3_matches := (goodW_cons rfl (goodW_app (goodW_of (by decide +kernel)) gw_wsX30))
theorem ggX3_matches_X3_matchesTurned : GoodIn wsX3_matches wsX3_matchesTurned := goodIn_W gw_wsX3_matches sbX3_matches_X3_matchesTurned
theorem mwX3_matches_3 : (.initialized RX3 : Cond) ∈ wsX3_matches := (List.mem_cons_of_mem _ (List.mem_append_left _ (memL 4 rfl)))
theorem mwX3_matches_4 : (.selects RX3 yX3_matchesTurned yX3_matchesTurned : Cond) ∈ wsX3_matches := (List.mem_cons_of_mem _ (List.mem_append_left _ (memL 3 rfl)))
theorem mwX3_matches_5 : (.instanceMethod yX3_matchesTurned : Cond) ∈ wsX3_matches := (List.mem_cons_of_mem _ (List.mem_append_left _ (memL 2 rfl)))
theorem mwX3_matches_6 : (.methodLink RX3 29 yX3_matchesTurned : Cond) ∈ wsX3_matches := (List.mem_cons_of_mem _ (List.mem_append_left _ (memL 1 rfl)))
theorem gX3_matches_X3_matchesTurned : GoodIn wsX3_matches (wsV RX3 29 RX3 yX3_matchesTurned wsX3_matchesTurned) := goodIn_W gw_wsX3_matches (subW_app (subW_cons mwX3_matches_6 (subW_cons mwX3_matches_5 (subW_cons mwX3_matches_4 (subW_cons mwX3_matches_3 subW_nil)))) sbX3_matches_X3_matchesTurned)
theorem dX3_matches_0 : decode cX3_matches 0 = .ok (.aload_n 0, 1) := by decide +kernel
theorem dX3_matches_1 : decode cX3_matches 1 = .ok (.getfield 15, 3) := by decide +kernel
theorem dX3_matches_4 : decode cX3_matches 4 = .ok (.aload_n 1, 1) := by decide +kernel
theorem dX3_matches_5 : decode cX3_matches 5 = .ok (.getfield 15, 3) := by decide +kernel
theorem dX3_matches_8 : decode cX3_matches 8 = .ok (.if_icmp .eq 5, 3) := by decide +kernel
theorem dX3_matches_11 : decode cX3_matches 11 = .ok (.iconst 0, 1) := by decide +kernel
theorem dX3_matches_12 : decode cX3_matches 12 = .ok (.ireturn, 1) := by decide +kernel
theorem dX3_matches_13 : decode cX3_matches 13 = .ok (.iconst 0, 1) := by decide +kernel
theorem dX3_matches_14 : decode cX3_matches 14 = .ok (.istore_n 2, 1) := by decide +kernel
theorem dX3_matches_15 : decode cX3_matches 15 = .ok (.iload_n 2, 1) := by decide +kernel
theorem dX3_matches_16 : decode cX3_matches 16 = .ok (.aload_n 0, 1) := by decide +kernel
theorem dX3_matches_17 : decode cX3_matches 17 = .ok (.getfield 15, 3) := by decide +kernel
theorem dX3_matches_20 : decode cX3_matches 20 = .ok (.if_icmp .ge 20, 3) := by decide +kernel
theorem dX3_matches_23 : decode cX3_matches 23 = .ok (.aload_n 0, 1) := by decide +kernel
theorem dX3_matches_24 : decode cX3_matches 24 = .ok (.aload_n 1, 1) := by decide +kernel
theorem dX3_matches_25 : decode cX3_matches 25 = .ok (.iload_n 2, 1) := by decide +kernel
theorem dX3_matches_26 : decode cX3_matches 26 = .ok (.invokevirtual 29, 3) := by decide +kernel
theorem dX3_matches_29 : decode cX3_matches 29 = .ok (.ifCond .eq 5, 3) := by decide +kernel
theorem dX3_matches_32 : decode cX3_matches 32 = .ok (.iconst 1, 1) := by decide +kernel
theorem dX3_matches_33 : decode cX3_matches 33 = .ok (.ireturn, 1) := by decide +kernel
theorem dX3_matches_34 : decode cX3_matches 34 = .ok (.iinc 2 2, 3) := by decide +kernel
theorem dX3_matches_37 : decode cX3_matches 37 = .ok (.goto (-22), 3) := by decide +kernel
theorem dX3_matches_40 : decode cX3_matches 40 = .ok (.iconst 0, 1) := by decide +kernel
theorem dX3_matches_41 : decode cX3_matches 41 = .ok (.ireturn, 1) := by decide +kernel
theorem dX3_matchesTurned_0 : decode cX3_matchesTurned 0 = .ok (.iconst 0, 1) := by decide +kernel
theorem dX3_matchesTurned_1 : decode cX3_matchesTurned 1 = .ok (.istore_n 3, 1) := by decide +kernel
theorem dX3_matchesTurned_2 : decode cX3_matchesTurned 2 = .ok (.iload_n 3, 1) := by decide +kernel
theorem dX3_matchesTurned_3 : decode cX3_matchesTurned 3 = .ok (.aload_n 0, 1) := by decide +kernel
theorem dX3_matchesTurned_4 : decode cX3_matchesTurned 4 = .ok (.getfield 15, 3) := by decide +kernel
theorem dX3_matchesTurned_7 : decode cX3_matchesTurned 7 = .ok (.if_icmp .ge 33, 3) := by decide +kernel
theorem dX3_matchesTurned_10 : decode cX3_matchesTurned 10 = .ok (.aload_n 0, 1) := by decide +kernel
theorem dX3_matchesTurned_11 : decode cX3_matchesTurned 11 = .ok (.getfield 9, 3) := by decide +kernel
theorem dX3_matchesTurned_14 : decode cX3_matchesTurned 14 = .ok (.iload_n 3, 1) := by decide +kernel
theorem dX3_matchesTurned_15 : decode cX3_matchesTurned 15 = .ok (.iload_n 2, 1) := by decide +kernel
theorem dX3_matchesTurned_16 : decode cX3_matchesTurned 16 = .ok (.iadd, 1) := by decide +kernel
theorem dX3_matchesTurned_17 : decode cX3_matchesTurned 17 = .ok (.aload_n 0, 1) := by decide +kernel
theorem dX3_matchesTurned_18 : decode cX3_matchesTurned 18 = .ok (.getfield 15, 3) := by decide +kernel
theorem dX3_matchesTurned_21 : decode cX3_matchesTurned 21 = .ok (.irem, 1) := by decide +kernel
theorem dX3_matchesTurned_22 : decode cX3_matchesTurned 22 = .ok (.iaload, 1) := by decide +kernel
theorem dX3_matchesTurned_23 : decode cX3_matchesTurned 23 = .ok (.aload_n 1, 1) := by decide +kernel
theorem dX3_matchesTurned_24 : decode cX3_matchesTurned 24 = .ok (.getfield 9, 3) := by decide +kernel
theorem dX3_matchesTurned_27 : decode cX3_matchesTurned 27 = .ok (.iload_n 3, 1) := by decide +kernel
theorem dX3_matchesTurned_28 : decode cX3_matchesTurned 28 = .ok (.iaload, 1) := by decide +kernel
theorem dX3_matchesTurned_29 : decode cX3_matchesTurned 29 = .ok (.if_icmp .eq 5, 3) := by decide +kernel
theorem dX3_matchesTurned_32 : decode cX3_matchesTurned 32 = .ok (.iconst 0, 1) := by decide +kernel
theorem dX3_matchesTurned_33 : decode cX3_matchesTurned 33 = .ok (.ireturn, 1) := by decide +kernel
theorem dX3_matchesTurned_34 : decode cX3_matchesTurned 34 = .ok (.iinc 3 1, 3) := by decide +kernel
theorem dX3_matchesTurned_37 : decode cX3_matchesTurned 37 = .ok (.goto (-35), 3) := by decide +kernel
theorem dX3_matchesTurned_40 : decode cX3_matchesTurned 40 = .ok (.iconst 1, 1) := by decide +kernel
theorem dX3_matchesTurned_41 : decode cX3_matchesTurned 41 = .ok (.ireturn, 1) := by decide +kernel
theorem dX4_init_0 : decode cX4_init 0 = .ok (.aload_n 0, 1) := by decide +kernel
theorem dX4_init_1 : decode cX4_init 1 = .ok (.invokespecial 3, 3) := by decide +kernel
theorem dX4_init_4 : decode cX4_init 4 = .ok (.aload_n 0, 1) := by decide +kernel
theorem dX4_init_5 : decode cX4_init 5 = .ok (.bipush 24, 2) := by decide +kernel
theorem dX4_init_7 : decode cX4_init 7 = .ok (.newarray .int, 2) := by decide +kernel
theorem dX4_init_9 : decode cX4_init 9 = .ok (.putfield 9, 3) := by decide +kernel
theorem dX4_init_12 : decode cX4_init 12 = .ok (.aload_n 0, 1) := by decide +kernel
theorem dX4_init_13 : decode cX4_init 13 = .ok (.bipush 24, 2) := by decide +kernel
theorem dX4_init_15 : decode cX4_init 15 = .ok (.newarray .int, 2) := by decide +kernel
theorem dX4_init_17 : decode cX4_init 17 = .ok (.putfield 15, 3) := by decide +kernel
theorem dX4_init_20 : decode cX4_init 20 = .ok (.aload_n 0, 1) := by decide +kernel
theorem dX4_init_21 : decode cX4_init 21 = .ok (.sipush 1440, 3) := by decide +kernel
theorem dX4_init_24 : decode cX4_init 24 = .ok (.putfield 18, 3) := by decide +kernel
theorem dX4_init_27 : decode cX4_init 27 = .ok (.aload_n 0, 1) := by decide +kernel
theorem dX4_init_28 : decode cX4_init 28 = .ok (.iconst 1, 1) := by decide +kernel
theorem dX4_init_29 : decode cX4_init 29 = .ok (.putfield 22, 3) := by decide +kernel
theorem dX4_init_32 : decode cX4_init 32 = .ok (.aload_n 0, 1) := by decide +kernel
theorem dX4_init_33 : decode cX4_init 33 = .ok (.bipush 12, 2) := by decide +kernel
theorem dX4_init_35 : decode cX4_init 35 = .ok (.putfield 25, 3) := by decide +kernel
theorem dX4_init_38 : decode cX4_init 38 = .ok (.return_, 1) := by decide +kernel
theorem dX4_mayBegin_0 : decode cX4_mayBegin 0 = .ok (.iload_n 1, 1) := by decide +kernel
theorem dX4_mayBegin_1 : decode cX4_mayBegin 1 = .ok (.aload_n 0, 1) := by decide +kernel
theorem dX4_mayBegin_2 : decode cX4_mayBegin 2 = .ok (.getfield 9, 3) := by decide +kernel
theorem dX4_mayBegin_5 : decode cX4_mayBegin 5 = .ok (.iload_n 2, 1) := by decide +kernel
theorem dX4_mayBegin_6 : decode cX4_mayBegin 6 = .ok (.iaload, 1) := by decide +kernel
theorem dX4_mayBegin_7 : decode cX4_mayBegin 7 = .ok (.iadd, 1) := by decide +kernel
theorem dX4_mayBegin_8 : decode cX4_mayBegin 8 = .ok (.aload_n 0, 1) := by decide +kernel
theorem dX4_mayBegin_9 : decode cX4_mayBegin 9 = .ok (.getfield 28, 3) := by decide +kernel
theorem dX4_mayBegin_12 : decode cX4_mayBegin 12 = .ok (.if_icmp .lt 20, 3) := by decide +kernel
theorem dX4_mayBegin_15 : decode cX4_mayBegin 15 = .ok (.aload_n 0, 1) := by decide +kernel
theorem dX4_mayBegin_16 : decode cX4_mayBegin 16 = .ok (.getfield 15, 3) := by decide +kernel
theorem dX4_mayBegin_19 : decode cX4_mayBegin 19 = .ok (.iload_n 2, 1) := by decide +kernel
theorem dX4_mayBegin_20 : decode cX4_mayBegin 20 = .ok (.iaload, 1) := by decide +kernel
theorem dX4_mayBegin_21 : decode cX4_mayBegin 21 = .ok (.aload_n 0, 1) := by decide +kernel
theorem dX4_mayBegin_22 : decode cX4_mayBegin 22 = .ok (.getfield 25, 3) := by decide +kernel
theorem dX4_mayBegin_25 : decode cX4_mayBegin 25 = .ok (.if_icmp .gt 7, 3) := by decide +kernel
theorem dX4_mayBegin_28 : decode cX4_mayBegin 28 = .ok (.iconst 1, 1) := by decide +kernel
theorem dX4_mayBegin_29 : decode cX4_mayBegin 29 = .ok (.goto 4, 3) := by decide +kernel
theorem dX4_mayBegin_32 : decode cX4_mayBegin 32 = .ok (.iconst 0, 1) := by decide +kernel
theorem dX4_mayBegin_33 : decode cX4_mayBegin 33 = .ok (.ireturn, 1) := by decide +kernel
theorem dX5_init_0 : decode cX5_init 0 = .ok (.aload_n 0, 1) := by decide +kernel
theorem dX5_init_1 : decode cX5_init 1 = .ok (.invokespecial 3, 3) := by decide +kernel
theorem dX5_init_4 : decode cX5_init 4 = .ok (.aload_n 0, 1) := by decide +kernel
theorem dX5_init_5 : decode cX5_init 5 = .ok (.bipush 40, 2) := by decide +kernel
theorem dX5_init_7 : decode cX5_init 7 = .ok (.newarray .long, 2) := by decide +kernel
theorem dX5_init_9 : decode cX5_init 9 = .ok (.putfield 9, 3) := by decide +kernel
theorem dX5_init_12 : decode cX5_init 12 = .ok (.aload_n 0, 1) := by decide +kernel
theorem dX5_init_13 : decode cX5_init 13 = .ok (.sipush 200, 3) := by decide +kernel
theorem dX5_init_16 : decode cX5_init 16 = .ok (.putfield 15, 3) := by decide +kernel
theorem dX5_init_19 : decode cX5_init 19 = .ok (.return_, 1) := by decide +kernel
theorem mwX5_begin_0 : (.code yJ7_fill_d0a16 cJ7_fill_d0a16 5 none : Cond) ∈ wsX5_begin := (List.mem_cons_of_mem _ (List.mem_append_left _ (memL 7 rfl)))
set_option maxRecDepth 20000 in
theorem sbX5_begin_J7_fill_d0a16 : SubW wsJ7_fill_d0a16 wsX5_begin := (subW_cons mwX5_begin_0 subW_nil)
set_option maxRecDepth 20000 in
theorem gw_wsX5_begin : goodW wsX5_begin := (goodW_cons rfl (goodW_app (goodW_of (by decide +kernel)) gw_wsX50))
theorem ggX5_begin_J7_fill_d0a16 : GoodIn wsX5_begin wsJ7_fill_d0a16 := goodIn_W gw_wsX5_begin sbX5_begin_J7_fill_d0a16
theorem mwX5_begin_1 : (.initialized RJ7 : Cond) ∈ wsX5_begin := (List.mem_cons_of_mem _ (List.mem_append_left _ (memL 6 rfl)))
theorem mwX5_begin_2 : (.static yJ7_fill_d0a16 : Cond) ∈ wsX5_begin := (List.mem_cons_of_mem _ (List.mem_append_left _ (memL 5 rfl)))
theorem mwX5_begin_3 : (.methodLink RX5 19 yJ7_fill_d0a16 : Cond) ∈ wsX5_begin := (List.mem_cons_of_mem _ (List.mem_append_left _ (memL 4 rfl)))
theorem gX5_begin_J7_fill_d0a16 : GoodIn wsX5_begin (va_wsS RX5 19 yJ7_fill_d0a16 wsJ7_fill_d0a16) := goodIn_W gw_wsX5_begin (subW_app (subW_cons mwX5_begin_3 (subW_cons mwX5_begin_2 (subW_cons mwX5_begin_1 subW_nil))) sbX5_begin_J7_fill_d0a16)
theorem dX5_begin_0 : decode cX5_begin 0 = .ok (.aload_n 0, 1) := by decide +kernel
theorem dX5_begin_1 : decode cX5_begin 1 = .ok (.getfield 9, 3) := by decide +kernel
theorem dX5_begin_4 : decode cX5_begin 4 = .ok (.lconst 0, 1) := by decide +kernel
theorem dX5_begin_5 : decode cX5_begin 5 = .ok (.invokestatic 19, 3) := by decide +kernel
theorem dX5_begin_8 : decode cX5_begin 8 = .ok (.aload_n 0, 1) := by decide +kernel
theorem dX5_begin_9 : decode cX5_begin 9 = .ok (.iconst 0, 1) := by decide +kernel
theorem dX5_begin_10 : decode cX5_begin 10 = .ok (.putfield 25, 3) := by decide +kernel
theorem dX5_begin_13 : decode cX5_begin 13 = .ok (.aload_n 0, 1) := by decide +kernel
theorem dX5_begin_14 : decode cX5_begin 14 = .ok (.sipush 200, 3) := by decide +kernel
theorem dX5_begin_17 : decode cX5_begin 17 = .ok (.putfield 15, 3) := by decide +kernel
theorem dX5_begin_20 : decode cX5_begin 20 = .ok (.aload_n 0, 1) := by decide +kernel
theorem dX5_begin_21 : decode cX5_begin 21 = .ok (.iconst 0, 1) := by decide +kernel
theorem dX5_begin_22 : decode cX5_begin 22 = .ok (.putfield 28, 3) := by decide +kernel
theorem dX5_begin_25 : decode cX5_begin 25 = .ok (.return_, 1) := by decide +kernel
theorem dX5_tellBearing_0 : decode cX5_tellBearing 0 = .ok (.iconst 0, 1) := by decide +kernel
theorem dX5_tellBearing_1 : decode cX5_tellBearing 1 = .ok (.istore 7, 2) := by decide +kernel
theorem dX5_tellBearing_3 : decode cX5_tellBearing 3 = .ok (.iload 7, 2) := by decide +kernel
theorem dX5_tellBearing_5 : decode cX5_tellBearing 5 = .ok (.bipush 40, 2) := by decide +kernel
theorem dX5_tellBearing_7 : decode cX5_tellBearing 7 = .ok (.if_icmp .ge 99, 3) := by decide +kernel
theorem dX5_tellBearing_10 : decode cX5_tellBearing 10 = .ok (.aload_n 0, 1) := by decide +kernel
theorem dX5_tellBearing_11 : decode cX5_tellBearing 11 = .ok (.getfield 9, 3) := by decide +kernel
theorem dX5_tellBearing_14 : decode cX5_tellBearing 14 = .ok (.iload 7, 2) := by decide +kernel
theorem dX5_tellBearing_16 : decode cX5_tellBearing 16 = .ok (.laload, 1) := by decide +kernel
theorem dX5_tellBearing_17 : decode cX5_tellBearing 17 = .ok (.lstore 8, 2) := by decide +kernel
theorem dX5_tellBearing_19 : decode cX5_tellBearing 19 = .ok (.iconst 0, 1) := by decide +kernel
theorem dX5_tellBearing_20 : decode cX5_tellBearing 20 = .ok (.istore 10, 2) := by decide +kernel
theorem dX5_tellBearing_22 : decode cX5_tellBearing 22 = .ok (.iload 10, 2) := by decide +kernel
theorem dX5_tellBearing_24 : decode cX5_tellBearing 24 = .ok (.bipush 40, 2) := by decide +kernel
theorem dX5_tellBearing_26 : decode cX5_tellBearing 26 = .ok (.if_icmp .ge 65, 3) := by decide +kernel
theorem dX5_tellBearing_29 : decode cX5_tellBearing 29 = .ok (.iload_n 3, 1) := by decide +kernel
theorem dX5_tellBearing_30 : decode cX5_tellBearing 30 = .ok (.iload 7, 2) := by decide +kernel
theorem dX5_tellBearing_32 : decode cX5_tellBearing 32 = .ok (.iload_n 2, 1) := by decide +kernel
theorem dX5_tellBearing_33 : decode cX5_tellBearing 33 = .ok (.isub, 1) := by decide +kernel
theorem dX5_tellBearing_34 : decode cX5_tellBearing 34 = .ok (.imul, 1) := by decide +kernel
theorem dX5_tellBearing_35 : decode cX5_tellBearing 35 = .ok (.iload 4, 2) := by decide +kernel
theorem dX5_tellBearing_37 : decode cX5_tellBearing 37 = .ok (.iload 10, 2) := by decide +kernel
theorem dX5_tellBearing_39 : decode cX5_tellBearing 39 = .ok (.iload_n 1, 1) := by decide +kernel
theorem dX5_tellBearing_40 : decode cX5_tellBearing 40 = .ok (.isub, 1) := by decide +kernel
theorem dX5_tellBearing_41 : decode cX5_tellBearing 41 = .ok (.imul, 1) := by decide +kernel
theorem dX5_tellBearing_42 : decode cX5_tellBearing 42 = .ok (.isub, 1) := by decide +kernel
theorem dX5_tellBearing_43 : decode cX5_tellBearing 43 = .ok (.ifCond .lt 25, 3) := by decide +kernel
theorem dX5_tellBearing_46 : decode cX5_tellBearing 46 = .ok (.iload 5, 2) := by decide +kernel
theorem dX5_tellBearing_48 : decode cX5_tellBearing 48 = .ok (.iload 7, 2) := by decide +kernel
theorem dX5_tellBearing_50 : decode cX5_tellBearing 50 = .ok (.iload_n 2, 1) := by decide +kernel
theorem dX5_tellBearing_51 : decode cX5_tellBearing 51 = .ok (.isub, 1) := by decide +kernel
theorem dX5_tellBearing_52 : decode cX5_tellBearing 52 = .ok (.imul, 1) := by decide +kernel
theorem dX5_tellBearing_53 : decode cX5_tellBearing 53 = .ok (.iload 6, 2) := by decide +kernel
theorem dX5_tellBearing_55 : decode cX5_tellBearing 55 = .ok (.iload 10, 2) := by decide +kernel
theorem dX5_tellBearing_57 : decode cX5_tellBearing 57 = .ok (.iload_n 1, 1) := by decide +kernel
theorem dX5_tellBearing_58 : decode cX5_tellBearing 58 = .ok (.isub, 1) := by decide +kernel
theorem dX5_tellBearing_59 : decode cX5_tellBearing 59 = .ok (.imul, 1) := by decide +kernel
theorem dX5_tellBearing_60 : decode cX5_tellBearing 60 = .ok (.isub, 1) := by decide +kernel
theorem dX5_tellBearing_61 : decode cX5_tellBearing 61 = .ok (.ifCond .gt 7, 3) := by decide +kernel
theorem dX5_tellBearing_64 : decode cX5_tellBearing 64 = .ok (.iconst 1, 1) := by decide +kernel
theorem dX5_tellBearing_65 : decode cX5_tellBearing 65 = .ok (.goto 4, 3) := by decide +kernel
theorem dX5_tellBearing_68 : decode cX5_tellBearing 68 = .ok (.iconst 0, 1) := by decide +kernel
theorem dX5_tellBearing_69 : decode cX5_tellBearing 69 = .ok (.istore 11, 2) := by decide +kernel
theorem dX5_tellBearing_71 : decode cX5_tellBearing 71 = .ok (.iload 11, 2) := by decide +kernel
theorem dX5_tellBearing_73 : decode cX5_tellBearing 73 = .ok (.ifCond .ne 12, 3) := by decide +kernel
theorem dX5_tellBearing_76 : decode cX5_tellBearing 76 = .ok (.lload 8, 2) := by decide +kernel
theorem dX5_tellBearing_78 : decode cX5_tellBearing 78 = .ok (.lconst 1, 1) := by decide +kernel
theorem dX5_tellBearing_79 : decode cX5_tellBearing 79 = .ok (.iload 10, 2) := by decide +kernel
theorem dX5_tellBearing_81 : decode cX5_tellBearing 81 = .ok (.lshl, 1) := by decide +kernel
theorem dX5_tellBearing_82 : decode cX5_tellBearing 82 = .ok (.lor, 1) := by decide +kernel
theorem dX5_tellBearing_83 : decode cX5_tellBearing 83 = .ok (.lstore 8, 2) := by decide +kernel
theorem dX5_tellBearing_85 : decode cX5_tellBearing 85 = .ok (.iinc 10 1, 3) := by decide +kernel
theorem dX5_tellBearing_88 : decode cX5_tellBearing 88 = .ok (.goto (-66), 3) := by decide +kernel
theorem dX5_tellBearing_91 : decode cX5_tellBearing 91 = .ok (.aload_n 0, 1) := by decide +kernel
theorem dX5_tellBearing_92 : decode cX5_tellBearing 92 = .ok (.getfield 9, 3) := by decide +kernel
theorem dX5_tellBearing_95 : decode cX5_tellBearing 95 = .ok (.iload 7, 2) := by decide +kernel
theorem dX5_tellBearing_97 : decode cX5_tellBearing 97 = .ok (.lload 8, 2) := by decide +kernel
theorem dX5_tellBearing_99 : decode cX5_tellBearing 99 = .ok (.lastore, 1) := by decide +kernel
theorem dX5_tellBearing_100 : decode cX5_tellBearing 100 = .ok (.iinc 7 1, 3) := by decide +kernel
theorem dX5_tellBearing_103 : decode cX5_tellBearing 103 = .ok (.goto (-100), 3) := by decide +kernel
theorem dX5_tellBearing_106 : decode cX5_tellBearing 106 = .ok (.aload_n 0, 1) := by decide +kernel
theorem dX5_tellBearing_107 : decode cX5_tellBearing 107 = .ok (.iconst 1, 1) := by decide +kernel
theorem dX5_tellBearing_108 : decode cX5_tellBearing 108 = .ok (.putfield 28, 3) := by decide +kernel
theorem dX5_tellBearing_111 : decode cX5_tellBearing 111 = .ok (.return_, 1) := by decide +kernel
theorem dX5_tellSounding_0 : decode cX5_tellSounding 0 = .ok (.aload_n 0, 1) := by decide +kernel
theorem dX5_tellSounding_1 : decode cX5_tellSounding 1 = .ok (.aload_n 0, 1) := by decide +kernel
theorem dX5_tellSounding_2 : decode cX5_tellSounding 2 = .ok (.getfield 25, 3) := by decide +kernel
theorem dX5_tellSounding_5 : decode cX5_tellSounding 5 = .ok (.iload_n 1, 1) := by decide +kernel
theorem dX5_tellSounding_6 : decode cX5_tellSounding 6 = .ok (.invokestatic 32, 3) := by decide +kernel
theorem dX5_tellSounding_9 : decode cX5_tellSounding 9 = .ok (.putfield 25, 3) := by decide +kernel
theorem dX5_tellSounding_12 : decode cX5_tellSounding 12 = .ok (.aload_n 0, 1) := by decide +kernel
theorem dX5_tellSounding_13 : decode cX5_tellSounding 13 = .ok (.aload_n 0, 1) := by decide +kernel
theorem dX5_tellSounding_14 : decode cX5_tellSounding 14 = .ok (.getfield 15, 3) := by decide +kernel
theorem dX5_tellSounding_17 : decode cX5_tellSounding 17 = .ok (.iload_n 2, 1) := by decide +kernel
theorem dX5_tellSounding_18 : decode cX5_tellSounding 18 = .ok (.invokestatic 38, 3) := by decide +kernel
theorem dX5_tellSounding_21 : decode cX5_tellSounding 21 = .ok (.putfield 15, 3) := by decide +kernel
theorem dX5_tellSounding_24 : decode cX5_tellSounding 24 = .ok (.aload_n 0, 1) := by decide +kernel
theorem dX5_tellSounding_25 : decode cX5_tellSounding 25 = .ok (.iconst 1, 1) := by decide +kernel
theorem dX5_tellSounding_26 : decode cX5_tellSounding 26 = .ok (.putfield 28, 3) := by decide +kernel
theorem dX5_tellSounding_29 : decode cX5_tellSounding 29 = .ok (.return_, 1) := by decide +kernel
theorem dX6_init_0 : decode cX6_init 0 = .ok (.aload_n 0, 1) := by decide +kernel
theorem dX6_init_1 : decode cX6_init 1 = .ok (.invokespecial 3, 3) := by decide +kernel
theorem dX6_init_4 : decode cX6_init 4 = .ok (.return_, 1) := by decide +kernel
theorem mwX6_take_0 : (.code yX6_count cX6_count 4 none : Cond) ∈ wsX6_take := (List.mem_cons_of_mem _ (List.mem_append_left _ (List.mem_append_left _ (List.mem_append_left _ (memL 10 rfl)))))
theorem mwX6_take_1 : (.code yX8_squareBetween cX8_squareBetween 4 (some .int) : Cond) ∈ wsX6_take := (List.mem_cons_of_mem _ (List.mem_append_left _ (List.mem_append_left _ (List.mem_append_left _ (memL 20 rfl)))))
theorem mwX6_take_2 : (.initialized RX8 : Cond) ∈ wsX6_take := (List.mem_cons_of_mem _ (List.mem_append_left _ (List.mem_append_left _ (List.mem_append_left _ (memL 19 rfl)))))
theorem mwX6_take_3 : (.static yX8_squareBetween : Cond) ∈ wsX6_take := (List.mem_cons_of_mem _ (List.mem_append_left _ (List.mem_append_left _ (List.mem_append_left _ (memL 18 rfl)))))
theorem mwX6_take_4 : (.fieldLink RX6 15 "BuoyTender$Survey" "inRadius" "I" : Cond) ∈ wsX6_take := (List.mem_cons_of_mem _ (List.mem_append_left _ (List.mem_append_left _ (List.mem_append_left _ (memL 1 rfl)))))
theorem mwX6_take_5 : (.fieldLink RX6 27 "BuoyTender$Survey" "mostY" "I" : Cond) ∈ wsX6_take := (List.mem_cons_of_mem _ (List.mem_append_left _ (List.mem_append_left _ (List.mem_append_left _ (memL 5 rfl)))))
theorem mwX6_take_6 : (.code Lib.Math.max.name Lib.Math.max.code 2 (some .int) : Cond) ∈ wsX6_take := (List.mem_cons_of_mem _ (List.mem_append_left _ (List.mem_append_left _ (List.mem_append_left _ (memL 17 rfl)))))
theorem mwX6_take_7 : (.static Lib.Math.max.name : Cond) ∈ wsX6_take := (List.mem_cons_of_mem _ (List.mem_append_left _ (List.mem_append_left _ (List.mem_append_left _ (memL 16 rfl)))))
theorem mwX6_take_8 : (.methodLink RX6 58 Lib.Math.max.name : Cond) ∈ wsX6_take := (List.mem_cons_of_mem _ (List.mem_append_left _ (List.mem_append_left _ (List.mem_append_left _ (memL 15 rfl)))))
theorem mwX6_take_9 : (.fieldLink RX6 24 "BuoyTender$Survey" "mostX" "I" : Cond) ∈ wsX6_take := (List.mem_cons_of_mem _ (List.mem_append_left _ (List.mem_append_left _ (List.mem_append_left _ (memL 4 rfl)))))
theorem mwX6_take_10 : (.fieldLink RX6 21 "BuoyTender$Survey" "leastY" "I" : Cond) ∈ wsX6_take := (List.mem_cons_of_mem _ (List.mem_append_left _ (List.mem_append_left _ (List.mem_append_left _ (memL 3 rfl)))))
theorem mwX6_take_11 : (.code Lib.Math.min.name Lib.Math.min.code 2 (some .int) : Cond) ∈ wsX6_take := (List.mem_cons_of_mem _ (List.mem_append_left _ (List.mem_append_left _ (List.mem_append_left _ (memL 14 rfl)))))
theorem mwX6_take_12 : (.initialized "java/lang/Math" : Cond) ∈ wsX6_take := (List.mem_cons_of_mem _ (List.mem_append_left _ (List.mem_append_left _ (List.mem_append_left _ (memL 13 rfl)))))
theorem mwX6_take_13 : (.static Lib.Math.min.name : Cond) ∈ wsX6_take := (List.mem_cons_of_mem _ (List.mem_append_left _ (List.mem_append_left _ (List.mem_append_left _ (memL 12 rfl)))))
theorem mwX6_take_14 : (.methodLink RX6 52 Lib.Math.min.name : Cond) ∈ wsX6_take := (List.mem_cons_of_mem _ (List.mem_append_left _ (List.mem_append_left _ (List.mem_append_left _ (memL 11 rfl)))))
theorem mwX6_take_15 : (.fieldLink RX6 18 "BuoyTender$Survey" "leastX" "I" : Cond) ∈ wsX6_take := (List.mem_cons_of_mem _ (List.mem_append_left _ (List.mem_append_left _ (List.mem_append_left _ (memL 2 rfl)))))
theorem mwX6_take_16 : (.fieldLink RX6 9 "BuoyTender$Survey" "left" "I" : Cond) ∈ wsX6_take := (List.mem_cons_of_mem _ (List.mem_append_left _ (List.mem_append_left _ (List.mem_append_left _ (memL 0 rfl)))))
set_option maxRecDepth 20000 in
theorem sbX6_take_X60 : SubW wsX60 wsX6_take := fun _ h => (List.mem_cons_of_mem _ (List.mem_append_left _ (List.mem_append_left _ (List.mem_append_right _ h))))
set_option maxRecDepth 20000 in
theorem sbX6_take_X10 : SubW wsX10 wsX6_take := fun _ h => (List.mem_cons_of_mem _ (List.mem_append_left _ (List.mem_append_right _ h)))
set_option maxRecDepth 20000 in
theorem sbX6_take_X6_count : SubW wsX6_count wsX6_take := (subW_cons mwX6_take_0 (subW_app (subW_app (subW_cons mwX6_take_16 (subW_cons mwX6_take_15 (subW_cons mwX6_take_14 (subW_cons mwX6_take_13 (subW_cons mwX6_take_12 (subW_cons mwX6_take_11 (subW_cons mwX6_take_10 (subW_cons mwX6_take_9 (subW_cons mwX6_take_8 (subW_cons mwX6_take_7 (subW_cons mwX6_take_6 (subW_cons mwX6_take_5 (subW_cons mwX6_take_4 (subW_cons mwX6_take_3 (subW_cons mwX6_take_2 (subW_cons mwX6_take_1 subW_nil)))))))))))))))) sbX6_take_X60) sbX6_take_X10))
set_option maxRecDepth 20000 in
theorem gw_wsX60 : goodW wsX60 := goodW_of (by decide +kernel)
set_option maxRecDepth 20000 in
theorem gw_wsX6_take : goodW wsX6_take := (goodW_cons rfl (goodW_app (goodW_app (goodW_app (goodW_of (by decide +kernel)) gw_wsX60) gw_wsX10) gw_wsX50))
theorem ggX6_take_X6_count : GoodIn wsX6_take wsX6_count := goodIn_W gw_wsX6_take sbX6_take_X6_count
theorem mwX6_take_17 : (.initialized RX6 : Cond) ∈ wsX6_take := (List.mem_cons_of_mem _ (List.mem_append_left _ (List.mem_append_left _ (List.mem_append_left _ (memL 9 rfl)))))
theorem mwX6_take_18 : (.selects RX6 yX6_count yX6_count : Cond) ∈ wsX6_take := (List.mem_cons_of_mem _ (List.mem_append_left _ (List.mem_append_left _ (List.mem_append_left _ (memL 8 rfl)))))
theorem mwX6_take_19 : (.instanceMethod yX6_count : Cond) ∈ wsX6_take := (List.mem_cons_of_mem _ (List.mem_append_left _ (List.mem_append_left _ (List.mem_append_left _ (memL 7 rfl)))))
theorem mwX6_take_20 : (.methodLink RX6 48 yX6_count : Cond) ∈ wsX6_take := (List.mem_cons_of_mem _ (List.mem_append_left _ (List.mem_append_left _ (List.mem_append_left _ (memL 6 rfl)))))
theorem gX6_take_X6_count : GoodIn wsX6_take (wsV RX6 48 RX6 yX6_count wsX6_count) := goodIn_W gw_wsX6_take (subW_app (subW_cons mwX6_take_20 (subW_cons mwX6_take_19 (subW_cons mwX6_take_18 (subW_cons mwX6_take_17 subW_nil)))) sbX6_take_X6_count)
theorem dX6_take_0 : decode cX6_take 0 = .ok (.aload_n 0, 1) := by decide +kernel
theorem dX6_take_1 : decode cX6_take 1 = .ok (.iconst 0, 1) := by decide +kernel
theorem dX6_take_2 : decode cX6_take 2 = .ok (.putfield 9, 3) := by decide +kernel
theorem dX6_take_5 : decode cX6_take 5 = .ok (.aload_n 0, 1) := by decide +kernel
theorem dX6_take_6 : decode cX6_take 6 = .ok (.iconst 0, 1) := by decide +kernel
theorem dX6_take_7 : decode cX6_take 7 = .ok (.putfield 15, 3) := by decide +kernel
theorem dX6_take_10 : decode cX6_take 10 = .ok (.aload_n 0, 1) := by decide +kernel
theorem dX6_take_11 : decode cX6_take 11 = .ok (.iconst (-1), 1) := by decide +kernel
theorem dX6_take_12 : decode cX6_take 12 = .ok (.putfield 18, 3) := by decide +kernel
theorem dX6_take_15 : decode cX6_take 15 = .ok (.aload_n 0, 1) := by decide +kernel
theorem dX6_take_16 : decode cX6_take 16 = .ok (.iconst (-1), 1) := by decide +kernel
theorem dX6_take_17 : decode cX6_take 17 = .ok (.putfield 21, 3) := by decide +kernel
theorem dX6_take_20 : decode cX6_take 20 = .ok (.aload_n 0, 1) := by decide +kernel
theorem dX6_take_21 : decode cX6_take 21 = .ok (.iconst (-1), 1) := by decide +kernel
theorem dX6_take_22 : decode cX6_take 22 = .ok (.putfield 24, 3) := by decide +kernel
theorem dX6_take_25 : decode cX6_take 25 = .ok (.aload_n 0, 1) := by decide +kernel
theorem dX6_take_26 : decode cX6_take 26 = .ok (.iconst (-1), 1) := by decide +kernel
theorem dX6_take_27 : decode cX6_take 27 = .ok (.putfield 27, 3) := by decide +kernel
theorem dX6_take_30 : decode cX6_take 30 = .ok (.aload_n 1, 1) := by decide +kernel
theorem dX6_take_31 : decode cX6_take 31 = .ok (.getfield 30, 3) := by decide +kernel
theorem dX6_take_34 : decode cX6_take 34 = .ok (.astore_n 3, 1) := by decide +kernel
theorem dX6_take_35 : decode cX6_take 35 = .ok (.iconst 0, 1) := by decide +kernel
theorem dX6_take_36 : decode cX6_take 36 = .ok (.istore 4, 2) := by decide +kernel
theorem dX6_take_38 : decode cX6_take 38 = .ok (.iload 4, 2) := by decide +kernel
theorem dX6_take_40 : decode cX6_take 40 = .ok (.sipush 1600, 3) := by decide +kernel
theorem dX6_take_43 : decode cX6_take 43 = .ok (.if_icmp .ge 80, 3) := by decide +kernel
theorem dX6_take_46 : decode cX6_take 46 = .ok (.iload 4, 2) := by decide +kernel
theorem dX6_take_48 : decode cX6_take 48 = .ok (.aload_n 2, 1) := by decide +kernel
theorem dX6_take_49 : decode cX6_take 49 = .ok (.arraylength, 1) := by decide +kernel
theorem dX6_take_50 : decode cX6_take 50 = .ok (.if_icmp .ge 73, 3) := by decide +kernel
theorem dX6_take_53 : decode cX6_take 53 = .ok (.iload 4, 2) := by decide +kernel
theorem dX6_take_55 : decode cX6_take 55 = .ok (.bipush 40, 2) := by decide +kernel
theorem dX6_take_57 : decode cX6_take 57 = .ok (.irem, 1) := by decide +kernel
theorem dX6_take_58 : decode cX6_take 58 = .ok (.istore 5, 2) := by decide +kernel
theorem dX6_take_60 : decode cX6_take 60 = .ok (.iload 4, 2) := by decide +kernel
theorem dX6_take_62 : decode cX6_take 62 = .ok (.bipush 40, 2) := by decide +kernel
theorem dX6_take_64 : decode cX6_take 64 = .ok (.idiv, 1) := by decide +kernel
theorem dX6_take_65 : decode cX6_take 65 = .ok (.istore 6, 2) := by decide +kernel
theorem dX6_take_67 : decode cX6_take 67 = .ok (.aload_n 2, 1) := by decide +kernel
theorem dX6_take_68 : decode cX6_take 68 = .ok (.iload 4, 2) := by decide +kernel
theorem dX6_take_70 : decode cX6_take 70 = .ok (.iaload, 1) := by decide +kernel
theorem dX6_take_71 : decode cX6_take 71 = .ok (.istore 7, 2) := by decide +kernel
theorem dX6_take_73 : decode cX6_take 73 = .ok (.aload_n 3, 1) := by decide +kernel
theorem dX6_take_74 : decode cX6_take 74 = .ok (.getfield 36, 3) := by decide +kernel
theorem dX6_take_77 : decode cX6_take 77 = .ok (.iload 6, 2) := by decide +kernel
theorem dX6_take_79 : decode cX6_take 79 = .ok (.laload, 1) := by decide +kernel
theorem dX6_take_80 : decode cX6_take 80 = .ok (.iload 5, 2) := by decide +kernel
theorem dX6_take_82 : decode cX6_take 82 = .ok (.lshr, 1) := by decide +kernel
theorem dX6_take_83 : decode cX6_take 83 = .ok (.lconst 1, 1) := by decide +kernel
theorem dX6_take_84 : decode cX6_take 84 = .ok (.land, 1) := by decide +kernel
theorem dX6_take_85 : decode cX6_take 85 = .ok (.lconst 0, 1) := by decide +kernel
theorem dX6_take_86 : decode cX6_take 86 = .ok (.lcmp, 1) := by decide +kernel
theorem dX6_take_87 : decode cX6_take 87 = .ok (.ifCond .ne 30, 3) := by decide +kernel
theorem dX6_take_90 : decode cX6_take 90 = .ok (.iload 7, 2) := by decide +kernel
theorem dX6_take_92 : decode cX6_take 92 = .ok (.aload_n 3, 1) := by decide +kernel
theorem dX6_take_93 : decode cX6_take 93 = .ok (.getfield 42, 3) := by decide +kernel
theorem dX6_take_96 : decode cX6_take 96 = .ok (.if_icmp .lt 21, 3) := by decide +kernel
theorem dX6_take_99 : decode cX6_take 99 = .ok (.iload 7, 2) := by decide +kernel
theorem dX6_take_101 : decode cX6_take 101 = .ok (.aload_n 3, 1) := by decide +kernel
theorem dX6_take_102 : decode cX6_take 102 = .ok (.getfield 45, 3) := by decide +kernel
theorem dX6_take_105 : decode cX6_take 105 = .ok (.if_icmp .gt 12, 3) := by decide +kernel
theorem dX6_take_108 : decode cX6_take 108 = .ok (.aload_n 0, 1) := by decide +kernel
theorem dX6_take_109 : decode cX6_take 109 = .ok (.aload_n 1, 1) := by decide +kernel
theorem dX6_take_110 : decode cX6_take 110 = .ok (.iload 5, 2) := by decide +kernel
theorem dX6_take_112 : decode cX6_take 112 = .ok (.iload 6, 2) := by decide +kernel
theorem dX6_take_114 : decode cX6_take 114 = .ok (.invokevirtual 48, 3) := by decide +kernel
theorem dX6_take_117 : decode cX6_take 117 = .ok (.iinc 4 1, 3) := by decide +kernel
theorem dX6_take_120 : decode cX6_take 120 = .ok (.goto (-82), 3) := by decide +kernel
theorem dX6_take_123 : decode cX6_take 123 = .ok (.return_, 1) := by decide +kernel
theorem mwX6_count_0 : (.code yX8_squareBetween cX8_squareBetween 4 (some .int) : Cond) ∈ wsX6_count := (List.mem_cons_of_mem _ (List.mem_append_left _ (List.mem_append_left _ (memL 15 rfl))))
set_option maxRecDepth 20000 in
theorem sbX6_count_X8_squareBetween : SubW wsX8_squareBetween wsX6_count := (subW_cons mwX6_count_0 subW_nil)
set_option maxRecDepth 20000 in
theorem gw_wsX6_count : goodW wsX6_count := (goodW_cons rfl (goodW_app (goodW_app (goodW_of (by decide +kernel)) gw_wsX60) gw_wsX10))
theorem ggX6_count_X8_squareBetween : GoodIn wsX6_count wsX8_squareBetween := goodIn_W gw_wsX6_count sbX6_count_X8_squareBetween
set_option maxRecDepth 20000 in
theorem gX6_count_X8_squareBetween_n67 : GoodIn wsX6_count (wsX8_squareBetween) := ggX6_count_X8_squareBetween
theorem dX6_count_0 : decode cX6_count 0 = .ok (.aload_n 0, 1) := by decide +kernel
theorem dX6_count_1 : decode cX6_count 1 = .ok (.aload_n 0, 1) := by decide +kernel
theorem dX6_count_2 : decode cX6_count 2 = .ok (.getfield 9, 3) := by decide +kernel
theorem dX6_count_5 : decode cX6_count 5 = .ok (.ifCond .ne 7, 3) := by decide +kernel
theorem dX6_count_8 : decode cX6_count 8 = .ok (.iload_n 2, 1) := by decide +kernel
theorem dX6_count_9 : decode cX6_count 9 = .ok (.goto 11, 3) := by decide +kernel
theorem dX6_count_12 : decode cX6_count 12 = .ok (.aload_n 0, 1) := by decide +kernel
theorem dX6_count_13 : decode cX6_count 13 = .ok (.getfield 18, 3) := by decide +kernel
theorem dX6_count_16 : decode cX6_count 16 = .ok (.iload_n 2, 1) := by decide +kernel
theorem dX6_count_17 : decode cX6_count 17 = .ok (.invokestatic 52, 3) := by decide +kernel
theorem dX6_count_20 : decode cX6_count 20 = .ok (.putfield 18, 3) := by decide +kernel
theorem dX6_count_23 : decode cX6_count 23 = .ok (.aload_n 0, 1) := by decide +kernel
theorem dX6_count_24 : decode cX6_count 24 = .ok (.aload_n 0, 1) := by decide +kernel
theorem dX6_count_25 : decode cX6_count 25 = .ok (.getfield 9, 3) := by decide +kernel
theorem dX6_count_28 : decode cX6_count 28 = .ok (.ifCond .ne 7, 3) := by decide +kernel
theorem dX6_count_31 : decode cX6_count 31 = .ok (.iload_n 3, 1) := by decide +kernel
theorem dX6_count_32 : decode cX6_count 32 = .ok (.goto 11, 3) := by decide +kernel
theorem dX6_count_35 : decode cX6_count 35 = .ok (.aload_n 0, 1) := by decide +kernel
theorem dX6_count_36 : decode cX6_count 36 = .ok (.getfield 21, 3) := by decide +kernel
theorem dX6_count_39 : decode cX6_count 39 = .ok (.iload_n 3, 1) := by decide +kernel
theorem dX6_count_40 : decode cX6_count 40 = .ok (.invokestatic 52, 3) := by decide +kernel
theorem dX6_count_43 : decode cX6_count 43 = .ok (.putfield 21, 3) := by decide +kernel
theorem dX6_count_46 : decode cX6_count 46 = .ok (.aload_n 0, 1) := by decide +kernel
theorem dX6_count_47 : decode cX6_count 47 = .ok (.aload_n 0, 1) := by decide +kernel
theorem dX6_count_48 : decode cX6_count 48 = .ok (.getfield 24, 3) := by decide +kernel
theorem dX6_count_51 : decode cX6_count 51 = .ok (.iload_n 2, 1) := by decide +kernel
theorem dX6_count_52 : decode cX6_count 52 = .ok (.invokestatic 58, 3) := by decide +kernel
theorem dX6_count_55 : decode cX6_count 55 = .ok (.putfield 24, 3) := by decide +kernel
theorem dX6_count_58 : decode cX6_count 58 = .ok (.aload_n 0, 1) := by decide +kernel
theorem dX6_count_59 : decode cX6_count 59 = .ok (.aload_n 0, 1) := by decide +kernel
theorem dX6_count_60 : decode cX6_count 60 = .ok (.getfield 27, 3) := by decide +kernel
theorem dX6_count_63 : decode cX6_count 63 = .ok (.iload_n 3, 1) := by decide +kernel
theorem dX6_count_64 : decode cX6_count 64 = .ok (.invokestatic 58, 3) := by decide +kernel
theorem dX6_count_67 : decode cX6_count 67 = .ok (.putfield 27, 3) := by decide +kernel
theorem dX6_count_70 : decode cX6_count 70 = .ok (.aload_n 0, 1) := by decide +kernel
theorem dX6_count_71 : decode cX6_count 71 = .ok (.dup, 1) := by decide +kernel
theorem dX6_count_72 : decode cX6_count 72 = .ok (.getfield 9, 3) := by decide +kernel
theorem dX6_count_75 : decode cX6_count 75 = .ok (.iconst 1, 1) := by decide +kernel
theorem dX6_count_76 : decode cX6_count 76 = .ok (.iadd, 1) := by decide +kernel
theorem dX6_count_77 : decode cX6_count 77 = .ok (.putfield 9, 3) := by decide +kernel
theorem dX6_count_80 : decode cX6_count 80 = .ok (.iload_n 2, 1) := by decide +kernel
theorem dX6_count_81 : decode cX6_count 81 = .ok (.iload_n 3, 1) := by decide +kernel
theorem dX6_count_82 : decode cX6_count 82 = .ok (.aload_n 1, 1) := by decide +kernel
theorem dX6_count_83 : decode cX6_count 83 = .ok (.getfield 61, 3) := by decide +kernel
theorem dX6_count_86 : decode cX6_count 86 = .ok (.aload_n 1, 1) := by decide +kernel
theorem dX6_count_87 : decode cX6_count 87 = .ok (.getfield 64, 3) := by decide +kernel
theorem dX6_count_90 : decode cX6_count 90 = .ok (.invokestatic 67, 3) := by decide +kernel
theorem dX6_count_93 : decode cX6_count 93 = .ok (.aload_n 1, 1) := by decide +kernel
theorem dX6_count_94 : decode cX6_count 94 = .ok (.getfield 71, 3) := by decide +kernel
theorem dX6_count_97 : decode cX6_count 97 = .ok (.aload_n 1, 1) := by decide +kernel
theorem dX6_count_98 : decode cX6_count 98 = .ok (.getfield 71, 3) := by decide +kernel
theorem dX6_count_101 : decode cX6_count 101 = .ok (.imul, 1) := by decide +kernel
theorem dX6_count_102 : decode cX6_count 102 = .ok (.if_icmp .gt 13, 3) := by decide +kernel
theorem dX6_count_105 : decode cX6_count 105 = .ok (.aload_n 0, 1) := by decide +kernel
theorem dX6_count_106 : decode cX6_count 106 = .ok (.dup, 1) := by decide +kernel
theorem dX6_count_107 : decode cX6_count 107 = .ok (.getfield 15, 3) := by decide +kernel
theorem dX6_count_110 : decode cX6_count 110 = .ok (.iconst 1, 1) := by decide +kernel
theorem dX6_count_111 : decode cX6_count 111 = .ok (.iadd, 1) := by decide +kernel
theorem dX6_count_112 : decode cX6_count 112 = .ok (.putfield 15, 3) := by decide +kernel
theorem dX6_count_115 : decode cX6_count 115 = .ok (.return_, 1) := by decide +kernel
theorem dX6_how_0 : decode cX6_how 0 = .ok (.aload_n 0, 1) := by decide +kernel
theorem dX6_how_1 : decode cX6_how 1 = .ok (.getfield 9, 3) := by decide +kernel
theorem dX6_how_4 : decode cX6_how 4 = .ok (.ifCond .ne 5, 3) := by decide +kernel
theorem dX6_how_7 : decode cX6_how 7 = .ok (.iconst 3, 1) := by decide +kernel
theorem dX6_how_8 : decode cX6_how 8 = .ok (.ireturn, 1) := by decide +kernel
theorem dX6_how_9 : decode cX6_how 9 = .ok (.aload_n 0, 1) := by decide +kernel
theorem dX6_how_10 : decode cX6_how 10 = .ok (.getfield 15, 3) := by decide +kernel
theorem dX6_how_13 : decode cX6_how 13 = .ok (.aload_n 0, 1) := by decide +kernel
theorem dX6_how_14 : decode cX6_how 14 = .ok (.getfield 9, 3) := by decide +kernel
theorem dX6_how_17 : decode cX6_how 17 = .ok (.if_icmp .ne 5, 3) := by decide +kernel
theorem dX6_how_20 : decode cX6_how 20 = .ok (.iconst 1, 1) := by decide +kernel
theorem dX6_how_21 : decode cX6_how 21 = .ok (.ireturn, 1) := by decide +kernel
theorem dX6_how_22 : decode cX6_how 22 = .ok (.aload_n 0, 1) := by decide +kernel
theorem dX6_how_23 : decode cX6_how 23 = .ok (.getfield 15, 3) := by decide +kernel
theorem dX6_how_26 : decode cX6_how 26 = .ok (.ifCond .ne 7, 3) := by decide +kernel
theorem dX6_how_29 : decode cX6_how 29 = .ok (.iconst 2, 1) := by decide +kernel
theorem dX6_how_30 : decode cX6_how 30 = .ok (.goto 4, 3) := by decide +kernel
theorem dX6_how_33 : decode cX6_how 33 = .ok (.iconst 0, 1) := by decide +kernel
theorem dX6_how_34 : decode cX6_how 34 = .ok (.ireturn, 1) := by decide +kernel
theorem dX7_init_0 : decode cX7_init 0 = .ok (.aload_n 0, 1) := by decide +kernel
theorem dX7_init_1 : decode cX7_init 1 = .ok (.invokespecial 3, 3) := by decide +kernel
theorem dX7_init_4 : decode cX7_init 4 = .ok (.aload_n 0, 1) := by decide +kernel
theorem dX7_init_5 : decode cX7_init 5 = .ok (.bipush 100, 2) := by decide +kernel
theorem dX7_init_7 : decode cX7_init 7 = .ok (.newarray .int, 2) := by decide +kernel
theorem dX7_init_9 : decode cX7_init 9 = .ok (.putfield 9, 3) := by decide +kernel
theorem dX7_init_12 : decode cX7_init 12 = .ok (.aload_n 0, 1) := by decide +kernel
theorem dX7_init_13 : decode cX7_init 13 = .ok (.bipush 100, 2) := by decide +kernel
theorem dX7_init_15 : decode cX7_init 15 = .ok (.newarray .int, 2) := by decide +kernel
theorem dX7_init_17 : decode cX7_init 17 = .ok (.putfield 15, 3) := by decide +kernel
theorem dX7_init_20 : decode cX7_init 20 = .ok (.aload_n 0, 1) := by decide +kernel
theorem dX7_init_21 : decode cX7_init 21 = .ok (.bipush 100, 2) := by decide +kernel
theorem dX7_init_23 : decode cX7_init 23 = .ok (.newarray .int, 2) := by decide +kernel
theorem dX7_init_25 : decode cX7_init 25 = .ok (.putfield 18, 3) := by decide +kernel
theorem dX7_init_28 : decode cX7_init 28 = .ok (.aload_n 0, 1) := by decide +kernel
theorem dX7_init_29 : decode cX7_init 29 = .ok (.bipush 100, 2) := by decide +kernel
theorem dX7_init_31 : decode cX7_init 31 = .ok (.newarray .int, 2) := by decide +kernel
theorem dX7_init_33 : decode cX7_init 33 = .ok (.putfield 21, 3) := by decide +kernel
theorem dX7_init_36 : decode cX7_init 36 = .ok (.return_, 1) := by decide +kernel
theorem dX7_has_0 : decode cX7_has 0 = .ok (.iload_n 1, 1) := by decide +kernel
theorem dX7_has_1 : decode cX7_has 1 = .ok (.ifCond .lt 15, 3) := by decide +kernel
theorem dX7_has_4 : decode cX7_has 4 = .ok (.iload_n 1, 1) := by decide +kernel
theorem dX7_has_5 : decode cX7_has 5 = .ok (.aload_n 0, 1) := by decide +kernel
theorem dX7_has_6 : decode cX7_has 6 = .ok (.getfield 24, 3) := by decide +kernel
theorem dX7_has_9 : decode cX7_has 9 = .ok (.if_icmp .ge 7, 3) := by decide +kernel
theorem dX7_has_12 : decode cX7_has 12 = .ok (.iconst 1, 1) := by decide +kernel
theorem dX7_has_13 : decode cX7_has 13 = .ok (.goto 4, 3) := by decide +kernel
theorem dX7_has_16 : decode cX7_has 16 = .ok (.iconst 0, 1) := by decide +kernel
theorem dX7_has_17 : decode cX7_has 17 = .ok (.ireturn, 1) := by decide +kernel
theorem mwX7_tell_0 : (.code yX7_isOpen cX7_isOpen 4 (some .boolean) : Cond) ∈ wsX7_tell := (List.mem_cons_of_mem _ (List.mem_append_left _ (memL 9 rfl)))
theorem mwX7_tell_1 : (.fieldLink RX7 21 "BuoyTender$Warnings" "cancelledOn" "[I" : Cond) ∈ wsX7_tell := (List.mem_cons_of_mem _ (List.mem_append_left _ (memL 4 rfl)))
theorem mwX7_tell_2 : (.fieldLink RX7 15 "BuoyTender$Warnings" "reasonOf" "[I" : Cond) ∈ wsX7_tell := (List.mem_cons_of_mem _ (List.mem_append_left _ (memL 2 rfl)))
theorem mwX7_tell_3 : (.fieldLink RX7 9 "BuoyTender$Warnings" "markOf" "[I" : Cond) ∈ wsX7_tell := (List.mem_cons_of_mem _ (List.mem_append_left _ (memL 1 rfl)))
theorem mwX7_tell_4 : (.fieldLink RX7 24 "BuoyTender$Warnings" "count" "I" : Cond) ∈ wsX7_tell := (List.mem_cons_of_mem _ (List.mem_append_left _ (memL 0 rfl)))
set_option maxRecDepth 20000 in
theorem sbX7_tell_X70 : SubW wsX70 wsX7_tell := fun _ h => (List.mem_cons_of_mem _ (List.mem_append_right _ h))
set_option maxRecDepth 20000 in
theorem sbX7_tell_X7_isOpen : SubW wsX7_isOpen wsX7_tell := (subW_cons mwX7_tell_0 (subW_app (subW_cons mwX7_tell_4 (subW_cons mwX7_tell_3 (subW_cons mwX7_tell_2 (subW_cons mwX7_tell_1 subW_nil)))) sbX7_tell_X70))
set_option maxRecDepth 20000 in
theorem gw_wsX70 : goodW wsX70 := goodW_of (by decide +kernel)
set_option maxRecDepth 20000 in
theorem gw_wsX7_tell : goodW wsX7_tell := (goodW_cons rfl (goodW_app (goodW_of (by decide +kernel)) gw_wsX70))
theorem ggX7_tell_X7_isOpen : GoodIn wsX7_tell wsX7_isOpen := goodIn_W gw_wsX7_tell sbX7_tell_X7_isOpen
theorem mwX7_tell_5 : (.initialized RX7 : Cond) ∈ wsX7_tell := (List.mem_cons_of_mem _ (List.mem_append_left _ (memL 8 rfl)))
theorem mwX7_tell_6 : (.selects RX7 yX7_isOpen yX7_isOpen : Cond) ∈ wsX7_tell := (List.mem_cons_of_mem _ (List.mem_append_left _ (memL 7 rfl)))
theorem mwX7_tell_7 : (.instanceMethod yX7_isOpen : Cond) ∈ wsX7_tell := (List.mem_cons_of_mem _ (List.mem_append_left _ (memL 6 rfl)))
theorem mwX7_tell_8 : (.methodLink RX7 28 yX7_isOpen : Cond) ∈ wsX7_tell := (List.mem_cons_of_mem _ (List.mem_append_left _ (memL 5 rfl)))
theorem gX7_tell_X7_isOpen : GoodIn wsX7_tell (wsV RX7 28 RX7 yX7_isOpen wsX7_isOpen) := goodIn_W gw_wsX7_tell (subW_app (subW_cons mwX7_tell_8 (subW_cons mwX7_tell_7 (subW_cons mwX7_tell_6 (subW_cons mwX7_tell_5 subW_nil)))) sbX7_tell_X7_isOpen)
theorem dX7_tell_0 : decode cX7_tell 0 = .ok (.aload_n 0, 1) := by decide +kernel
theorem dX7_tell_1 : decode cX7_tell 1 = .ok (.getfield 24, 3) := by decide +kernel
theorem dX7_tell_4 : decode cX7_tell 4 = .ok (.bipush 100, 2) := by decide +kernel
theorem dX7_tell_6 : decode cX7_tell 6 = .ok (.if_icmp .ge 12, 3) := by decide +kernel
theorem dX7_tell_9 : decode cX7_tell 9 = .ok (.aload_n 0, 1) := by decide +kernel
theorem dX7_tell_10 : decode cX7_tell 10 = .ok (.iload_n 1, 1) := by decide +kernel
theorem dX7_tell_11 : decode cX7_tell 11 = .ok (.iload_n 2, 1) := by decide +kernel
theorem dX7_tell_12 : decode cX7_tell 12 = .ok (.invokevirtual 28, 3) := by decide +kernel
theorem dX7_tell_15 : decode cX7_tell 15 = .ok (.ifCond .eq 5, 3) := by decide +kernel
theorem dX7_tell_18 : decode cX7_tell 18 = .ok (.iconst (-1), 1) := by decide +kernel
theorem dX7_tell_19 : decode cX7_tell 19 = .ok (.ireturn, 1) := by decide +kernel
theorem dX7_tell_20 : decode cX7_tell 20 = .ok (.aload_n 0, 1) := by decide +kernel
theorem dX7_tell_21 : decode cX7_tell 21 = .ok (.getfield 24, 3) := by decide +kernel
theorem dX7_tell_24 : decode cX7_tell 24 = .ok (.istore 4, 2) := by decide +kernel
theorem dX7_tell_26 : decode cX7_tell 26 = .ok (.aload_n 0, 1) := by decide +kernel
theorem dX7_tell_27 : decode cX7_tell 27 = .ok (.getfield 9, 3) := by decide +kernel
theorem dX7_tell_30 : decode cX7_tell 30 = .ok (.iload 4, 2) := by decide +kernel
theorem dX7_tell_32 : decode cX7_tell 32 = .ok (.iload_n 1, 1) := by decide +kernel
theorem dX7_tell_33 : decode cX7_tell 33 = .ok (.iastore, 1) := by decide +kernel
theorem dX7_tell_34 : decode cX7_tell 34 = .ok (.aload_n 0, 1) := by decide +kernel
theorem dX7_tell_35 : decode cX7_tell 35 = .ok (.getfield 15, 3) := by decide +kernel
theorem dX7_tell_38 : decode cX7_tell 38 = .ok (.iload 4, 2) := by decide +kernel
theorem dX7_tell_40 : decode cX7_tell 40 = .ok (.iload_n 2, 1) := by decide +kernel
theorem dX7_tell_41 : decode cX7_tell 41 = .ok (.iastore, 1) := by decide +kernel
theorem dX7_tell_42 : decode cX7_tell 42 = .ok (.aload_n 0, 1) := by decide +kernel
theorem dX7_tell_43 : decode cX7_tell 43 = .ok (.getfield 18, 3) := by decide +kernel
theorem dX7_tell_46 : decode cX7_tell 46 = .ok (.iload 4, 2) := by decide +kernel
theorem dX7_tell_48 : decode cX7_tell 48 = .ok (.iload_n 3, 1) := by decide +kernel
theorem dX7_tell_49 : decode cX7_tell 49 = .ok (.iastore, 1) := by decide +kernel
theorem dX7_tell_50 : decode cX7_tell 50 = .ok (.aload_n 0, 1) := by decide +kernel
theorem dX7_tell_51 : decode cX7_tell 51 = .ok (.getfield 21, 3) := by decide +kernel
theorem dX7_tell_54 : decode cX7_tell 54 = .ok (.iload 4, 2) := by decide +kernel
theorem dX7_tell_56 : decode cX7_tell 56 = .ok (.iconst (-1), 1) := by decide +kernel
theorem dX7_tell_57 : decode cX7_tell 57 = .ok (.iastore, 1) := by decide +kernel
theorem dX7_tell_58 : decode cX7_tell 58 = .ok (.aload_n 0, 1) := by decide +kernel
theorem dX7_tell_59 : decode cX7_tell 59 = .ok (.dup, 1) := by decide +kernel
theorem dX7_tell_60 : decode cX7_tell 60 = .ok (.getfield 24, 3) := by decide +kernel
theorem dX7_tell_63 : decode cX7_tell 63 = .ok (.iconst 1, 1) := by decide +kernel
theorem dX7_tell_64 : decode cX7_tell 64 = .ok (.iadd, 1) := by decide +kernel
theorem dX7_tell_65 : decode cX7_tell 65 = .ok (.putfield 24, 3) := by decide +kernel
theorem dX7_tell_68 : decode cX7_tell 68 = .ok (.iload 4, 2) := by decide +kernel
theorem dX7_tell_70 : decode cX7_tell 70 = .ok (.ireturn, 1) := by decide +kernel
theorem dX7_isOpen_0 : decode cX7_isOpen 0 = .ok (.iconst 0, 1) := by decide +kernel
theorem dX7_isOpen_1 : decode cX7_isOpen 1 = .ok (.istore_n 3, 1) := by decide +kernel
theorem dX7_isOpen_2 : decode cX7_isOpen 2 = .ok (.iload_n 3, 1) := by decide +kernel
theorem dX7_isOpen_3 : decode cX7_isOpen 3 = .ok (.aload_n 0, 1) := by decide +kernel
theorem dX7_isOpen_4 : decode cX7_isOpen 4 = .ok (.getfield 24, 3) := by decide +kernel
theorem dX7_isOpen_7 : decode cX7_isOpen 7 = .ok (.if_icmp .ge 41, 3) := by decide +kernel
theorem dX7_isOpen_10 : decode cX7_isOpen 10 = .ok (.aload_n 0, 1) := by decide +kernel
theorem dX7_isOpen_11 : decode cX7_isOpen 11 = .ok (.getfield 9, 3) := by decide +kernel
theorem dX7_isOpen_14 : decode cX7_isOpen 14 = .ok (.iload_n 3, 1) := by decide +kernel
theorem dX7_isOpen_15 : decode cX7_isOpen 15 = .ok (.iaload, 1) := by decide +kernel
theorem dX7_isOpen_16 : decode cX7_isOpen 16 = .ok (.iload_n 1, 1) := by decide +kernel
theorem dX7_isOpen_17 : decode cX7_isOpen 17 = .ok (.if_icmp .ne 25, 3) := by decide +kernel
theorem dX7_isOpen_20 : decode cX7_isOpen 20 = .ok (.aload_n 0, 1) := by decide +kernel
theorem dX7_isOpen_21 : decode cX7_isOpen 21 = .ok (.getfield 15, 3) := by decide +kernel
theorem dX7_isOpen_24 : decode cX7_isOpen 24 = .ok (.iload_n 3, 1) := by decide +kernel
theorem dX7_isOpen_25 : decode cX7_isOpen 25 = .ok (.iaload, 1) := by decide +kernel
theorem dX7_isOpen_26 : decode cX7_isOpen 26 = .ok (.iload_n 2, 1) := by decide +kernel
theorem dX7_isOpen_27 : decode cX7_isOpen 27 = .ok (.if_icmp .ne 15, 3) := by decide +kernel
theorem dX7_isOpen_30 : decode cX7_isOpen 30 = .ok (.aload_n 0, 1) := by decide +kernel
theorem dX7_isOpen_31 : decode cX7_isOpen 31 = .ok (.getfield 21, 3) := by decide +kernel
theorem dX7_isOpen_34 : decode cX7_isOpen 34 = .ok (.iload_n 3, 1) := by decide +kernel
theorem dX7_isOpen_35 : decode cX7_isOpen 35 = .ok (.iaload, 1) := by decide +kernel
theorem dX7_isOpen_36 : decode cX7_isOpen 36 = .ok (.iconst (-1), 1) := by decide +kernel
theorem dX7_isOpen_37 : decode cX7_isOpen 37 = .ok (.if_icmp .ne 5, 3) := by decide +kernel
theorem dX7_isOpen_40 : decode cX7_isOpen 40 = .ok (.iconst 1, 1) := by decide +kernel
theorem dX7_isOpen_41 : decode cX7_isOpen 41 = .ok (.ireturn, 1) := by decide +kernel
theorem dX7_isOpen_42 : decode cX7_isOpen 42 = .ok (.iinc 3 1, 3) := by decide +kernel
theorem dX7_isOpen_45 : decode cX7_isOpen 45 = .ok (.goto (-43), 3) := by decide +kernel
theorem dX7_isOpen_48 : decode cX7_isOpen 48 = .ok (.iconst 0, 1) := by decide +kernel
theorem dX7_isOpen_49 : decode cX7_isOpen 49 = .ok (.ireturn, 1) := by decide +kernel
theorem mwX7_end_0 : (.code yX7_has cX7_has 2 (some .boolean) : Cond) ∈ wsX7_end := (List.mem_cons_of_mem _ (List.mem_append_left _ (memL 5 rfl)))
theorem mwX7_end_1 : (.fieldLink RX7 24 "BuoyTender$Warnings" "count" "I" : Cond) ∈ wsX7_end := (List.mem_cons_of_mem _ (List.mem_append_left _ (memL 6 rfl)))
set_option maxRecDepth 20000 in
theorem sbX7_end_X70 : SubW wsX70 wsX7_end := fun _ h => (List.mem_cons_of_mem _ (List.mem_append_right _ h))
set_option maxRecDepth 20000 in
theorem sbX7_end_X7_has : SubW wsX7_has wsX7_end := (subW_cons mwX7_end_0 (subW_app (subW_cons mwX7_end_1 subW_nil) sbX7_end_X70))
set_option maxRecDepth 20000 in
theorem gw_wsX7_end : goodW wsX7_end := (goodW_cons rfl (goodW_app (goodW_of (by decide +kernel)) gw_wsX70))
theorem ggX7_end_X7_has : GoodIn wsX7_end wsX7_has := goodIn_W gw_wsX7_end sbX7_end_X7_has
theorem mwX7_end_2 : (.initialized RX7 : Cond) ∈ wsX7_end := (List.mem_cons_of_mem _ (List.mem_append_left _ (memL 4 rfl)))
theorem mwX7_end_3 : (.selects RX7 yX7_has yX7_has : Cond) ∈ wsX7_end := (List.mem_cons_of_mem _ (List.mem_append_left _ (memL 3 rfl)))
theorem mwX7_end_4 : (.instanceMethod yX7_has : Cond) ∈ wsX7_end := (List.mem_cons_of_mem _ (List.mem_append_left _ (memL 2 rfl)))
theorem mwX7_end_5 : (.methodLink RX7 32 yX7_has : Cond) ∈ wsX7_end := (List.mem_cons_of_mem _ (List.mem_append_left _ (memL 1 rfl)))
theorem gX7_end_X7_has : GoodIn wsX7_end (wsV RX7 32 RX7 yX7_has wsX7_has) := goodIn_W gw_wsX7_end (subW_app (subW_cons mwX7_end_5 (subW_cons mwX7_end_4 (subW_cons mwX7_end_3 (subW_cons mwX7_end_2 subW_nil)))) sbX7_end_X7_has)
theorem dX7_end_0 : decode cX7_end 0 = .ok (.aload_n 0, 1) := by decide +kernel
theorem dX7_end_1 : decode cX7_end 1 = .ok (.iload_n 1, 1) := by decide +kernel
theorem dX7_end_2 : decode cX7_end 2 = .ok (.invokevirtual 32, 3) := by decide +kernel
theorem dX7_end_5 : decode cX7_end 5 = .ok (.ifCond .eq 13, 3) := by decide +kernel
theorem dX7_end_8 : decode cX7_end 8 = .ok (.aload_n 0, 1) := by decide +kernel
theorem dX7_end_9 : decode cX7_end 9 = .ok (.getfield 21, 3) := by decide +kernel
theorem dX7_end_12 : decode cX7_end 12 = .ok (.iload_n 1, 1) := by decide +kernel
theorem dX7_end_13 : decode cX7_end 13 = .ok (.iaload, 1) := by decide +kernel
theorem dX7_end_14 : decode cX7_end 14 = .ok (.iconst (-1), 1) := by decide +kernel
theorem dX7_end_15 : decode cX7_end 15 = .ok (.if_icmp .eq 5, 3) := by decide +kernel
theorem dX7_end_18 : decode cX7_end 18 = .ok (.iconst 0, 1) := by decide +kernel
theorem dX7_end_19 : decode cX7_end 19 = .ok (.ireturn, 1) := by decide +kernel
theorem dX7_end_20 : decode cX7_end 20 = .ok (.aload_n 0, 1) := by decide +kernel
theorem dX7_end_21 : decode cX7_end 21 = .ok (.getfield 21, 3) := by decide +kernel
theorem dX7_end_24 : decode cX7_end 24 = .ok (.iload_n 1, 1) := by decide +kernel
theorem dX7_end_25 : decode cX7_end 25 = .ok (.iload_n 2, 1) := by decide +kernel
theorem dX7_end_26 : decode cX7_end 26 = .ok (.iastore, 1) := by decide +kernel
theorem dX7_end_27 : decode cX7_end 27 = .ok (.iconst 1, 1) := by decide +kernel
theorem dX7_end_28 : decode cX7_end 28 = .ok (.ireturn, 1) := by decide +kernel
theorem dX7_isOutOn_0 : decode cX7_isOutOn 0 = .ok (.aload_n 0, 1) := by decide +kernel
theorem dX7_isOutOn_1 : decode cX7_isOutOn 1 = .ok (.getfield 18, 3) := by decide +kernel
theorem dX7_isOutOn_4 : decode cX7_isOutOn 4 = .ok (.iload_n 1, 1) := by decide +kernel
theorem dX7_isOutOn_5 : decode cX7_isOutOn 5 = .ok (.iaload, 1) := by decide +kernel
theorem dX7_isOutOn_6 : decode cX7_isOutOn 6 = .ok (.iload_n 2, 1) := by decide +kernel
theorem dX7_isOutOn_7 : decode cX7_isOutOn 7 = .ok (.if_icmp .gt 27, 3) := by decide +kernel
theorem dX7_isOutOn_10 : decode cX7_isOutOn 10 = .ok (.aload_n 0, 1) := by decide +kernel
theorem dX7_isOutOn_11 : decode cX7_isOutOn 11 = .ok (.getfield 21, 3) := by decide +kernel
theorem dX7_isOutOn_14 : decode cX7_isOutOn 14 = .ok (.iload_n 1, 1) := by decide +kernel
theorem dX7_isOutOn_15 : decode cX7_isOutOn 15 = .ok (.iaload, 1) := by decide +kernel
theorem dX7_isOutOn_16 : decode cX7_isOutOn 16 = .ok (.iconst (-1), 1) := by decide +kernel
theorem dX7_isOutOn_17 : decode cX7_isOutOn 17 = .ok (.if_icmp .eq 13, 3) := by decide +kernel
theorem dX7_isOutOn_20 : decode cX7_isOutOn 20 = .ok (.iload_n 2, 1) := by decide +kernel
theorem dX7_isOutOn_21 : decode cX7_isOutOn 21 = .ok (.aload_n 0, 1) := by decide +kernel
theorem dX7_isOutOn_22 : decode cX7_isOutOn 22 = .ok (.getfield 21, 3) := by decide +kernel
theorem dX7_isOutOn_25 : decode cX7_isOutOn 25 = .ok (.iload_n 1, 1) := by decide +kernel
theorem dX7_isOutOn_26 : decode cX7_isOutOn 26 = .ok (.iaload, 1) := by decide +kernel
theorem dX7_isOutOn_27 : decode cX7_isOutOn 27 = .ok (.if_icmp .ge 7, 3) := by decide +kernel
theorem dX7_isOutOn_30 : decode cX7_isOutOn 30 = .ok (.iconst 1, 1) := by decide +kernel
theorem dX7_isOutOn_31 : decode cX7_isOutOn 31 = .ok (.goto 4, 3) := by decide +kernel
theorem dX7_isOutOn_34 : decode cX7_isOutOn 34 = .ok (.iconst 0, 1) := by decide +kernel
theorem dX7_isOutOn_35 : decode cX7_isOutOn 35 = .ok (.ireturn, 1) := by decide +kernel
theorem mwX7_countOn_0 : (.code yX7_isOutOn cX7_isOutOn 3 (some .boolean) : Cond) ∈ wsX7_countOn := (List.mem_cons_of_mem _ (List.mem_append_left _ (memL 5 rfl)))
theorem mwX7_countOn_1 : (.fieldLink RX7 21 "BuoyTender$Warnings" "cancelledOn" "[I" : Cond) ∈ wsX7_countOn := (List.mem_cons_of_mem _ (List.mem_append_left _ (memL 7 rfl)))
theorem mwX7_countOn_2 : (.fieldLink RX7 18 "BuoyTender$Warnings" "toldOn" "[I" : Cond) ∈ wsX7_countOn := (List.mem_cons_of_mem _ (List.mem_append_left _ (memL 6 rfl)))
set_option maxRecDepth 20000 in
theorem sbX7_countOn_X70 : SubW wsX70 wsX7_countOn := fun _ h => (List.mem_cons_of_mem _ (List.mem_append_right _ h))
set_option maxRecDepth 20000 in
theorem sbX7_countOn_X7_isOutOn : SubW wsX7_isOutOn wsX7_countOn := (subW_cons mwX7_countOn_0 (subW_app (subW_cons mwX7_countOn_2 (subW_cons mwX7_countOn_1 subW_nil)) sbX7_countOn_X70))
set_option maxRecDepth 20000 in
theorem gw_wsX7_countOn : goodW wsX7_countOn := (goodW_cons rfl (goodW_app (goodW_of (by decide +kernel)) gw_wsX70))
theorem ggX7_countOn_X7_isOutOn : GoodIn wsX7_countOn wsX7_isOutOn := goodIn_W gw_wsX7_countOn sbX7_countOn_X7_isOutOn
theorem mwX7_countOn_3 : (.initialized RX7 : Cond) ∈ wsX7_countOn := (List.mem_cons_of_mem _ (List.mem_append_left _ (memL 4 rfl)))
theorem mwX7_countOn_4 : (.selects RX7 yX7_isOutOn yX7_isOutOn : Cond) ∈ wsX7_countOn := (List.mem_cons_of_mem _ (List.mem_append_left _ (memL 3 rfl)))
theorem mwX7_countOn_5 : (.instanceMethod yX7_isOutOn : Cond) ∈ wsX7_countOn := (List.mem_cons_of_mem _ (List.mem_append_left _ (memL 2 rfl)))
theorem mwX7_countOn_6 : (.methodLink RX7 36 yX7_isOutOn : Cond) ∈ wsX7_countOn := (List.mem_cons_of_mem _ (List.mem_append_left _ (memL 1 rfl)))
theorem gX7_countOn_X7_isOutOn : GoodIn wsX7_countOn (wsV RX7 36 RX7 yX7_isOutOn wsX7_isOutOn) := goodIn_W gw_wsX7_countOn (subW_app (subW_cons mwX7_countOn_6 (subW_cons mwX7_countOn_5 (subW_cons mwX7_countOn_4 (subW_cons mwX7_countOn_3 subW_nil)))) sbX7_countOn_X7_isOutOn)
theorem dX7_countOn_0 : decode cX7_countOn 0 = .ok (.iconst 0, 1) := by decide +kernel
theorem dX7_countOn_1 : decode cX7_countOn 1 = .ok (.istore_n 2, 1) := by decide +kernel
theorem dX7_countOn_2 : decode cX7_countOn 2 = .ok (.iconst 0, 1) := by decide +kernel
theorem dX7_countOn_3 : decode cX7_countOn 3 = .ok (.istore_n 3, 1) := by decide +kernel
theorem dX7_countOn_4 : decode cX7_countOn 4 = .ok (.iload_n 3, 1) := by decide +kernel
theorem dX7_countOn_5 : decode cX7_countOn 5 = .ok (.aload_n 0, 1) := by decide +kernel
theorem dX7_countOn_6 : decode cX7_countOn 6 = .ok (.getfield 24, 3) := by decide +kernel
theorem dX7_countOn_9 : decode cX7_countOn 9 = .ok (.if_icmp .ge 21, 3) := by decide +kernel
theorem dX7_countOn_12 : decode cX7_countOn 12 = .ok (.aload_n 0, 1) := by decide +kernel
theorem dX7_countOn_13 : decode cX7_countOn 13 = .ok (.iload_n 3, 1) := by decide +kernel
theorem dX7_countOn_14 : decode cX7_countOn 14 = .ok (.iload_n 1, 1) := by decide +kernel
theorem dX7_countOn_15 : decode cX7_countOn 15 = .ok (.invokevirtual 36, 3) := by decide +kernel
theorem dX7_countOn_18 : decode cX7_countOn 18 = .ok (.ifCond .eq 6, 3) := by decide +kernel
theorem dX7_countOn_21 : decode cX7_countOn 21 = .ok (.iinc 2 1, 3) := by decide +kernel
theorem dX7_countOn_24 : decode cX7_countOn 24 = .ok (.iinc 3 1, 3) := by decide +kernel
theorem dX7_countOn_27 : decode cX7_countOn 27 = .ok (.goto (-23), 3) := by decide +kernel
theorem dX7_countOn_30 : decode cX7_countOn 30 = .ok (.iload_n 2, 1) := by decide +kernel
theorem dX7_countOn_31 : decode cX7_countOn 31 = .ok (.ireturn, 1) := by decide +kernel
theorem mwX7_numberOn_0 : (.code yX7_isOutOn cX7_isOutOn 3 (some .boolean) : Cond) ∈ wsX7_numberOn := (List.mem_cons_of_mem _ (List.mem_append_left _ (memL 5 rfl)))
theorem mwX7_numberOn_1 : (.fieldLink RX7 21 "BuoyTender$Warnings" "cancelledOn" "[I" : Cond) ∈ wsX7_numberOn := (List.mem_cons_of_mem _ (List.mem_append_left _ (memL 7 rfl)))
theorem mwX7_numberOn_2 : (.fieldLink RX7 18 "BuoyTender$Warnings" "toldOn" "[I" : Cond) ∈ wsX7_numberOn := (List.mem_cons_of_mem _ (List.mem_append_left _ (memL 6 rfl)))
set_option maxRecDepth 20000 in
theorem sbX7_numberOn_X70 : SubW wsX70 wsX7_numberOn := fun _ h => (List.mem_cons_of_mem _ (List.mem_append_right _ h))
set_option maxRecDepth 20000 in
theorem sbX7_numberOn_X7_isOutOn : SubW wsX7_isOutOn wsX7_numberOn := (subW_cons mwX7_numberOn_0 (subW_app (subW_cons mwX7_numberOn_2 (subW_cons mwX7_numberOn_1 subW_nil)) sbX7_numberOn_X70))
set_option maxRecDepth 20000 in
theorem gw_wsX7_numberOn : goodW wsX7_numberOn := (goodW_cons rfl (goodW_app (goodW_of (by decide +kernel)) gw_wsX70))
theorem ggX7_numberOn_X7_isOutOn : GoodIn wsX7_numberOn wsX7_isOutOn := goodIn_W gw_wsX7_numberOn sbX7_numberOn_X7_isOutOn
theorem mwX7_numberOn_3 : (.initialized RX7 : Cond) ∈ wsX7_numberOn := (List.mem_cons_of_mem _ (List.mem_append_left _ (memL 4 rfl)))
theorem mwX7_numberOn_4 : (.selects RX7 yX7_isOutOn yX7_isOutOn : Cond) ∈ wsX7_numberOn := (List.mem_cons_of_mem _ (List.mem_append_left _ (memL 3 rfl)))
theorem mwX7_numberOn_5 : (.instanceMethod yX7_isOutOn : Cond) ∈ wsX7_numberOn := (List.mem_cons_of_mem _ (List.mem_append_left _ (memL 2 rfl)))
theorem mwX7_numberOn_6 : (.methodLink RX7 36 yX7_isOutOn : Cond) ∈ wsX7_numberOn := (List.mem_cons_of_mem _ (List.mem_append_left _ (memL 1 rfl)))
theorem gX7_numberOn_X7_isOutOn : GoodIn wsX7_numberOn (wsV RX7 36 RX7 yX7_isOutOn wsX7_isOutOn) := goodIn_W gw_wsX7_numberOn (subW_app (subW_cons mwX7_numberOn_6 (subW_cons mwX7_numberOn_5 (subW_cons mwX7_numberOn_4 (subW_cons mwX7_numberOn_3 subW_nil)))) sbX7_numberOn_X7_isOutOn)
theorem dX7_numberOn_0 : decode cX7_numberOn 0 = .ok (.iconst 0, 1) := by decide +kernel
theorem dX7_numberOn_1 : decode cX7_numberOn 1 = .ok (.istore_n 3, 1) := by decide +kernel
theorem dX7_numberOn_2 : decode cX7_numberOn 2 = .ok (.iconst 0, 1) := by decide +kernel
theorem dX7_numberOn_3 : decode cX7_numberOn 3 = .ok (.istore 4, 2) := by decide +kernel
theorem dX7_numberOn_5 : decode cX7_numberOn 5 = .ok (.iload 4, 2) := by decide +kernel
theorem dX7_numberOn_7 : decode cX7_numberOn 7 = .ok (.aload_n 0, 1) := by decide +kernel
theorem dX7_numberOn_8 : decode cX7_numberOn 8 = .ok (.getfield 24, 3) := by decide +kernel
theorem dX7_numberOn_11 : decode cX7_numberOn 11 = .ok (.if_icmp .ge 30, 3) := by decide +kernel
theorem dX7_numberOn_14 : decode cX7_numberOn 14 = .ok (.aload_n 0, 1) := by decide +kernel
theorem dX7_numberOn_15 : decode cX7_numberOn 15 = .ok (.iload 4, 2) := by decide +kernel
theorem dX7_numberOn_17 : decode cX7_numberOn 17 = .ok (.iload_n 1, 1) := by decide +kernel
theorem dX7_numberOn_18 : decode cX7_numberOn 18 = .ok (.invokevirtual 36, 3) := by decide +kernel
theorem dX7_numberOn_21 : decode cX7_numberOn 21 = .ok (.ifCond .eq 14, 3) := by decide +kernel
theorem dX7_numberOn_24 : decode cX7_numberOn 24 = .ok (.iload_n 3, 1) := by decide +kernel
theorem dX7_numberOn_25 : decode cX7_numberOn 25 = .ok (.iload_n 2, 1) := by decide +kernel
theorem dX7_numberOn_26 : decode cX7_numberOn 26 = .ok (.if_icmp .ne 6, 3) := by decide +kernel
theorem dX7_numberOn_29 : decode cX7_numberOn 29 = .ok (.iload 4, 2) := by decide +kernel
theorem dX7_numberOn_31 : decode cX7_numberOn 31 = .ok (.ireturn, 1) := by decide +kernel
theorem dX7_numberOn_32 : decode cX7_numberOn 32 = .ok (.iinc 3 1, 3) := by decide +kernel
theorem dX7_numberOn_35 : decode cX7_numberOn 35 = .ok (.iinc 4 1, 3) := by decide +kernel
theorem dX7_numberOn_38 : decode cX7_numberOn 38 = .ok (.goto (-33), 3) := by decide +kernel
theorem dX7_numberOn_41 : decode cX7_numberOn 41 = .ok (.iconst (-1), 1) := by decide +kernel
theorem dX7_numberOn_42 : decode cX7_numberOn 42 = .ok (.ireturn, 1) := by decide +kernel
theorem sbX8_init_X8_init_r1 : SubW wsX8_init_r1 wsX8_init := fun _ h => (List.mem_cons_of_mem _ (List.mem_append_left _ (List.mem_append_left _ (List.mem_append_left _ (List.mem_append_left _ (List.mem_append_left _ (List.mem_append_left _ (List.mem_append_left _ h))))))))
theorem sbX8_init_X8_init_r2 : SubW wsX8_init_r2 wsX8_init := fun _ h => (List.mem_cons_of_mem _ (List.mem_append_left _ (List.mem_append_left _ (List.mem_append_left _ (List.mem_append_left _ (List.mem_append_left _ (List.mem_append_left _ (List.mem_append_right _ (List.mem_append_left _ h)))))))))
theorem sbX8_init_X8_init_r3 : SubW wsX8_init_r3 wsX8_init := fun _ h => (List.mem_cons_of_mem _ (List.mem_append_left _ (List.mem_append_left _ (List.mem_append_left _ (List.mem_append_left _ (List.mem_append_left _ (List.mem_append_left _ (List.mem_append_right _ (List.mem_append_right _ h)))))))))
theorem mwX8_init_0 : (.code yX7_init cX7_init 1 none : Cond) ∈ wsX8_init := (sbX8_init_X8_init_r2 _ (memL 5 rfl))
theorem mwX8_init_1 : (.fieldLink RX7 21 "BuoyTender$Warnings" "cancelledOn" "[I" : Cond) ∈ wsX8_init := (sbX8_init_X8_init_r2 _ (memL 10 rfl))
theorem mwX8_init_2 : (.fieldLink RX7 18 "BuoyTender$Warnings" "toldOn" "[I" : Cond) ∈ wsX8_init := (sbX8_init_X8_init_r2 _ (memL 9 rfl))
theorem mwX8_init_3 : (.fieldLink RX7 15 "BuoyTender$Warnings" "reasonOf" "[I" : Cond) ∈ wsX8_init := (sbX8_init_X8_init_r2 _ (memL 8 rfl))
theorem mwX8_init_4 : (.fieldLink RX7 9 "BuoyTender$Warnings" "markOf" "[I" : Cond) ∈ wsX8_init := (sbX8_init_X8_init_r2 _ (memL 7 rfl))
theorem mwX8_init_5 : (.arrayClass .int : Cond) ∈ wsX8_init := (sbX8_init_X8_init_r1 _ (memL 3 rfl))
theorem mwX8_init_6 : (.code objectInit ⟨#[0xb1]⟩ 1 none : Cond) ∈ wsX8_init := (sbX8_init_X8_init_r1 _ (memL 2 rfl))
theorem mwX8_init_7 : (.instanceMethod objectInit : Cond) ∈ wsX8_init := (sbX8_init_X8_init_r1 _ (memL 1 rfl))
theorem mwX8_init_8 : (.methodLink RX7 3 objectInit : Cond) ∈ wsX8_init := (sbX8_init_X8_init_r2 _ (memL 6 rfl))
set_option maxRecDepth 20000 in
theorem sbX8_init_X70 : SubW wsX70 wsX8_init := fun _ h => (List.mem_cons_of_mem _ (List.mem_append_left _ (List.mem_append_left _ (List.mem_append_left _ (List.mem_append_left _ (List.mem_append_right _ h))))))
set_option maxRecDepth 20000 in
theorem sbX8_init_X7_init : SubW wsX7_init wsX8_init := (subW_cons mwX8_init_0 (subW_app (subW_cons mwX8_init_8 (subW_cons mwX8_init_7 (subW_cons mwX8_init_6 (subW_cons mwX8_init_5 (subW_cons mwX8_init_4 (subW_cons mwX8_init_3 (subW_cons mwX8_init_2 (subW_cons mwX8_init_1 subW_nil)))))))) sbX8_init_X70))
set_option maxRecDepth 20000 in
theorem gw_wsX8_init_r1 : goodW wsX8_init_r1 := (goodW_of (by decide +kernel))
set_option maxRecDepth 20000 in
theorem gw_wsX8_init_r2 : goodW wsX8_init_r2 := (goodW_of (by decide +kernel))
set_option maxRecDepth 20000 in
theorem gw_wsX8_init_r3 : goodW wsX8_init_r3 := (goodW_of (by decide +kernel))
set_option maxRecDepth 20000 in
theorem gw_wsX80 : goodW wsX80 := goodW_of (by decide +kernel)
set_option maxRecDepth 20000 in
theorem gw_wsX8_init : goodW wsX8_init := (goodW_cons rfl (goodW_app (goodW_app (goodW_app (goodW_app (goodW_app (goodW_app (goodW_app gw_wsX8_init_r1 (goodW_app gw_wsX8_init_r2 gw_wsX8_init_r3)) gw_wsX80) gw_wsX70) gw_wsX40) gw_wsX20) gw_wsX60) gw_wsX30))
theorem ggX8_init_X7_init : GoodIn wsX8_init wsX7_init := goodIn_W gw_wsX8_init sbX8_init_X7_init
set_option maxRecDepth 20000 in
theorem gX8_init_X7_init_n24 : GoodIn wsX8_init (wsX7_init) := ggX8_init_X7_init
theorem mwX8_init_9 : (.code yX4_init cX4_init 1 none : Cond) ∈ wsX8_init := (sbX8_init_X8_init_r2 _ (memL 12 rfl))
theorem mwX8_init_10 : (.fieldLink RX4 25 "BuoyTender$Ship" "mostWind" "I" : Cond) ∈ wsX8_init := (sbX8_init_X8_init_r2 _ (memL 18 rfl))
theorem mwX8_init_11 : (.fieldLink RX4 22 "BuoyTender$Ship" "pace" "I" : Cond) ∈ wsX8_init := (sbX8_init_X8_init_r2 _ (memL 17 rfl))
theorem mwX8_init_12 : (.fieldLink RX4 18 "BuoyTender$Ship" "end" "I" : Cond) ∈ wsX8_init := (sbX8_init_X8_init_r2 _ (memL 16 rfl))
theorem mwX8_init_13 : (.fieldLink RX4 15 "BuoyTender$Ship" "winds" "[I" : Cond) ∈ wsX8_init := (sbX8_init_X8_init_r2 _ (memL 15 rfl))
theorem mwX8_init_14 : (.fieldLink RX4 9 "BuoyTender$Ship" "tides" "[I" : Cond) ∈ wsX8_init := (sbX8_init_X8_init_r2 _ (memL 14 rfl))
theorem mwX8_init_15 : (.methodLink RX4 3 objectInit : Cond) ∈ wsX8_init := (sbX8_init_X8_init_r2 _ (memL 13 rfl))
set_option maxRecDepth 20000 in
theorem sbX8_init_X40 : SubW wsX40 wsX8_init := fun _ h => (List.mem_cons_of_mem _ (List.mem_append_left _ (List.mem_append_left _ (List.mem_append_left _ (List.mem_append_right _ h)))))
set_option maxRecDepth 20000 in
theorem sbX8_init_X4_init : SubW wsX4_init wsX8_init := (subW_cons mwX8_init_9 (subW_app (subW_cons mwX8_init_15 (subW_cons mwX8_init_7 (subW_cons mwX8_init_6 (subW_cons mwX8_init_5 (subW_cons mwX8_init_14 (subW_cons mwX8_init_13 (subW_cons mwX8_init_12 (subW_cons mwX8_init_11 (subW_cons mwX8_init_10 subW_nil))))))))) sbX8_init_X40))
theorem ggX8_init_X4_init : GoodIn wsX8_init wsX4_init := goodIn_W gw_wsX8_init sbX8_init_X4_init
set_option maxRecDepth 20000 in
theorem gX8_init_X4_init_n31 : GoodIn wsX8_init (wsX4_init) := ggX8_init_X4_init
theorem mwX8_init_16 : (.code yX2_init cX2_init 1 none : Cond) ∈ wsX8_init := (sbX8_init_X8_init_r2 _ (memL 20 rfl))
theorem mwX8_init_17 : (.fieldLink RX2 45 "BuoyTender$Planner" "begins" "[I" : Cond) ∈ wsX8_init := (sbX8_init_X8_init_r3 _ (memL 9 rfl))
theorem mwX8_init_18 : (.fieldLink RX2 42 "BuoyTender$Planner" "order" "[I" : Cond) ∈ wsX8_init := (sbX8_init_X8_init_r3 _ (memL 8 rfl))
theorem mwX8_init_19 : (.fieldLink RX2 39 "BuoyTender$Planner" "tried" "[I" : Cond) ∈ wsX8_init := (sbX8_init_X8_init_r3 _ (memL 7 rfl))
theorem mwX8_init_20 : (.fieldLink RX2 36 "BuoyTender$Planner" "backs" "[I" : Cond) ∈ wsX8_init := (sbX8_init_X8_init_r3 _ (memL 6 rfl))
theorem mwX8_init_21 : (.fieldLink RX2 33 "BuoyTender$Planner" "ends" "[I" : Cond) ∈ wsX8_init := (sbX8_init_X8_init_r3 _ (memL 5 rfl))
theorem mwX8_init_22 : (.fieldLink RX2 30 "BuoyTender$Planner" "openedIn" "[I" : Cond) ∈ wsX8_init := (sbX8_init_X8_init_r3 _ (memL 4 rfl))
theorem mwX8_init_23 : (.fieldLink RX2 27 "BuoyTender$Planner" "opensIn" "[I" : Cond) ∈ wsX8_init := (sbX8_init_X8_init_r3 _ (memL 3 rfl))
theorem mwX8_init_24 : (.fieldLink RX2 24 "BuoyTender$Planner" "ways" "[I" : Cond) ∈ wsX8_init := (sbX8_init_X8_init_r3 _ (memL 2 rfl))
theorem mwX8_init_25 : (.fieldLink RX2 21 "BuoyTender$Planner" "weights" "[I" : Cond) ∈ wsX8_init := (sbX8_init_X8_init_r3 _ (memL 1 rfl))
theorem mwX8_init_26 : (.fieldLink RX2 18 "BuoyTender$Planner" "loads" "[I" : Cond) ∈ wsX8_init := (sbX8_init_X8_init_r3 _ (memL 0 rfl))
theorem mwX8_init_27 : (.fieldLink RX2 15 "BuoyTender$Planner" "minutes" "[I" : Cond) ∈ wsX8_init := (sbX8_init_X8_init_r2 _ (memL 23 rfl))
theorem mwX8_init_28 : (.fieldLink RX2 9 "BuoyTender$Planner" "numbers" "[I" : Cond) ∈ wsX8_init := (sbX8_init_X8_init_r2 _ (memL 22 rfl))
theorem mwX8_init_29 : (.methodLink RX2 3 objectInit : Cond) ∈ wsX8_init := (sbX8_init_X8_init_r2 _ (memL 21 rfl))
set_option maxRecDepth 20000 in
theorem sbX8_init_X20 : SubW wsX20 wsX8_init := fun _ h => (List.mem_cons_of_mem _ (List.mem_append_left _ (List.mem_append_left _ (List.mem_append_right _ h))))
set_option maxRecDepth 20000 in
theorem sbX8_init_X2_init : SubW wsX2_init wsX8_init := (subW_cons mwX8_init_16 (subW_app (subW_cons mwX8_init_29 (subW_cons mwX8_init_7 (subW_cons mwX8_init_6 (subW_cons mwX8_init_5 (subW_cons mwX8_init_28 (subW_cons mwX8_init_27 (subW_cons mwX8_init_26 (subW_cons mwX8_init_25 (subW_cons mwX8_init_24 (subW_cons mwX8_init_23 (subW_cons mwX8_init_22 (subW_cons mwX8_init_21 (subW_cons mwX8_init_20 (subW_cons mwX8_init_19 (subW_cons mwX8_init_18 (subW_cons mwX8_init_17 subW_nil)))))))))))))))) sbX8_init_X20))
theorem ggX8_init_X2_init : GoodIn wsX8_init wsX2_init := goodIn_W gw_wsX8_init sbX8_init_X2_init
set_option maxRecDepth 20000 in
theorem gX8_init_X2_init_n38 : GoodIn wsX8_init (wsX2_init) := ggX8_init_X2_init
theorem mwX8_init_30 : (.code yX6_init cX6_init 1 none : Cond) ∈ wsX8_init := (sbX8_init_X8_init_r3 _ (memL 11 rfl))
theorem mwX8_init_31 : (.methodLink RX6 3 objectInit : Cond) ∈ wsX8_init := (sbX8_init_X8_init_r3 _ (memL 12 rfl))
set_option maxRecDepth 20000 in
theorem sbX8_init_X6_init : SubW wsX6_init wsX8_init := (subW_cons mwX8_init_30 (subW_cons mwX8_init_31 (subW_cons mwX8_init_7 (subW_cons mwX8_init_6 subW_nil))))
theorem ggX8_init_X6_init : GoodIn wsX8_init wsX6_init := goodIn_W gw_wsX8_init sbX8_init_X6_init
set_option maxRecDepth 20000 in
theorem gX8_init_X6_init_n45 : GoodIn wsX8_init (wsX6_init) := ggX8_init_X6_init
theorem mwX8_init_32 : (.code yX3_init cX3_init 1 none : Cond) ∈ wsX8_init := (sbX8_init_X8_init_r3 _ (memL 14 rfl))
theorem mwX8_init_33 : (.fieldLink RX3 9 "BuoyTender$Rhythm" "steps" "[I" : Cond) ∈ wsX8_init := (sbX8_init_X8_init_r3 _ (memL 16 rfl))
theorem mwX8_init_34 : (.methodLink RX3 3 objectInit : Cond) ∈ wsX8_init := (sbX8_init_X8_init_r3 _ (memL 15 rfl))
set_option maxRecDepth 20000 in
theorem sbX8_init_X30 : SubW wsX30 wsX8_init := fun _ h => (List.mem_cons_of_mem _ (List.mem_append_right _ h))
set_option maxRecDepth 20000 in
theorem sbX8_init_X3_init : SubW wsX3_init wsX8_init := (subW_cons mwX8_init_32 (subW_app (subW_cons mwX8_init_34 (subW_cons mwX8_init_7 (subW_cons mwX8_init_6 (subW_cons mwX8_init_5 (subW_cons mwX8_init_33 subW_nil))))) sbX8_init_X30))
theorem ggX8_init_X3_init : GoodIn wsX8_init wsX3_init := goodIn_W gw_wsX8_init sbX8_init_X3_init
set_option maxRecDepth 20000 in
theorem gX8_init_X3_init_n52 : GoodIn wsX8_init (wsX3_init) := ggX8_init_X3_init
theorem dX8_init_0 : decode cX8_init 0 = .ok (.aload_n 0, 1) := by decide +kernel
theorem dX8_init_1 : decode cX8_init 1 = .ok (.invokespecial 1, 3) := by decide +kernel
theorem dX8_init_4 : decode cX8_init 4 = .ok (.aload_n 0, 1) := by decide +kernel
theorem dX8_init_5 : decode cX8_init 5 = .ok (.sipush 1600, 3) := by decide +kernel
theorem dX8_init_8 : decode cX8_init 8 = .ok (.newarray .int, 2) := by decide +kernel
theorem dX8_init_10 : decode cX8_init 10 = .ok (.putfield 9, 3) := by decide +kernel
theorem dX8_init_13 : decode cX8_init 13 = .ok (.aload_n 0, 1) := by decide +kernel
theorem dX8_init_14 : decode cX8_init 14 = .ok (.bipush 10, 2) := by decide +kernel
theorem dX8_init_16 : decode cX8_init 16 = .ok (.anewarray 13, 3) := by decide +kernel
theorem dX8_init_19 : decode cX8_init 19 = .ok (.putfield 15, 3) := by decide +kernel
theorem dX8_init_22 : decode cX8_init 22 = .ok (.aload_n 0, 1) := by decide +kernel
theorem dX8_init_23 : decode cX8_init 23 = .ok (.bipush 48, 2) := by decide +kernel
theorem dX8_init_25 : decode cX8_init 25 = .ok (.newarray .int, 2) := by decide +kernel
theorem dX8_init_27 : decode cX8_init 27 = .ok (.putfield 19, 3) := by decide +kernel
theorem dX8_init_30 : decode cX8_init 30 = .ok (.aload_n 0, 1) := by decide +kernel
theorem dX8_init_31 : decode cX8_init 31 = .ok (.new 22, 3) := by decide +kernel
theorem dX8_init_34 : decode cX8_init 34 = .ok (.dup, 1) := by decide +kernel
theorem dX8_init_35 : decode cX8_init 35 = .ok (.invokespecial 24, 3) := by decide +kernel
theorem dX8_init_38 : decode cX8_init 38 = .ok (.putfield 25, 3) := by decide +kernel
theorem dX8_init_41 : decode cX8_init 41 = .ok (.aload_n 0, 1) := by decide +kernel
theorem dX8_init_42 : decode cX8_init 42 = .ok (.new 29, 3) := by decide +kernel
theorem dX8_init_45 : decode cX8_init 45 = .ok (.dup, 1) := by decide +kernel
theorem dX8_init_46 : decode cX8_init 46 = .ok (.invokespecial 31, 3) := by decide +kernel
theorem dX8_init_49 : decode cX8_init 49 = .ok (.putfield 32, 3) := by decide +kernel
theorem dX8_init_52 : decode cX8_init 52 = .ok (.aload_n 0, 1) := by decide +kernel
theorem dX8_init_53 : decode cX8_init 53 = .ok (.new 36, 3) := by decide +kernel
theorem dX8_init_56 : decode cX8_init 56 = .ok (.dup, 1) := by decide +kernel
theorem dX8_init_57 : decode cX8_init 57 = .ok (.invokespecial 38, 3) := by decide +kernel
theorem dX8_init_60 : decode cX8_init 60 = .ok (.putfield 39, 3) := by decide +kernel
theorem dX8_init_63 : decode cX8_init 63 = .ok (.aload_n 0, 1) := by decide +kernel
theorem dX8_init_64 : decode cX8_init 64 = .ok (.new 43, 3) := by decide +kernel
theorem dX8_init_67 : decode cX8_init 67 = .ok (.dup, 1) := by decide +kernel
theorem dX8_init_68 : decode cX8_init 68 = .ok (.invokespecial 45, 3) := by decide +kernel
theorem dX8_init_71 : decode cX8_init 71 = .ok (.putfield 46, 3) := by decide +kernel
theorem dX8_init_74 : decode cX8_init 74 = .ok (.aload_n 0, 1) := by decide +kernel
theorem dX8_init_75 : decode cX8_init 75 = .ok (.new 50, 3) := by decide +kernel
theorem dX8_init_78 : decode cX8_init 78 = .ok (.dup, 1) := by decide +kernel
theorem dX8_init_79 : decode cX8_init 79 = .ok (.invokespecial 52, 3) := by decide +kernel
theorem dX8_init_82 : decode cX8_init 82 = .ok (.putfield 53, 3) := by decide +kernel
theorem dX8_init_85 : decode cX8_init 85 = .ok (.return_, 1) := by decide +kernel
theorem mwX8_depth_0 : (.code yX8_isPlace cX8_isPlace 2 (some .boolean) : Cond) ∈ wsX8_depth := (List.mem_cons_of_mem _ (List.mem_append_left _ (memL 5 rfl)))
theorem mwX8_depth_1 : (.code yX8_within cX8_within 3 (some .boolean) : Cond) ∈ wsX8_depth := (List.mem_cons_of_mem _ (List.mem_append_left _ (memL 8 rfl)))
theorem mwX8_depth_2 : (.initialized RX8 : Cond) ∈ wsX8_depth := (List.mem_cons_of_mem _ (List.mem_append_left _ (memL 4 rfl)))
theorem mwX8_depth_3 : (.static yX8_within : Cond) ∈ wsX8_depth := (List.mem_cons_of_mem _ (List.mem_append_left _ (memL 7 rfl)))
theorem mwX8_depth_4 : (.methodLink RX8 61 yX8_within : Cond) ∈ wsX8_depth := (List.mem_cons_of_mem _ (List.mem_append_left _ (memL 6 rfl)))
set_option maxRecDepth 20000 in
theorem sbX8_depth_X8_isPlace : SubW wsX8_isPlace wsX8_depth := (subW_cons mwX8_depth_0 (subW_cons mwX8_depth_4 (subW_cons mwX8_depth_3 (subW_cons mwX8_depth_2 (subW_cons mwX8_depth_1 subW_nil)))))
set_option maxRecDepth 20000 in
theorem gw_wsX8_depth : goodW wsX8_depth := (goodW_cons rfl (goodW_app (goodW_of (by decide +kernel)) gw_wsX80))
theorem ggX8_depth_X8_isPlace : GoodIn wsX8_depth wsX8_isPlace := goodIn_W gw_wsX8_depth sbX8_depth_X8_isPlace
theorem mwX8_depth_5 : (.static yX8_isPlace : Cond) ∈ wsX8_depth := (List.mem_cons_of_mem _ (List.mem_append_left _ (memL 3 rfl)))
theorem mwX8_depth_6 : (.methodLink RX8 57 yX8_isPlace : Cond) ∈ wsX8_depth := (List.mem_cons_of_mem _ (List.mem_append_left _ (memL 2 rfl)))
theorem gX8_depth_X8_isPlace : GoodIn wsX8_depth (va_wsS RX8 57 yX8_isPlace wsX8_isPlace) := goodIn_W gw_wsX8_depth (subW_app (subW_cons mwX8_depth_6 (subW_cons mwX8_depth_5 (subW_cons mwX8_depth_2 subW_nil))) sbX8_depth_X8_isPlace)
set_option maxRecDepth 20000 in
theorem sbX8_depth_X8_within : SubW wsX8_within wsX8_depth := (subW_cons mwX8_depth_1 subW_nil)
theorem ggX8_depth_X8_within : GoodIn wsX8_depth wsX8_within := goodIn_W gw_wsX8_depth sbX8_depth_X8_within
theorem gX8_depth_X8_within : GoodIn wsX8_depth (va_wsS RX8 61 yX8_within wsX8_within) := goodIn_W gw_wsX8_depth (subW_app (subW_cons mwX8_depth_4 (subW_cons mwX8_depth_3 (subW_cons mwX8_depth_2 subW_nil))) sbX8_depth_X8_within)
theorem dX8_depth_0 : decode cX8_depth 0 = .ok (.iload_n 1, 1) := by decide +kernel
theorem dX8_depth_1 : decode cX8_depth 1 = .ok (.iload_n 2, 1) := by decide +kernel
theorem dX8_depth_2 : decode cX8_depth 2 = .ok (.invokestatic 57, 3) := by decide +kernel
theorem dX8_depth_5 : decode cX8_depth 5 = .ok (.ifCond .eq 35, 3) := by decide +kernel
theorem dX8_depth_8 : decode cX8_depth 8 = .ok (.iload_n 3, 1) := by decide +kernel
theorem dX8_depth_9 : decode cX8_depth 9 = .ok (.iload 4, 2) := by decide +kernel
theorem dX8_depth_11 : decode cX8_depth 11 = .ok (.invokestatic 57, 3) := by decide +kernel
theorem dX8_depth_14 : decode cX8_depth 14 = .ok (.ifCond .eq 26, 3) := by decide +kernel
theorem dX8_depth_17 : decode cX8_depth 17 = .ok (.iload_n 1, 1) := by decide +kernel
theorem dX8_depth_18 : decode cX8_depth 18 = .ok (.iload_n 3, 1) := by decide +kernel
theorem dX8_depth_19 : decode cX8_depth 19 = .ok (.if_icmp .gt 21, 3) := by decide +kernel
theorem dX8_depth_22 : decode cX8_depth 22 = .ok (.iload_n 2, 1) := by decide +kernel
theorem dX8_depth_23 : decode cX8_depth 23 = .ok (.iload 4, 2) := by decide +kernel
theorem dX8_depth_25 : decode cX8_depth 25 = .ok (.if_icmp .gt 15, 3) := by decide +kernel
theorem dX8_depth_28 : decode cX8_depth 28 = .ok (.iload 5, 2) := by decide +kernel
theorem dX8_depth_30 : decode cX8_depth 30 = .ok (.iconst 0, 1) := by decide +kernel
theorem dX8_depth_31 : decode cX8_depth 31 = .ok (.sipush 200, 3) := by decide +kernel
theorem dX8_depth_34 : decode cX8_depth 34 = .ok (.invokestatic 61, 3) := by decide +kernel
theorem dX8_depth_37 : decode cX8_depth 37 = .ok (.ifCond .ne 5, 3) := by decide +kernel
theorem dX8_depth_40 : decode cX8_depth 40 = .ok (.iconst 0, 1) := by decide +kernel
theorem dX8_depth_41 : decode cX8_depth 41 = .ok (.ireturn, 1) := by decide +kernel
theorem dX8_depth_42 : decode cX8_depth 42 = .ok (.iload_n 2, 1) := by decide +kernel
theorem dX8_depth_43 : decode cX8_depth 43 = .ok (.istore 6, 2) := by decide +kernel
theorem dX8_depth_45 : decode cX8_depth 45 = .ok (.iload 6, 2) := by decide +kernel
theorem dX8_depth_47 : decode cX8_depth 47 = .ok (.iload 4, 2) := by decide +kernel
theorem dX8_depth_49 : decode cX8_depth 49 = .ok (.if_icmp .gt 39, 3) := by decide +kernel
theorem dX8_depth_52 : decode cX8_depth 52 = .ok (.iload_n 1, 1) := by decide +kernel
theorem dX8_depth_53 : decode cX8_depth 53 = .ok (.istore 7, 2) := by decide +kernel
theorem dX8_depth_55 : decode cX8_depth 55 = .ok (.iload 7, 2) := by decide +kernel
theorem dX8_depth_57 : decode cX8_depth 57 = .ok (.iload_n 3, 1) := by decide +kernel
theorem dX8_depth_58 : decode cX8_depth 58 = .ok (.if_icmp .gt 24, 3) := by decide +kernel
theorem dX8_depth_61 : decode cX8_depth 61 = .ok (.aload_n 0, 1) := by decide +kernel
theorem dX8_depth_62 : decode cX8_depth 62 = .ok (.getfield 9, 3) := by decide +kernel
theorem dX8_depth_65 : decode cX8_depth 65 = .ok (.iload 6, 2) := by decide +kernel
theorem dX8_depth_67 : decode cX8_depth 67 = .ok (.bipush 40, 2) := by decide +kernel
theorem dX8_depth_69 : decode cX8_depth 69 = .ok (.imul, 1) := by decide +kernel
theorem dX8_depth_70 : decode cX8_depth 70 = .ok (.iload 7, 2) := by decide +kernel
theorem dX8_depth_72 : decode cX8_depth 72 = .ok (.iadd, 1) := by decide +kernel
theorem dX8_depth_73 : decode cX8_depth 73 = .ok (.iload 5, 2) := by decide +kernel
theorem dX8_depth_75 : decode cX8_depth 75 = .ok (.iastore, 1) := by decide +kernel
theorem dX8_depth_76 : decode cX8_depth 76 = .ok (.iinc 7 1, 3) := by decide +kernel
theorem dX8_depth_79 : decode cX8_depth 79 = .ok (.goto (-24), 3) := by decide +kernel
theorem dX8_depth_82 : decode cX8_depth 82 = .ok (.iinc 6 1, 3) := by decide +kernel
theorem dX8_depth_85 : decode cX8_depth 85 = .ok (.goto (-40), 3) := by decide +kernel
theorem dX8_depth_88 : decode cX8_depth 88 = .ok (.aload_n 0, 1) := by decide +kernel
theorem dX8_depth_89 : decode cX8_depth 89 = .ok (.iconst 0, 1) := by decide +kernel
theorem dX8_depth_90 : decode cX8_depth 90 = .ok (.putfield 65, 3) := by decide +kernel
theorem dX8_depth_93 : decode cX8_depth 93 = .ok (.iconst 1, 1) := by decide +kernel
theorem dX8_depth_94 : decode cX8_depth 94 = .ok (.ireturn, 1) := by decide +kernel
theorem sbX8_mark_X8_mark_r1 : SubW wsX8_mark_r1 wsX8_mark := fun _ h => (List.mem_cons_of_mem _ (List.mem_append_left _ (List.mem_append_left _ (List.mem_append_left _ (List.mem_append_left _ (List.mem_append_left _ (List.mem_append_left _ h)))))))
theorem sbX8_mark_X8_mark_r2 : SubW wsX8_mark_r2 wsX8_mark := fun _ h => (List.mem_cons_of_mem _ (List.mem_append_left _ (List.mem_append_left _ (List.mem_append_left _ (List.mem_append_left _ (List.mem_append_left _ (List.mem_append_right _ h)))))))
theorem mwX8_mark_0 : (.code yX8_isPlace cX8_isPlace 2 (some .boolean) : Cond) ∈ wsX8_mark := (sbX8_mark_X8_mark_r1 _ (memL 8 rfl))
theorem mwX8_mark_1 : (.code yX8_within cX8_within 3 (some .boolean) : Cond) ∈ wsX8_mark := (sbX8_mark_X8_mark_r1 _ (memL 11 rfl))
theorem mwX8_mark_2 : (.initialized RX8 : Cond) ∈ wsX8_mark := (sbX8_mark_X8_mark_r1 _ (memL 7 rfl))
theorem mwX8_mark_3 : (.static yX8_within : Cond) ∈ wsX8_mark := (sbX8_mark_X8_mark_r1 _ (memL 10 rfl))
theorem mwX8_mark_4 : (.methodLink RX8 61 yX8_within : Cond) ∈ wsX8_mark := (sbX8_mark_X8_mark_r1 _ (memL 9 rfl))
set_option maxRecDepth 20000 in
theorem sbX8_mark_X8_isPlace : SubW wsX8_isPlace wsX8_mark := (subW_cons mwX8_mark_0 (subW_cons mwX8_mark_4 (subW_cons mwX8_mark_3 (subW_cons mwX8_mark_2 (subW_cons mwX8_mark_1 subW_nil)))))
set_option maxRecDepth 20000 in
theorem gw_wsX8_mark_r1 : goodW wsX8_mark_r1 := (goodW_of (by decide +kernel))
set_option maxRecDepth 20000 in
theorem gw_wsX8_mark_r2 : goodW wsX8_mark_r2 := (goodW_of (by decide +kernel))
set_option maxRecDepth 20000 in
theorem gw_wsX8_mark : goodW wsX8_mark := (goodW_cons rfl (goodW_app (goodW_app (goodW_app (goodW_app (goodW_app (goodW_app gw_wsX8_mark_r1 gw_wsX8_mark_r2) gw_wsX80) gw_wsX10) gw_wsX50) gw_wsX00) gw_wsX30))
theorem ggX8_mark_X8_isPlace : GoodIn wsX8_mark wsX8_isPlace := goodIn_W gw_wsX8_mark sbX8_mark_X8_isPlace
theorem mwX8_mark_5 : (.static yX8_isPlace : Cond) ∈ wsX8_mark := (sbX8_mark_X8_mark_r1 _ (memL 6 rfl))
theorem mwX8_mark_6 : (.methodLink RX8 57 yX8_isPlace : Cond) ∈ wsX8_mark := (sbX8_mark_X8_mark_r1 _ (memL 5 rfl))
theorem gX8_mark_X8_isPlace : GoodIn wsX8_mark (va_wsS RX8 57 yX8_isPlace wsX8_isPlace) := goodIn_W gw_wsX8_mark (subW_app (subW_cons mwX8_mark_6 (subW_cons mwX8_mark_5 (subW_cons mwX8_mark_2 subW_nil))) sbX8_mark_X8_isPlace)
set_option maxRecDepth 20000 in
theorem sbX8_mark_X8_within : SubW wsX8_within wsX8_mark := (subW_cons mwX8_mark_1 subW_nil)
theorem ggX8_mark_X8_within : GoodIn wsX8_mark wsX8_within := goodIn_W gw_wsX8_mark sbX8_mark_X8_within
theorem gX8_mark_X8_within : GoodIn wsX8_mark (va_wsS RX8 61 yX8_within wsX8_within) := goodIn_W gw_wsX8_mark (subW_app (subW_cons mwX8_mark_4 (subW_cons mwX8_mark_3 (subW_cons mwX8_mark_2 subW_nil))) sbX8_mark_X8_within)
theorem mwX8_mark_7 : (.code yX1_init cX1_init 4 none : Cond) ∈ wsX8_mark := (sbX8_mark_X8_mark_r1 _ (memL 13 rfl))
theorem mwX8_mark_8 : (.fieldLink RX5 15 "BuoyTender$Sighting" "deepest" "I" : Cond) ∈ wsX8_mark := (sbX8_mark_X8_mark_r2 _ (memL 13 rfl))
theorem mwX8_mark_9 : (.fieldLink RX5 9 "BuoyTender$Sighting" "ruledOut" "[J" : Cond) ∈ wsX8_mark := (sbX8_mark_X8_mark_r2 _ (memL 12 rfl))
theorem mwX8_mark_10 : (.arrayClass .long : Cond) ∈ wsX8_mark := (sbX8_mark_X8_mark_r2 _ (memL 11 rfl))
theorem mwX8_mark_11 : (.methodLink RX5 3 objectInit : Cond) ∈ wsX8_mark := (sbX8_mark_X8_mark_r2 _ (memL 10 rfl))
theorem mwX8_mark_12 : (.code yX5_init cX5_init 1 none : Cond) ∈ wsX8_mark := (sbX8_mark_X8_mark_r2 _ (memL 9 rfl))
theorem mwX8_mark_13 : (.instanceMethod yX5_init : Cond) ∈ wsX8_mark := (sbX8_mark_X8_mark_r2 _ (memL 8 rfl))
theorem mwX8_mark_14 : (.fieldLink RX1 37 "BuoyTender$Mark" "radius" "I" : Cond) ∈ wsX8_mark := (sbX8_mark_X8_mark_r2 _ (memL 7 rfl))
theorem mwX8_mark_15 : (.fieldLink RX1 34 "BuoyTender$Mark" "y" "I" : Cond) ∈ wsX8_mark := (sbX8_mark_X8_mark_r2 _ (memL 6 rfl))
theorem mwX8_mark_16 : (.fieldLink RX1 30 "BuoyTender$Mark" "x" "I" : Cond) ∈ wsX8_mark := (sbX8_mark_X8_mark_r2 _ (memL 5 rfl))
theorem mwX8_mark_17 : (.fieldLink RX1 26 "BuoyTender$Mark" "rhythm" "LBuoyTender$Rhythm;" : Cond) ∈ wsX8_mark := (sbX8_mark_X8_mark_r2 _ (memL 4 rfl))
theorem mwX8_mark_18 : (.initialized RX3 : Cond) ∈ wsX8_mark := (sbX8_mark_X8_mark_r2 _ (memL 3 rfl))
theorem mwX8_mark_19 : (.instantiable RX3 2 : Cond) ∈ wsX8_mark := (sbX8_mark_X8_mark_r2 _ (memL 2 rfl))
theorem mwX8_mark_20 : (.classLink RX1 23 RX3 : Cond) ∈ wsX8_mark := (sbX8_mark_X8_mark_r2 _ (memL 1 rfl))
theorem mwX8_mark_21 : (.fieldLink RX1 19 "BuoyTender$Mark" "chain" "LBuoyTender$Chain;" : Cond) ∈ wsX8_mark := (sbX8_mark_X8_mark_r2 _ (memL 0 rfl))
theorem mwX8_mark_22 : (.initialized RX0 : Cond) ∈ wsX8_mark := (sbX8_mark_X8_mark_r1 _ (memL 23 rfl))
theorem mwX8_mark_23 : (.instantiable RX0 5 : Cond) ∈ wsX8_mark := (sbX8_mark_X8_mark_r1 _ (memL 22 rfl))
theorem mwX8_mark_24 : (.classLink RX1 16 RX0 : Cond) ∈ wsX8_mark := (sbX8_mark_X8_mark_r1 _ (memL 21 rfl))
theorem mwX8_mark_25 : (.fieldLink RX1 10 "BuoyTender$Mark" "sighting" "LBuoyTender$Sighting;" : Cond) ∈ wsX8_mark := (sbX8_mark_X8_mark_r1 _ (memL 20 rfl))
theorem mwX8_mark_26 : (.initialized RX5 : Cond) ∈ wsX8_mark := (sbX8_mark_X8_mark_r1 _ (memL 19 rfl))
theorem mwX8_mark_27 : (.instantiable RX5 4 : Cond) ∈ wsX8_mark := (sbX8_mark_X8_mark_r1 _ (memL 18 rfl))
theorem mwX8_mark_28 : (.classLink RX1 7 RX5 : Cond) ∈ wsX8_mark := (sbX8_mark_X8_mark_r1 _ (memL 17 rfl))
theorem mwX8_mark_29 : (.code objectInit ⟨#[0xb1]⟩ 1 none : Cond) ∈ wsX8_mark := (sbX8_mark_X8_mark_r1 _ (memL 16 rfl))
theorem mwX8_mark_30 : (.instanceMethod objectInit : Cond) ∈ wsX8_mark := (sbX8_mark_X8_mark_r1 _ (memL 15 rfl))
theorem mwX8_mark_31 : (.methodLink RX1 1 objectInit : Cond) ∈ wsX8_mark := (sbX8_mark_X8_mark_r1 _ (memL 14 rfl))
set_option maxRecDepth 20000 in
theorem sbX8_mark_X1_init_r1 : SubW wsX1_init_r1 wsX8_mark := (subW_cons mwX8_mark_31 (subW_cons mwX8_mark_30 (subW_cons mwX8_mark_29 (subW_cons mwX8_mark_28 (subW_cons mwX8_mark_27 (subW_cons mwX8_mark_26 (subW_cons mwX8_mark_25 (subW_cons mwX8_mark_24 (subW_cons mwX8_mark_23 (subW_cons mwX8_mark_22 (subW_cons mwX8_mark_21 (subW_cons mwX8_mark_20 (subW_cons mwX8_mark_19 (subW_cons mwX8_mark_18 (subW_cons mwX8_mark_17 (subW_cons mwX8_mark_16 (subW_cons mwX8_mark_15 (subW_cons mwX8_mark_14 (subW_cons mwX8_mark_13 (subW_cons mwX8_mark_12 (subW_cons mwX8_mark_11 (subW_cons mwX8_mark_10 (subW_cons mwX8_mark_9 (subW_cons mwX8_mark_8 subW_nil))))))))))))))))))))))))
theorem mwX8_mark_32 : (.fieldLink RX3 9 "BuoyTender$Rhythm" "steps" "[I" : Cond) ∈ wsX8_mark := (sbX8_mark_X8_mark_r2 _ (memL 21 rfl))
theorem mwX8_mark_33 : (.arrayClass .int : Cond) ∈ wsX8_mark := (sbX8_mark_X8_mark_r2 _ (memL 20 rfl))
theorem mwX8_mark_34 : (.methodLink RX3 3 objectInit : Cond) ∈ wsX8_mark := (sbX8_mark_X8_mark_r2 _ (memL 19 rfl))
theorem mwX8_mark_35 : (.code yX3_init cX3_init 1 none : Cond) ∈ wsX8_mark := (sbX8_mark_X8_mark_r2 _ (memL 18 rfl))
theorem mwX8_mark_36 : (.instanceMethod yX3_init : Cond) ∈ wsX8_mark := (sbX8_mark_X8_mark_r2 _ (memL 17 rfl))
theorem mwX8_mark_37 : (.methodLink RX0 3 objectInit : Cond) ∈ wsX8_mark := (sbX8_mark_X8_mark_r2 _ (memL 16 rfl))
theorem mwX8_mark_38 : (.code yX0_init cX0_init 1 none : Cond) ∈ wsX8_mark := (sbX8_mark_X8_mark_r2 _ (memL 15 rfl))
theorem mwX8_mark_39 : (.instanceMethod yX0_init : Cond) ∈ wsX8_mark := (sbX8_mark_X8_mark_r2 _ (memL 14 rfl))
set_option maxRecDepth 20000 in
theorem sbX8_mark_X1_init_r2 : SubW wsX1_init_r2 wsX8_mark := (subW_cons mwX8_mark_39 (subW_cons mwX8_mark_38 (subW_cons mwX8_mark_37 (subW_cons mwX8_mark_36 (subW_cons mwX8_mark_35 (subW_cons mwX8_mark_34 (subW_cons mwX8_mark_33 (subW_cons mwX8_mark_32 subW_nil))))))))
set_option maxRecDepth 20000 in
theorem sbX8_mark_X50 : SubW wsX50 wsX8_mark := fun _ h => (List.mem_cons_of_mem _ (List.mem_append_left _ (List.mem_append_left _ (List.mem_append_right _ h))))
set_option maxRecDepth 20000 in
theorem sbX8_mark_X10 : SubW wsX10 wsX8_mark := fun _ h => (List.mem_cons_of_mem _ (List.mem_append_left _ (List.mem_append_left _ (List.mem_append_left _ (List.mem_append_right _ h)))))
set_option maxRecDepth 20000 in
theorem sbX8_mark_X00 : SubW wsX00 wsX8_mark := fun _ h => (List.mem_cons_of_mem _ (List.mem_append_left _ (List.mem_append_right _ h)))
set_option maxRecDepth 20000 in
theorem sbX8_mark_X30 : SubW wsX30 wsX8_mark := fun _ h => (List.mem_cons_of_mem _ (List.mem_append_right _ h))
set_option maxRecDepth 20000 in
theorem sbX8_mark_X1_init : SubW wsX1_init wsX8_mark := (subW_cons mwX8_mark_7 (subW_app (subW_app (subW_app (subW_app (subW_app sbX8_mark_X1_init_r1 sbX8_mark_X1_init_r2) sbX8_mark_X50) sbX8_mark_X10) sbX8_mark_X00) sbX8_mark_X30))
theorem ggX8_mark_X1_init : GoodIn wsX8_mark wsX1_init := goodIn_W gw_wsX8_mark sbX8_mark_X1_init
set_option maxRecDepth 20000 in
theorem gX8_mark_X1_init_n73 : GoodIn wsX8_mark (wsX1_init) := ggX8_mark_X1_init
theorem dX8_mark_0 : decode cX8_mark 0 = .ok (.iload_n 1, 1) := by decide +kernel
theorem dX8_mark_1 : decode cX8_mark 1 = .ok (.iload_n 2, 1) := by decide +kernel
theorem dX8_mark_2 : decode cX8_mark 2 = .ok (.invokestatic 57, 3) := by decide +kernel
theorem dX8_mark_5 : decode cX8_mark 5 = .ok (.ifCond .eq 22, 3) := by decide +kernel
theorem dX8_mark_8 : decode cX8_mark 8 = .ok (.iload_n 3, 1) := by decide +kernel
theorem dX8_mark_9 : decode cX8_mark 9 = .ok (.iconst 0, 1) := by decide +kernel
theorem dX8_mark_10 : decode cX8_mark 10 = .ok (.bipush 20, 2) := by decide +kernel
theorem dX8_mark_12 : decode cX8_mark 12 = .ok (.invokestatic 61, 3) := by decide +kernel
theorem dX8_mark_15 : decode cX8_mark 15 = .ok (.ifCond .eq 12, 3) := by decide +kernel
theorem dX8_mark_18 : decode cX8_mark 18 = .ok (.aload_n 0, 1) := by decide +kernel
theorem dX8_mark_19 : decode cX8_mark 19 = .ok (.getfield 69, 3) := by decide +kernel
theorem dX8_mark_22 : decode cX8_mark 22 = .ok (.bipush 10, 2) := by decide +kernel
theorem dX8_mark_24 : decode cX8_mark 24 = .ok (.if_icmp .lt 5, 3) := by decide +kernel
theorem dX8_mark_27 : decode cX8_mark 27 = .ok (.iconst (-1), 1) := by decide +kernel
theorem dX8_mark_28 : decode cX8_mark 28 = .ok (.ireturn, 1) := by decide +kernel
theorem dX8_mark_29 : decode cX8_mark 29 = .ok (.aload_n 0, 1) := by decide +kernel
theorem dX8_mark_30 : decode cX8_mark 30 = .ok (.getfield 69, 3) := by decide +kernel
theorem dX8_mark_33 : decode cX8_mark 33 = .ok (.istore 4, 2) := by decide +kernel
theorem dX8_mark_35 : decode cX8_mark 35 = .ok (.aload_n 0, 1) := by decide +kernel
theorem dX8_mark_36 : decode cX8_mark 36 = .ok (.getfield 15, 3) := by decide +kernel
theorem dX8_mark_39 : decode cX8_mark 39 = .ok (.iload 4, 2) := by decide +kernel
theorem dX8_mark_41 : decode cX8_mark 41 = .ok (.new 13, 3) := by decide +kernel
theorem dX8_mark_44 : decode cX8_mark 44 = .ok (.dup, 1) := by decide +kernel
theorem dX8_mark_45 : decode cX8_mark 45 = .ok (.iload_n 1, 1) := by decide +kernel
theorem dX8_mark_46 : decode cX8_mark 46 = .ok (.iload_n 2, 1) := by decide +kernel
theorem dX8_mark_47 : decode cX8_mark 47 = .ok (.iload_n 3, 1) := by decide +kernel
theorem dX8_mark_48 : decode cX8_mark 48 = .ok (.invokespecial 73, 3) := by decide +kernel
theorem dX8_mark_51 : decode cX8_mark 51 = .ok (.aastore, 1) := by decide +kernel
theorem dX8_mark_52 : decode cX8_mark 52 = .ok (.aload_n 0, 1) := by decide +kernel
theorem dX8_mark_53 : decode cX8_mark 53 = .ok (.dup, 1) := by decide +kernel
theorem dX8_mark_54 : decode cX8_mark 54 = .ok (.getfield 69, 3) := by decide +kernel
theorem dX8_mark_57 : decode cX8_mark 57 = .ok (.iconst 1, 1) := by decide +kernel
theorem dX8_mark_58 : decode cX8_mark 58 = .ok (.iadd, 1) := by decide +kernel
theorem dX8_mark_59 : decode cX8_mark 59 = .ok (.putfield 69, 3) := by decide +kernel
theorem dX8_mark_62 : decode cX8_mark 62 = .ok (.iload 4, 2) := by decide +kernel
theorem dX8_mark_64 : decode cX8_mark 64 = .ok (.ireturn, 1) := by decide +kernel
theorem mwX8_sight_0 : (.code yX8_known cX8_known 2 (some (.object "BuoyTender$Mark")) : Cond) ∈ wsX8_sight := (List.mem_cons_of_mem _ (List.mem_append_left _ (List.mem_append_left _ (List.mem_append_left _ (memL 4 rfl)))))
theorem mwX8_sight_1 : (.fieldLink RX8 15 "BuoyTender" "marks" "[LBuoyTender$Mark;" : Cond) ∈ wsX8_sight := (List.mem_cons_of_mem _ (List.mem_append_left _ (List.mem_append_left _ (List.mem_append_left _ (memL 6 rfl)))))
theorem mwX8_sight_2 : (.fieldLink RX8 69 "BuoyTender" "markCount" "I" : Cond) ∈ wsX8_sight := (List.mem_cons_of_mem _ (List.mem_append_left _ (List.mem_append_left _ (List.mem_append_left _ (memL 5 rfl)))))
set_option maxRecDepth 20000 in
theorem sbX8_sight_X80 : SubW wsX80 wsX8_sight := fun _ h => (List.mem_cons_of_mem _ (List.mem_append_left _ (List.mem_append_right _ h)))
set_option maxRecDepth 20000 in
theorem sbX8_sight_X8_known : SubW wsX8_known wsX8_sight := (subW_cons mwX8_sight_0 (subW_app (subW_cons mwX8_sight_2 (subW_cons mwX8_sight_1 subW_nil)) sbX8_sight_X80))
set_option maxRecDepth 20000 in
theorem gw_wsX8_sight : goodW wsX8_sight := (goodW_cons rfl (goodW_app (goodW_app (goodW_app (goodW_of (by decide +kernel)) gw_wsX10) gw_wsX80) gw_wsX50))
theorem ggX8_sight_X8_known : GoodIn wsX8_sight wsX8_known := goodIn_W gw_wsX8_sight sbX8_sight_X8_known
theorem mwX8_sight_3 : (.initialized RX8 : Cond) ∈ wsX8_sight := (List.mem_cons_of_mem _ (List.mem_append_left _ (List.mem_append_left _ (List.mem_append_left _ (memL 3 rfl)))))
theorem mwX8_sight_4 : (.selects RX8 yX8_known yX8_known : Cond) ∈ wsX8_sight := (List.mem_cons_of_mem _ (List.mem_append_left _ (List.mem_append_left _ (List.mem_append_left _ (memL 2 rfl)))))
theorem mwX8_sight_5 : (.instanceMethod yX8_known : Cond) ∈ wsX8_sight := (List.mem_cons_of_mem _ (List.mem_append_left _ (List.mem_append_left _ (List.mem_append_left _ (memL 1 rfl)))))
theorem mwX8_sight_6 : (.methodLink RX8 76 yX8_known : Cond) ∈ wsX8_sight := (List.mem_cons_of_mem _ (List.mem_append_left _ (List.mem_append_left _ (List.mem_append_left _ (memL 0 rfl)))))
theorem gX8_sight_X8_known : GoodIn wsX8_sight (wsV RX8 76 RX8 yX8_known wsX8_known) := goodIn_W gw_wsX8_sight (subW_app (subW_cons mwX8_sight_6 (subW_cons mwX8_sight_5 (subW_cons mwX8_sight_4 (subW_cons mwX8_sight_3 subW_nil)))) sbX8_sight_X8_known)
theorem mwX8_sight_7 : (.code yX5_begin cX5_begin 1 none : Cond) ∈ wsX8_sight := (List.mem_cons_of_mem _ (List.mem_append_left _ (List.mem_append_left _ (List.mem_append_left _ (memL 10 rfl)))))
theorem mwX8_sight_8 : (.code yJ7_fill_d0a16 cJ7_fill_d0a16 5 none : Cond) ∈ wsX8_sight := (List.mem_cons_of_mem _ (List.mem_append_left _ (List.mem_append_left _ (List.mem_append_left _ (memL 18 rfl)))))
theorem mwX8_sight_9 : (.initialized RJ7 : Cond) ∈ wsX8_sight := (List.mem_cons_of_mem _ (List.mem_append_left _ (List.mem_append_left _ (List.mem_append_left _ (memL 17 rfl)))))
theorem mwX8_sight_10 : (.static yJ7_fill_d0a16 : Cond) ∈ wsX8_sight := (List.mem_cons_of_mem _ (List.mem_append_left _ (List.mem_append_left _ (List.mem_append_left _ (memL 16 rfl)))))
theorem mwX8_sight_11 : (.methodLink RX5 19 yJ7_fill_d0a16 : Cond) ∈ wsX8_sight := (List.mem_cons_of_mem _ (List.mem_append_left _ (List.mem_append_left _ (List.mem_append_left _ (memL 15 rfl)))))
theorem mwX8_sight_12 : (.fieldLink RX5 28 "BuoyTender$Sighting" "told" "Z" : Cond) ∈ wsX8_sight := (List.mem_cons_of_mem _ (List.mem_append_left _ (List.mem_append_left _ (List.mem_append_left _ (memL 14 rfl)))))
theorem mwX8_sight_13 : (.fieldLink RX5 15 "BuoyTender$Sighting" "deepest" "I" : Cond) ∈ wsX8_sight := (List.mem_cons_of_mem _ (List.mem_append_left _ (List.mem_append_left _ (List.mem_append_left _ (memL 13 rfl)))))
theorem mwX8_sight_14 : (.fieldLink RX5 25 "BuoyTender$Sighting" "shallowest" "I" : Cond) ∈ wsX8_sight := (List.mem_cons_of_mem _ (List.mem_append_left _ (List.mem_append_left _ (List.mem_append_left _ (memL 12 rfl)))))
theorem mwX8_sight_15 : (.fieldLink RX5 9 "BuoyTender$Sighting" "ruledOut" "[J" : Cond) ∈ wsX8_sight := (List.mem_cons_of_mem _ (List.mem_append_left _ (List.mem_append_left _ (List.mem_append_left _ (memL 11 rfl)))))
set_option maxRecDepth 20000 in
theorem sbX8_sight_X50 : SubW wsX50 wsX8_sight := fun _ h => (List.mem_cons_of_mem _ (List.mem_append_right _ h))
set_option maxRecDepth 20000 in
theorem sbX8_sight_X5_begin : SubW wsX5_begin wsX8_sight := (subW_cons mwX8_sight_7 (subW_app (subW_cons mwX8_sight_15 (subW_cons mwX8_sight_14 (subW_cons mwX8_sight_13 (subW_cons mwX8_sight_12 (subW_cons mwX8_sight_11 (subW_cons mwX8_sight_10 (subW_cons mwX8_sight_9 (subW_cons mwX8_sight_8 subW_nil)))))))) sbX8_sight_X50))
theorem ggX8_sight_X5_begin : GoodIn wsX8_sight wsX5_begin := goodIn_W gw_wsX8_sight sbX8_sight_X5_begin
set_option maxRecDepth 20000 in
theorem gX8_sight_X5_begin_n84 : GoodIn wsX8_sight (wsX5_begin) := ggX8_sight_X5_begin
theorem dX8_sight_0 : decode cX8_sight 0 = .ok (.aload_n 0, 1) := by decide +kernel
theorem dX8_sight_1 : decode cX8_sight 1 = .ok (.iload_n 1, 1) := by decide +kernel
theorem dX8_sight_2 : decode cX8_sight 2 = .ok (.invokevirtual 76, 3) := by decide +kernel
theorem dX8_sight_5 : decode cX8_sight 5 = .ok (.astore_n 2, 1) := by decide +kernel
theorem dX8_sight_6 : decode cX8_sight 6 = .ok (.aload_n 2, 1) := by decide +kernel
theorem dX8_sight_7 : decode cX8_sight 7 = .ok (.ifnonnull 5, 3) := by decide +kernel
theorem dX8_sight_10 : decode cX8_sight 10 = .ok (.iconst 0, 1) := by decide +kernel
theorem dX8_sight_11 : decode cX8_sight 11 = .ok (.ireturn, 1) := by decide +kernel
theorem dX8_sight_12 : decode cX8_sight 12 = .ok (.aload_n 2, 1) := by decide +kernel
theorem dX8_sight_13 : decode cX8_sight 13 = .ok (.getfield 80, 3) := by decide +kernel
theorem dX8_sight_16 : decode cX8_sight 16 = .ok (.invokevirtual 84, 3) := by decide +kernel
theorem dX8_sight_19 : decode cX8_sight 19 = .ok (.iconst 1, 1) := by decide +kernel
theorem dX8_sight_20 : decode cX8_sight 20 = .ok (.ireturn, 1) := by decide +kernel
theorem mwX8_bearing_0 : (.code yX8_known cX8_known 2 (some (.object "BuoyTender$Mark")) : Cond) ∈ wsX8_bearing := (List.mem_cons_of_mem _ (List.mem_append_left _ (List.mem_append_left _ (List.mem_append_left _ (memL 4 rfl)))))
theorem mwX8_bearing_1 : (.fieldLink RX8 15 "BuoyTender" "marks" "[LBuoyTender$Mark;" : Cond) ∈ wsX8_bearing := (List.mem_cons_of_mem _ (List.mem_append_left _ (List.mem_append_left _ (List.mem_append_left _ (memL 6 rfl)))))
theorem mwX8_bearing_2 : (.fieldLink RX8 69 "BuoyTender" "markCount" "I" : Cond) ∈ wsX8_bearing := (List.mem_cons_of_mem _ (List.mem_append_left _ (List.mem_append_left _ (List.mem_append_left _ (memL 5 rfl)))))
set_option maxRecDepth 20000 in
theorem sbX8_bearing_X80 : SubW wsX80 wsX8_bearing := fun _ h => (List.mem_cons_of_mem _ (List.mem_append_left _ (List.mem_append_right _ h)))
set_option maxRecDepth 20000 in
theorem sbX8_bearing_X8_known : SubW wsX8_known wsX8_bearing := (subW_cons mwX8_bearing_0 (subW_app (subW_cons mwX8_bearing_2 (subW_cons mwX8_bearing_1 subW_nil)) sbX8_bearing_X80))
set_option maxRecDepth 20000 in
theorem gw_wsX8_bearing : goodW wsX8_bearing := (goodW_cons rfl (goodW_app (goodW_app (goodW_app (goodW_of (by decide +kernel)) gw_wsX10) gw_wsX80) gw_wsX50))
theorem ggX8_bearing_X8_known : GoodIn wsX8_bearing wsX8_known := goodIn_W gw_wsX8_bearing sbX8_bearing_X8_known
theorem mwX8_bearing_3 : (.initialized RX8 : Cond) ∈ wsX8_bearing := (List.mem_cons_of_mem _ (List.mem_append_left _ (List.mem_append_left _ (List.mem_append_left _ (memL 3 rfl)))))
theorem mwX8_bearing_4 : (.selects RX8 yX8_known yX8_known : Cond) ∈ wsX8_bearing := (List.mem_cons_of_mem _ (List.mem_append_left _ (List.mem_append_left _ (List.mem_append_left _ (memL 2 rfl)))))
theorem mwX8_bearing_5 : (.instanceMethod yX8_known : Cond) ∈ wsX8_bearing := (List.mem_cons_of_mem _ (List.mem_append_left _ (List.mem_append_left _ (List.mem_append_left _ (memL 1 rfl)))))
theorem mwX8_bearing_6 : (.methodLink RX8 76 yX8_known : Cond) ∈ wsX8_bearing := (List.mem_cons_of_mem _ (List.mem_append_left _ (List.mem_append_left _ (List.mem_append_left _ (memL 0 rfl)))))
theorem gX8_bearing_X8_known : GoodIn wsX8_bearing (wsV RX8 76 RX8 yX8_known wsX8_known) := goodIn_W gw_wsX8_bearing (subW_app (subW_cons mwX8_bearing_6 (subW_cons mwX8_bearing_5 (subW_cons mwX8_bearing_4 (subW_cons mwX8_bearing_3 subW_nil)))) sbX8_bearing_X8_known)
theorem mwX8_bearing_7 : (.code yX8_isWay cX8_isWay 2 (some .boolean) : Cond) ∈ wsX8_bearing := (List.mem_cons_of_mem _ (List.mem_append_left _ (List.mem_append_left _ (List.mem_append_left _ (memL 9 rfl)))))
theorem mwX8_bearing_8 : (.code yX8_within cX8_within 3 (some .boolean) : Cond) ∈ wsX8_bearing := (List.mem_cons_of_mem _ (List.mem_append_left _ (List.mem_append_left _ (List.mem_append_left _ (memL 12 rfl)))))
theorem mwX8_bearing_9 : (.static yX8_within : Cond) ∈ wsX8_bearing := (List.mem_cons_of_mem _ (List.mem_append_left _ (List.mem_append_left _ (List.mem_append_left _ (memL 11 rfl)))))
theorem mwX8_bearing_10 : (.methodLink RX8 61 yX8_within : Cond) ∈ wsX8_bearing := (List.mem_cons_of_mem _ (List.mem_append_left _ (List.mem_append_left _ (List.mem_append_left _ (memL 10 rfl)))))
set_option maxRecDepth 20000 in
theorem sbX8_bearing_X8_isWay : SubW wsX8_isWay wsX8_bearing := (subW_cons mwX8_bearing_7 (subW_cons mwX8_bearing_10 (subW_cons mwX8_bearing_9 (subW_cons mwX8_bearing_3 (subW_cons mwX8_bearing_8 subW_nil)))))
theorem ggX8_bearing_X8_isWay : GoodIn wsX8_bearing wsX8_isWay := goodIn_W gw_wsX8_bearing sbX8_bearing_X8_isWay
theorem mwX8_bearing_11 : (.static yX8_isWay : Cond) ∈ wsX8_bearing := (List.mem_cons_of_mem _ (List.mem_append_left _ (List.mem_append_left _ (List.mem_append_left _ (memL 8 rfl)))))
theorem mwX8_bearing_12 : (.methodLink RX8 89 yX8_isWay : Cond) ∈ wsX8_bearing := (List.mem_cons_of_mem _ (List.mem_append_left _ (List.mem_append_left _ (List.mem_append_left _ (memL 7 rfl)))))
theorem gX8_bearing_X8_isWay : GoodIn wsX8_bearing (va_wsS RX8 89 yX8_isWay wsX8_isWay) := goodIn_W gw_wsX8_bearing (subW_app (subW_cons mwX8_bearing_12 (subW_cons mwX8_bearing_11 (subW_cons mwX8_bearing_3 subW_nil))) sbX8_bearing_X8_isWay)
theorem mwX8_bearing_13 : (.code yX5_tellBearing cX5_tellBearing 12 none : Cond) ∈ wsX8_bearing := (List.mem_cons_of_mem _ (List.mem_append_left _ (List.mem_append_left _ (List.mem_append_left _ (memL 16 rfl)))))
theorem mwX8_bearing_14 : (.fieldLink RX5 28 "BuoyTender$Sighting" "told" "Z" : Cond) ∈ wsX8_bearing := (List.mem_cons_of_mem _ (List.mem_append_left _ (List.mem_append_left _ (List.mem_append_left _ (memL 18 rfl)))))
theorem mwX8_bearing_15 : (.fieldLink RX5 9 "BuoyTender$Sighting" "ruledOut" "[J" : Cond) ∈ wsX8_bearing := (List.mem_cons_of_mem _ (List.mem_append_left _ (List.mem_append_left _ (List.mem_append_left _ (memL 17 rfl)))))
set_option maxRecDepth 20000 in
theorem sbX8_bearing_X50 : SubW wsX50 wsX8_bearing := fun _ h => (List.mem_cons_of_mem _ (List.mem_append_right _ h))
set_option maxRecDepth 20000 in
theorem sbX8_bearing_X5_tellBearing : SubW wsX5_tellBearing wsX8_bearing := (subW_cons mwX8_bearing_13 (subW_app (subW_cons mwX8_bearing_15 (subW_cons mwX8_bearing_14 subW_nil)) sbX8_bearing_X50))
theorem ggX8_bearing_X5_tellBearing : GoodIn wsX8_bearing wsX5_tellBearing := goodIn_W gw_wsX8_bearing sbX8_bearing_X5_tellBearing
set_option maxRecDepth 20000 in
theorem gX8_bearing_X5_tellBearing_n98 : GoodIn wsX8_bearing (wsX5_tellBearing) := ggX8_bearing_X5_tellBearing
theorem dX8_bearing_0 : decode cX8_bearing 0 = .ok (.aload_n 0, 1) := by decide +kernel
theorem dX8_bearing_1 : decode cX8_bearing 1 = .ok (.iload_n 1, 1) := by decide +kernel
theorem dX8_bearing_2 : decode cX8_bearing 2 = .ok (.invokevirtual 76, 3) := by decide +kernel
theorem dX8_bearing_5 : decode cX8_bearing 5 = .ok (.astore 7, 2) := by decide +kernel
theorem dX8_bearing_7 : decode cX8_bearing 7 = .ok (.aload_n 0, 1) := by decide +kernel
theorem dX8_bearing_8 : decode cX8_bearing 8 = .ok (.iload_n 2, 1) := by decide +kernel
theorem dX8_bearing_9 : decode cX8_bearing 9 = .ok (.invokevirtual 76, 3) := by decide +kernel
theorem dX8_bearing_12 : decode cX8_bearing 12 = .ok (.astore 8, 2) := by decide +kernel
theorem dX8_bearing_14 : decode cX8_bearing 14 = .ok (.aload 7, 2) := by decide +kernel
theorem dX8_bearing_16 : decode cX8_bearing 16 = .ok (.ifnull 32, 3) := by decide +kernel
theorem dX8_bearing_19 : decode cX8_bearing 19 = .ok (.aload 8, 2) := by decide +kernel
theorem dX8_bearing_21 : decode cX8_bearing 21 = .ok (.ifnull 27, 3) := by decide +kernel
