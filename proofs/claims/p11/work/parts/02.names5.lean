theorem dX9_light_201 : decode cX9_light 201 = .ok (.getfield 47, 3) := by decide +kernel
theorem dX9_light_204 : decode cX9_light 204 = .ok (.bipush 8, 2) := by decide +kernel
theorem dX9_light_206 : decode cX9_light 206 = .ok (.iload_n 1, 1) := by decide +kernel
theorem dX9_light_207 : decode cX9_light 207 = .ok (.imul, 1) := by decide +kernel
theorem dX9_light_208 : decode cX9_light 208 = .ok (.iload 7, 2) := by decide +kernel
theorem dX9_light_210 : decode cX9_light 210 = .ok (.iadd, 1) := by decide +kernel
theorem dX9_light_211 : decode cX9_light 211 = .ok (.aload_n 0, 1) := by decide +kernel
theorem dX9_light_212 : decode cX9_light 212 = .ok (.getfield 87, 3) := by decide +kernel
theorem dX9_light_215 : decode cX9_light 215 = .ok (.iload 7, 2) := by decide +kernel
theorem dX9_light_217 : decode cX9_light 217 = .ok (.iaload, 1) := by decide +kernel
theorem dX9_light_218 : decode cX9_light 218 = .ok (.iastore, 1) := by decide +kernel
theorem dX9_light_219 : decode cX9_light 219 = .ok (.iinc 7 1, 3) := by decide +kernel
theorem dX9_light_222 : decode cX9_light 222 = .ok (.goto (-29), 3) := by decide +kernel
theorem dX9_light_225 : decode cX9_light 225 = .ok (.iconst 0, 1) := by decide +kernel
theorem dX9_light_226 : decode cX9_light 226 = .ok (.ireturn, 1) := by decide +kernel
theorem sbX9_near_X9_near_r1 : SubW wsX9_near_r1 wsX9_near := fun _ h => (List.mem_cons_of_mem _ (List.mem_append_left _ (List.mem_append_left _ h)))
theorem sbX9_near_X9_near_r2 : SubW wsX9_near_r2 wsX9_near := fun _ h => (List.mem_cons_of_mem _ (List.mem_append_left _ (List.mem_append_right _ h)))
theorem mwX9_near_0 : (.code yX9_in cX9_in 3 (some .boolean) : Cond) ∈ wsX9_near := (sbX9_near_X9_near_r1 _ (memL 5 rfl))
set_option maxRecDepth 20000 in
theorem sbX9_near_X9_in : SubW wsX9_in wsX9_near := (subW_cons mwX9_near_0 subW_nil)
set_option maxRecDepth 20000 in
theorem gw_wsX9_near_r1 : goodW wsX9_near_r1 := (goodW_of (by decide +kernel))
set_option maxRecDepth 20000 in
theorem gw_wsX9_near_r2 : goodW wsX9_near_r2 := (goodW_of (by decide +kernel))
set_option maxRecDepth 20000 in
theorem gw_wsX9_near : goodW wsX9_near := (goodW_cons rfl (goodW_app (goodW_app gw_wsX9_near_r1 gw_wsX9_near_r2) gw_wsX90))
theorem ggX9_near_X9_in : GoodIn wsX9_near wsX9_in := goodIn_W gw_wsX9_near sbX9_near_X9_in
theorem mwX9_near_1 : (.initialized RX9 : Cond) ∈ wsX9_near := (sbX9_near_X9_near_r1 _ (memL 4 rfl))
theorem mwX9_near_2 : (.static yX9_in : Cond) ∈ wsX9_near := (sbX9_near_X9_near_r1 _ (memL 3 rfl))
theorem mwX9_near_3 : (.methodLink RX9 105 yX9_in : Cond) ∈ wsX9_near := (sbX9_near_X9_near_r1 _ (memL 2 rfl))
theorem gX9_near_X9_in : GoodIn wsX9_near (va_wsS RX9 105 yX9_in wsX9_in) := goodIn_W gw_wsX9_near (subW_app (subW_cons mwX9_near_3 (subW_cons mwX9_near_2 (subW_cons mwX9_near_1 subW_nil))) sbX9_near_X9_in)
theorem mwX9_near_4 : (.code yX9_clashes cX9_clashes 5 (some .boolean) : Cond) ∈ wsX9_near := (sbX9_near_X9_near_r1 _ (memL 9 rfl))
theorem mwX9_near_5 : (.fieldLink RX9 47 "BuoyTenderModel" "rhythm" "[I" : Cond) ∈ wsX9_near := (sbX9_near_X9_near_r2 _ (memL 0 rfl))
theorem mwX9_near_6 : (.fieldLink RX9 44 "BuoyTenderModel" "steps" "[I" : Cond) ∈ wsX9_near := (sbX9_near_X9_near_r1 _ (memL 23 rfl))
theorem mwX9_near_7 : (.code yX9_isAlike cX9_isAlike 7 (some .boolean) : Cond) ∈ wsX9_near := (sbX9_near_X9_near_r1 _ (memL 22 rfl))
theorem mwX9_near_8 : (.selects RX9 yX9_isAlike yX9_isAlike : Cond) ∈ wsX9_near := (sbX9_near_X9_near_r1 _ (memL 21 rfl))
theorem mwX9_near_9 : (.instanceMethod yX9_isAlike : Cond) ∈ wsX9_near := (sbX9_near_X9_near_r1 _ (memL 20 rfl))
theorem mwX9_near_10 : (.methodLink RX9 137 yX9_isAlike : Cond) ∈ wsX9_near := (sbX9_near_X9_near_r1 _ (memL 19 rfl))
theorem mwX9_near_11 : (.code yX9_square cX9_square 2 (some .int) : Cond) ∈ wsX9_near := (sbX9_near_X9_near_r1 _ (memL 18 rfl))
theorem mwX9_near_12 : (.static yX9_square : Cond) ∈ wsX9_near := (sbX9_near_X9_near_r1 _ (memL 17 rfl))
theorem mwX9_near_13 : (.methodLink RX9 127 yX9_square : Cond) ∈ wsX9_near := (sbX9_near_X9_near_r1 _ (memL 16 rfl))
theorem mwX9_near_14 : (.fieldLink RX9 16 "BuoyTenderModel" "stationY" "[I" : Cond) ∈ wsX9_near := (sbX9_near_X9_near_r1 _ (memL 15 rfl))
theorem mwX9_near_15 : (.fieldLink RX9 13 "BuoyTenderModel" "stationX" "[I" : Cond) ∈ wsX9_near := (sbX9_near_X9_near_r1 _ (memL 14 rfl))
theorem mwX9_near_16 : (.code yX9_isNear cX9_isNear 4 (some .boolean) : Cond) ∈ wsX9_near := (sbX9_near_X9_near_r1 _ (memL 13 rfl))
theorem mwX9_near_17 : (.selects RX9 yX9_isNear yX9_isNear : Cond) ∈ wsX9_near := (sbX9_near_X9_near_r1 _ (memL 12 rfl))
theorem mwX9_near_18 : (.instanceMethod yX9_isNear : Cond) ∈ wsX9_near := (sbX9_near_X9_near_r1 _ (memL 11 rfl))
theorem mwX9_near_19 : (.methodLink RX9 134 yX9_isNear : Cond) ∈ wsX9_near := (sbX9_near_X9_near_r1 _ (memL 10 rfl))
theorem mwX9_near_20 : (.fieldLink RX9 109 "BuoyTenderModel" "marks" "I" : Cond) ∈ wsX9_near := (sbX9_near_X9_near_r1 _ (memL 0 rfl))
set_option maxRecDepth 20000 in
theorem sbX9_near_X90 : SubW wsX90 wsX9_near := fun _ h => (List.mem_cons_of_mem _ (List.mem_append_right _ h))
set_option maxRecDepth 20000 in
theorem sbX9_near_X9_clashes : SubW wsX9_clashes wsX9_near := (subW_cons mwX9_near_4 (subW_app (subW_cons mwX9_near_20 (subW_cons mwX9_near_19 (subW_cons mwX9_near_18 (subW_cons mwX9_near_17 (subW_cons mwX9_near_1 (subW_cons mwX9_near_16 (subW_cons mwX9_near_15 (subW_cons mwX9_near_14 (subW_cons mwX9_near_13 (subW_cons mwX9_near_12 (subW_cons mwX9_near_11 (subW_cons mwX9_near_10 (subW_cons mwX9_near_9 (subW_cons mwX9_near_8 (subW_cons mwX9_near_7 (subW_cons mwX9_near_6 (subW_cons mwX9_near_5 subW_nil))))))))))))))))) sbX9_near_X90))
theorem ggX9_near_X9_clashes : GoodIn wsX9_near wsX9_clashes := goodIn_W gw_wsX9_near sbX9_near_X9_clashes
theorem mwX9_near_21 : (.selects RX9 yX9_clashes yX9_clashes : Cond) ∈ wsX9_near := (sbX9_near_X9_near_r1 _ (memL 8 rfl))
theorem mwX9_near_22 : (.instanceMethod yX9_clashes : Cond) ∈ wsX9_near := (sbX9_near_X9_near_r1 _ (memL 7 rfl))
theorem mwX9_near_23 : (.methodLink RX9 143 yX9_clashes : Cond) ∈ wsX9_near := (sbX9_near_X9_near_r1 _ (memL 6 rfl))
theorem gX9_near_X9_clashes : GoodIn wsX9_near (wsV RX9 143 RX9 yX9_clashes wsX9_clashes) := goodIn_W gw_wsX9_near (subW_app (subW_cons mwX9_near_23 (subW_cons mwX9_near_22 (subW_cons mwX9_near_21 (subW_cons mwX9_near_1 subW_nil)))) sbX9_near_X9_clashes)
theorem dX9_near_0 : decode cX9_near 0 = .ok (.iload_n 1, 1) := by decide +kernel
theorem dX9_near_1 : decode cX9_near 1 = .ok (.iconst 0, 1) := by decide +kernel
theorem dX9_near_2 : decode cX9_near 2 = .ok (.sipush 5000, 3) := by decide +kernel
theorem dX9_near_5 : decode cX9_near 5 = .ok (.invokestatic 105, 3) := by decide +kernel
theorem dX9_near_8 : decode cX9_near 8 = .ok (.ifCond .ne 5, 3) := by decide +kernel
theorem dX9_near_11 : decode cX9_near 11 = .ok (.iconst 0, 1) := by decide +kernel
theorem dX9_near_12 : decode cX9_near 12 = .ok (.ireturn, 1) := by decide +kernel
theorem dX9_near_13 : decode cX9_near 13 = .ok (.iconst 0, 1) := by decide +kernel
theorem dX9_near_14 : decode cX9_near 14 = .ok (.istore_n 2, 1) := by decide +kernel
theorem dX9_near_15 : decode cX9_near 15 = .ok (.iload_n 2, 1) := by decide +kernel
theorem dX9_near_16 : decode cX9_near 16 = .ok (.aload_n 0, 1) := by decide +kernel
theorem dX9_near_17 : decode cX9_near 17 = .ok (.getfield 109, 3) := by decide +kernel
theorem dX9_near_20 : decode cX9_near 20 = .ok (.if_icmp .ge 20, 3) := by decide +kernel
theorem dX9_near_23 : decode cX9_near 23 = .ok (.aload_n 0, 1) := by decide +kernel
theorem dX9_near_24 : decode cX9_near 24 = .ok (.iload_n 2, 1) := by decide +kernel
theorem dX9_near_25 : decode cX9_near 25 = .ok (.iload_n 1, 1) := by decide +kernel
theorem dX9_near_26 : decode cX9_near 26 = .ok (.invokevirtual 143, 3) := by decide +kernel
theorem dX9_near_29 : decode cX9_near 29 = .ok (.ifCond .eq 5, 3) := by decide +kernel
theorem dX9_near_32 : decode cX9_near 32 = .ok (.iconst 0, 1) := by decide +kernel
theorem dX9_near_33 : decode cX9_near 33 = .ok (.ireturn, 1) := by decide +kernel
theorem dX9_near_34 : decode cX9_near 34 = .ok (.iinc 2 1, 3) := by decide +kernel
theorem dX9_near_37 : decode cX9_near 37 = .ok (.goto (-22), 3) := by decide +kernel
theorem dX9_near_40 : decode cX9_near 40 = .ok (.aload_n 0, 1) := by decide +kernel
theorem dX9_near_41 : decode cX9_near 41 = .ok (.iload_n 1, 1) := by decide +kernel
theorem dX9_near_42 : decode cX9_near 42 = .ok (.putfield 140, 3) := by decide +kernel
theorem dX9_near_45 : decode cX9_near 45 = .ok (.iconst 1, 1) := by decide +kernel
theorem dX9_near_46 : decode cX9_near 46 = .ok (.ireturn, 1) := by decide +kernel
theorem mwX9_alike_0 : (.code yX9_isMark cX9_isMark 2 (some .boolean) : Cond) ∈ wsX9_alike := (List.mem_cons_of_mem _ (List.mem_append_left _ (memL 5 rfl)))
theorem mwX9_alike_1 : (.code yX9_in cX9_in 3 (some .boolean) : Cond) ∈ wsX9_alike := (List.mem_cons_of_mem _ (List.mem_append_left _ (memL 9 rfl)))
theorem mwX9_alike_2 : (.initialized RX9 : Cond) ∈ wsX9_alike := (List.mem_cons_of_mem _ (List.mem_append_left _ (memL 4 rfl)))
theorem mwX9_alike_3 : (.static yX9_in : Cond) ∈ wsX9_alike := (List.mem_cons_of_mem _ (List.mem_append_left _ (memL 8 rfl)))
theorem mwX9_alike_4 : (.methodLink RX9 105 yX9_in : Cond) ∈ wsX9_alike := (List.mem_cons_of_mem _ (List.mem_append_left _ (memL 7 rfl)))
theorem mwX9_alike_5 : (.fieldLink RX9 109 "BuoyTenderModel" "marks" "I" : Cond) ∈ wsX9_alike := (List.mem_cons_of_mem _ (List.mem_append_left _ (memL 6 rfl)))
set_option maxRecDepth 20000 in
theorem sbX9_alike_X90 : SubW wsX90 wsX9_alike := fun _ h => (List.mem_cons_of_mem _ (List.mem_append_right _ h))
set_option maxRecDepth 20000 in
theorem sbX9_alike_X9_isMark : SubW wsX9_isMark wsX9_alike := (subW_cons mwX9_alike_0 (subW_app (subW_cons mwX9_alike_5 (subW_cons mwX9_alike_4 (subW_cons mwX9_alike_3 (subW_cons mwX9_alike_2 (subW_cons mwX9_alike_1 subW_nil))))) sbX9_alike_X90))
set_option maxRecDepth 20000 in
theorem gw_wsX9_alike : goodW wsX9_alike := (goodW_cons rfl (goodW_app (goodW_of (by decide +kernel)) gw_wsX90))
theorem ggX9_alike_X9_isMark : GoodIn wsX9_alike wsX9_isMark := goodIn_W gw_wsX9_alike sbX9_alike_X9_isMark
theorem mwX9_alike_6 : (.selects RX9 yX9_isMark yX9_isMark : Cond) ∈ wsX9_alike := (List.mem_cons_of_mem _ (List.mem_append_left _ (memL 3 rfl)))
theorem mwX9_alike_7 : (.instanceMethod yX9_isMark : Cond) ∈ wsX9_alike := (List.mem_cons_of_mem _ (List.mem_append_left _ (memL 2 rfl)))
theorem mwX9_alike_8 : (.methodLink RX9 120 yX9_isMark : Cond) ∈ wsX9_alike := (List.mem_cons_of_mem _ (List.mem_append_left _ (memL 1 rfl)))
theorem gX9_alike_X9_isMark : GoodIn wsX9_alike (wsV RX9 120 RX9 yX9_isMark wsX9_isMark) := goodIn_W gw_wsX9_alike (subW_app (subW_cons mwX9_alike_8 (subW_cons mwX9_alike_7 (subW_cons mwX9_alike_6 (subW_cons mwX9_alike_2 subW_nil)))) sbX9_alike_X9_isMark)
theorem mwX9_alike_9 : (.code yX9_isAlike cX9_isAlike 7 (some .boolean) : Cond) ∈ wsX9_alike := (List.mem_cons_of_mem _ (List.mem_append_left _ (memL 13 rfl)))
theorem mwX9_alike_10 : (.fieldLink RX9 47 "BuoyTenderModel" "rhythm" "[I" : Cond) ∈ wsX9_alike := (List.mem_cons_of_mem _ (List.mem_append_left _ (memL 14 rfl)))
theorem mwX9_alike_11 : (.fieldLink RX9 44 "BuoyTenderModel" "steps" "[I" : Cond) ∈ wsX9_alike := (List.mem_cons_of_mem _ (List.mem_append_left _ (memL 0 rfl)))
set_option maxRecDepth 20000 in
theorem sbX9_alike_X9_isAlike : SubW wsX9_isAlike wsX9_alike := (subW_cons mwX9_alike_9 (subW_app (subW_cons mwX9_alike_11 (subW_cons mwX9_alike_10 subW_nil)) sbX9_alike_X90))
theorem ggX9_alike_X9_isAlike : GoodIn wsX9_alike wsX9_isAlike := goodIn_W gw_wsX9_alike sbX9_alike_X9_isAlike
theorem mwX9_alike_12 : (.selects RX9 yX9_isAlike yX9_isAlike : Cond) ∈ wsX9_alike := (List.mem_cons_of_mem _ (List.mem_append_left _ (memL 12 rfl)))
theorem mwX9_alike_13 : (.instanceMethod yX9_isAlike : Cond) ∈ wsX9_alike := (List.mem_cons_of_mem _ (List.mem_append_left _ (memL 11 rfl)))
theorem mwX9_alike_14 : (.methodLink RX9 137 yX9_isAlike : Cond) ∈ wsX9_alike := (List.mem_cons_of_mem _ (List.mem_append_left _ (memL 10 rfl)))
theorem gX9_alike_X9_isAlike : GoodIn wsX9_alike (wsV RX9 137 RX9 yX9_isAlike wsX9_isAlike) := goodIn_W gw_wsX9_alike (subW_app (subW_cons mwX9_alike_14 (subW_cons mwX9_alike_13 (subW_cons mwX9_alike_12 (subW_cons mwX9_alike_2 subW_nil)))) sbX9_alike_X9_isAlike)
theorem dX9_alike_0 : decode cX9_alike 0 = .ok (.aload_n 0, 1) := by decide +kernel
theorem dX9_alike_1 : decode cX9_alike 1 = .ok (.iload_n 1, 1) := by decide +kernel
theorem dX9_alike_2 : decode cX9_alike 2 = .ok (.invokevirtual 120, 3) := by decide +kernel
theorem dX9_alike_5 : decode cX9_alike 5 = .ok (.ifCond .eq 34, 3) := by decide +kernel
theorem dX9_alike_8 : decode cX9_alike 8 = .ok (.aload_n 0, 1) := by decide +kernel
theorem dX9_alike_9 : decode cX9_alike 9 = .ok (.iload_n 2, 1) := by decide +kernel
theorem dX9_alike_10 : decode cX9_alike 10 = .ok (.invokevirtual 120, 3) := by decide +kernel
theorem dX9_alike_13 : decode cX9_alike 13 = .ok (.ifCond .eq 26, 3) := by decide +kernel
theorem dX9_alike_16 : decode cX9_alike 16 = .ok (.iload_n 1, 1) := by decide +kernel
theorem dX9_alike_17 : decode cX9_alike 17 = .ok (.iload_n 2, 1) := by decide +kernel
theorem dX9_alike_18 : decode cX9_alike 18 = .ok (.if_icmp .eq 21, 3) := by decide +kernel
theorem dX9_alike_21 : decode cX9_alike 21 = .ok (.aload_n 0, 1) := by decide +kernel
theorem dX9_alike_22 : decode cX9_alike 22 = .ok (.getfield 44, 3) := by decide +kernel
theorem dX9_alike_25 : decode cX9_alike 25 = .ok (.iload_n 1, 1) := by decide +kernel
theorem dX9_alike_26 : decode cX9_alike 26 = .ok (.iaload, 1) := by decide +kernel
theorem dX9_alike_27 : decode cX9_alike 27 = .ok (.ifCond .eq 12, 3) := by decide +kernel
theorem dX9_alike_30 : decode cX9_alike 30 = .ok (.aload_n 0, 1) := by decide +kernel
theorem dX9_alike_31 : decode cX9_alike 31 = .ok (.getfield 44, 3) := by decide +kernel
theorem dX9_alike_34 : decode cX9_alike 34 = .ok (.iload_n 2, 1) := by decide +kernel
theorem dX9_alike_35 : decode cX9_alike 35 = .ok (.iaload, 1) := by decide +kernel
theorem dX9_alike_36 : decode cX9_alike 36 = .ok (.ifCond .ne 5, 3) := by decide +kernel
theorem dX9_alike_39 : decode cX9_alike 39 = .ok (.iconst (-1), 1) := by decide +kernel
theorem dX9_alike_40 : decode cX9_alike 40 = .ok (.ireturn, 1) := by decide +kernel
theorem dX9_alike_41 : decode cX9_alike 41 = .ok (.aload_n 0, 1) := by decide +kernel
theorem dX9_alike_42 : decode cX9_alike 42 = .ok (.iload_n 1, 1) := by decide +kernel
theorem dX9_alike_43 : decode cX9_alike 43 = .ok (.iload_n 2, 1) := by decide +kernel
theorem dX9_alike_44 : decode cX9_alike 44 = .ok (.invokevirtual 137, 3) := by decide +kernel
theorem dX9_alike_47 : decode cX9_alike 47 = .ok (.ifCond .eq 7, 3) := by decide +kernel
theorem dX9_alike_50 : decode cX9_alike 50 = .ok (.iconst 1, 1) := by decide +kernel
theorem dX9_alike_51 : decode cX9_alike 51 = .ok (.goto 4, 3) := by decide +kernel
theorem dX9_alike_54 : decode cX9_alike 54 = .ok (.iconst 0, 1) := by decide +kernel
theorem dX9_alike_55 : decode cX9_alike 55 = .ok (.ireturn, 1) := by decide +kernel
theorem mwX9_warn_0 : (.code yX9_isMark cX9_isMark 2 (some .boolean) : Cond) ∈ wsX9_warn := (List.mem_cons_of_mem _ (List.mem_append_left _ (memL 10 rfl)))
theorem mwX9_warn_1 : (.code yX9_in cX9_in 3 (some .boolean) : Cond) ∈ wsX9_warn := (List.mem_cons_of_mem _ (List.mem_append_left _ (memL 14 rfl)))
theorem mwX9_warn_2 : (.initialized RX9 : Cond) ∈ wsX9_warn := (List.mem_cons_of_mem _ (List.mem_append_left _ (memL 9 rfl)))
theorem mwX9_warn_3 : (.static yX9_in : Cond) ∈ wsX9_warn := (List.mem_cons_of_mem _ (List.mem_append_left _ (memL 13 rfl)))
theorem mwX9_warn_4 : (.methodLink RX9 105 yX9_in : Cond) ∈ wsX9_warn := (List.mem_cons_of_mem _ (List.mem_append_left _ (memL 12 rfl)))
theorem mwX9_warn_5 : (.fieldLink RX9 109 "BuoyTenderModel" "marks" "I" : Cond) ∈ wsX9_warn := (List.mem_cons_of_mem _ (List.mem_append_left _ (memL 11 rfl)))
set_option maxRecDepth 20000 in
theorem sbX9_warn_X90 : SubW wsX90 wsX9_warn := fun _ h => (List.mem_cons_of_mem _ (List.mem_append_right _ h))
set_option maxRecDepth 20000 in
theorem sbX9_warn_X9_isMark : SubW wsX9_isMark wsX9_warn := (subW_cons mwX9_warn_0 (subW_app (subW_cons mwX9_warn_5 (subW_cons mwX9_warn_4 (subW_cons mwX9_warn_3 (subW_cons mwX9_warn_2 (subW_cons mwX9_warn_1 subW_nil))))) sbX9_warn_X90))
set_option maxRecDepth 20000 in
theorem gw_wsX9_warn : goodW wsX9_warn := (goodW_cons rfl (goodW_app (goodW_of (by decide +kernel)) gw_wsX90))
theorem ggX9_warn_X9_isMark : GoodIn wsX9_warn wsX9_isMark := goodIn_W gw_wsX9_warn sbX9_warn_X9_isMark
theorem mwX9_warn_6 : (.selects RX9 yX9_isMark yX9_isMark : Cond) ∈ wsX9_warn := (List.mem_cons_of_mem _ (List.mem_append_left _ (memL 8 rfl)))
theorem mwX9_warn_7 : (.instanceMethod yX9_isMark : Cond) ∈ wsX9_warn := (List.mem_cons_of_mem _ (List.mem_append_left _ (memL 7 rfl)))
theorem mwX9_warn_8 : (.methodLink RX9 120 yX9_isMark : Cond) ∈ wsX9_warn := (List.mem_cons_of_mem _ (List.mem_append_left _ (memL 6 rfl)))
theorem gX9_warn_X9_isMark : GoodIn wsX9_warn (wsV RX9 120 RX9 yX9_isMark wsX9_isMark) := goodIn_W gw_wsX9_warn (subW_app (subW_cons mwX9_warn_8 (subW_cons mwX9_warn_7 (subW_cons mwX9_warn_6 (subW_cons mwX9_warn_2 subW_nil)))) sbX9_warn_X9_isMark)
set_option maxRecDepth 20000 in
theorem sbX9_warn_X9_in : SubW wsX9_in wsX9_warn := (subW_cons mwX9_warn_1 subW_nil)
theorem ggX9_warn_X9_in : GoodIn wsX9_warn wsX9_in := goodIn_W gw_wsX9_warn sbX9_warn_X9_in
theorem gX9_warn_X9_in : GoodIn wsX9_warn (va_wsS RX9 105 yX9_in wsX9_in) := goodIn_W gw_wsX9_warn (subW_app (subW_cons mwX9_warn_4 (subW_cons mwX9_warn_3 (subW_cons mwX9_warn_2 subW_nil))) sbX9_warn_X9_in)
theorem dX9_warn_0 : decode cX9_warn 0 = .ok (.aload_n 0, 1) := by decide +kernel
theorem dX9_warn_1 : decode cX9_warn 1 = .ok (.iload_n 1, 1) := by decide +kernel
theorem dX9_warn_2 : decode cX9_warn 2 = .ok (.invokevirtual 120, 3) := by decide +kernel
theorem dX9_warn_5 : decode cX9_warn 5 = .ok (.ifCond .eq 22, 3) := by decide +kernel
theorem dX9_warn_8 : decode cX9_warn 8 = .ok (.iload_n 2, 1) := by decide +kernel
theorem dX9_warn_9 : decode cX9_warn 9 = .ok (.iconst 1, 1) := by decide +kernel
theorem dX9_warn_10 : decode cX9_warn 10 = .ok (.bipush 9, 2) := by decide +kernel
theorem dX9_warn_12 : decode cX9_warn 12 = .ok (.invokestatic 105, 3) := by decide +kernel
theorem dX9_warn_15 : decode cX9_warn 15 = .ok (.ifCond .eq 12, 3) := by decide +kernel
theorem dX9_warn_18 : decode cX9_warn 18 = .ok (.aload_n 0, 1) := by decide +kernel
theorem dX9_warn_19 : decode cX9_warn 19 = .ok (.getfield 146, 3) := by decide +kernel
theorem dX9_warn_22 : decode cX9_warn 22 = .ok (.bipush 100, 2) := by decide +kernel
theorem dX9_warn_24 : decode cX9_warn 24 = .ok (.if_icmp .ne 5, 3) := by decide +kernel
theorem dX9_warn_27 : decode cX9_warn 27 = .ok (.iconst (-1), 1) := by decide +kernel
theorem dX9_warn_28 : decode cX9_warn 28 = .ok (.ireturn, 1) := by decide +kernel
theorem dX9_warn_29 : decode cX9_warn 29 = .ok (.iconst 0, 1) := by decide +kernel
theorem dX9_warn_30 : decode cX9_warn 30 = .ok (.istore_n 3, 1) := by decide +kernel
theorem dX9_warn_31 : decode cX9_warn 31 = .ok (.iload_n 3, 1) := by decide +kernel
theorem dX9_warn_32 : decode cX9_warn 32 = .ok (.aload_n 0, 1) := by decide +kernel
theorem dX9_warn_33 : decode cX9_warn 33 = .ok (.getfield 146, 3) := by decide +kernel
theorem dX9_warn_36 : decode cX9_warn 36 = .ok (.if_icmp .ge 40, 3) := by decide +kernel
theorem dX9_warn_39 : decode cX9_warn 39 = .ok (.aload_n 0, 1) := by decide +kernel
theorem dX9_warn_40 : decode cX9_warn 40 = .ok (.getfield 50, 3) := by decide +kernel
theorem dX9_warn_43 : decode cX9_warn 43 = .ok (.iload_n 3, 1) := by decide +kernel
theorem dX9_warn_44 : decode cX9_warn 44 = .ok (.iaload, 1) := by decide +kernel
theorem dX9_warn_45 : decode cX9_warn 45 = .ok (.iload_n 1, 1) := by decide +kernel
theorem dX9_warn_46 : decode cX9_warn 46 = .ok (.if_icmp .ne 24, 3) := by decide +kernel
theorem dX9_warn_49 : decode cX9_warn 49 = .ok (.aload_n 0, 1) := by decide +kernel
theorem dX9_warn_50 : decode cX9_warn 50 = .ok (.getfield 53, 3) := by decide +kernel
theorem dX9_warn_53 : decode cX9_warn 53 = .ok (.iload_n 3, 1) := by decide +kernel
theorem dX9_warn_54 : decode cX9_warn 54 = .ok (.iaload, 1) := by decide +kernel
theorem dX9_warn_55 : decode cX9_warn 55 = .ok (.iload_n 2, 1) := by decide +kernel
theorem dX9_warn_56 : decode cX9_warn 56 = .ok (.if_icmp .ne 14, 3) := by decide +kernel
theorem dX9_warn_59 : decode cX9_warn 59 = .ok (.aload_n 0, 1) := by decide +kernel
theorem dX9_warn_60 : decode cX9_warn 60 = .ok (.getfield 59, 3) := by decide +kernel
theorem dX9_warn_63 : decode cX9_warn 63 = .ok (.iload_n 3, 1) := by decide +kernel
theorem dX9_warn_64 : decode cX9_warn 64 = .ok (.iaload, 1) := by decide +kernel
theorem dX9_warn_65 : decode cX9_warn 65 = .ok (.ifCond .ge 5, 3) := by decide +kernel
theorem dX9_warn_68 : decode cX9_warn 68 = .ok (.iconst (-1), 1) := by decide +kernel
theorem dX9_warn_69 : decode cX9_warn 69 = .ok (.ireturn, 1) := by decide +kernel
theorem dX9_warn_70 : decode cX9_warn 70 = .ok (.iinc 3 1, 3) := by decide +kernel
theorem dX9_warn_73 : decode cX9_warn 73 = .ok (.goto (-42), 3) := by decide +kernel
theorem dX9_warn_76 : decode cX9_warn 76 = .ok (.aload_n 0, 1) := by decide +kernel
theorem dX9_warn_77 : decode cX9_warn 77 = .ok (.getfield 50, 3) := by decide +kernel
theorem dX9_warn_80 : decode cX9_warn 80 = .ok (.aload_n 0, 1) := by decide +kernel
theorem dX9_warn_81 : decode cX9_warn 81 = .ok (.getfield 146, 3) := by decide +kernel
theorem dX9_warn_84 : decode cX9_warn 84 = .ok (.iload_n 1, 1) := by decide +kernel
theorem dX9_warn_85 : decode cX9_warn 85 = .ok (.iastore, 1) := by decide +kernel
theorem dX9_warn_86 : decode cX9_warn 86 = .ok (.aload_n 0, 1) := by decide +kernel
theorem dX9_warn_87 : decode cX9_warn 87 = .ok (.getfield 53, 3) := by decide +kernel
theorem dX9_warn_90 : decode cX9_warn 90 = .ok (.aload_n 0, 1) := by decide +kernel
theorem dX9_warn_91 : decode cX9_warn 91 = .ok (.getfield 146, 3) := by decide +kernel
theorem dX9_warn_94 : decode cX9_warn 94 = .ok (.iload_n 2, 1) := by decide +kernel
theorem dX9_warn_95 : decode cX9_warn 95 = .ok (.iastore, 1) := by decide +kernel
theorem dX9_warn_96 : decode cX9_warn 96 = .ok (.aload_n 0, 1) := by decide +kernel
theorem dX9_warn_97 : decode cX9_warn 97 = .ok (.getfield 56, 3) := by decide +kernel
theorem dX9_warn_100 : decode cX9_warn 100 = .ok (.aload_n 0, 1) := by decide +kernel
theorem dX9_warn_101 : decode cX9_warn 101 = .ok (.getfield 146, 3) := by decide +kernel
theorem dX9_warn_104 : decode cX9_warn 104 = .ok (.aload_n 0, 1) := by decide +kernel
theorem dX9_warn_105 : decode cX9_warn 105 = .ok (.getfield 131, 3) := by decide +kernel
theorem dX9_warn_108 : decode cX9_warn 108 = .ok (.iastore, 1) := by decide +kernel
theorem dX9_warn_109 : decode cX9_warn 109 = .ok (.aload_n 0, 1) := by decide +kernel
theorem dX9_warn_110 : decode cX9_warn 110 = .ok (.getfield 59, 3) := by decide +kernel
theorem dX9_warn_113 : decode cX9_warn 113 = .ok (.aload_n 0, 1) := by decide +kernel
theorem dX9_warn_114 : decode cX9_warn 114 = .ok (.getfield 146, 3) := by decide +kernel
theorem dX9_warn_117 : decode cX9_warn 117 = .ok (.iconst (-1), 1) := by decide +kernel
theorem dX9_warn_118 : decode cX9_warn 118 = .ok (.iastore, 1) := by decide +kernel
theorem dX9_warn_119 : decode cX9_warn 119 = .ok (.aload_n 0, 1) := by decide +kernel
theorem dX9_warn_120 : decode cX9_warn 120 = .ok (.dup, 1) := by decide +kernel
theorem dX9_warn_121 : decode cX9_warn 121 = .ok (.getfield 146, 3) := by decide +kernel
theorem dX9_warn_124 : decode cX9_warn 124 = .ok (.iconst 1, 1) := by decide +kernel
theorem dX9_warn_125 : decode cX9_warn 125 = .ok (.iadd, 1) := by decide +kernel
theorem dX9_warn_126 : decode cX9_warn 126 = .ok (.putfield 146, 3) := by decide +kernel
theorem dX9_warn_129 : decode cX9_warn 129 = .ok (.aload_n 0, 1) := by decide +kernel
theorem dX9_warn_130 : decode cX9_warn 130 = .ok (.getfield 146, 3) := by decide +kernel
theorem dX9_warn_133 : decode cX9_warn 133 = .ok (.iconst 1, 1) := by decide +kernel
theorem dX9_warn_134 : decode cX9_warn 134 = .ok (.isub, 1) := by decide +kernel
theorem dX9_warn_135 : decode cX9_warn 135 = .ok (.ireturn, 1) := by decide +kernel
theorem mwX9_cancel_0 : (.code yX9_in cX9_in 3 (some .boolean) : Cond) ∈ wsX9_cancel := (List.mem_cons_of_mem _ (List.mem_append_left _ (memL 6 rfl)))
set_option maxRecDepth 20000 in
theorem sbX9_cancel_X9_in : SubW wsX9_in wsX9_cancel := (subW_cons mwX9_cancel_0 subW_nil)
set_option maxRecDepth 20000 in
theorem gw_wsX9_cancel : goodW wsX9_cancel := (goodW_cons rfl (goodW_app (goodW_of (by decide +kernel)) gw_wsX90))
theorem ggX9_cancel_X9_in : GoodIn wsX9_cancel wsX9_in := goodIn_W gw_wsX9_cancel sbX9_cancel_X9_in
theorem mwX9_cancel_1 : (.initialized RX9 : Cond) ∈ wsX9_cancel := (List.mem_cons_of_mem _ (List.mem_append_left _ (memL 5 rfl)))
theorem mwX9_cancel_2 : (.static yX9_in : Cond) ∈ wsX9_cancel := (List.mem_cons_of_mem _ (List.mem_append_left _ (memL 4 rfl)))
theorem mwX9_cancel_3 : (.methodLink RX9 105 yX9_in : Cond) ∈ wsX9_cancel := (List.mem_cons_of_mem _ (List.mem_append_left _ (memL 3 rfl)))
theorem gX9_cancel_X9_in : GoodIn wsX9_cancel (va_wsS RX9 105 yX9_in wsX9_in) := goodIn_W gw_wsX9_cancel (subW_app (subW_cons mwX9_cancel_3 (subW_cons mwX9_cancel_2 (subW_cons mwX9_cancel_1 subW_nil))) sbX9_cancel_X9_in)
theorem dX9_cancel_0 : decode cX9_cancel 0 = .ok (.iload_n 1, 1) := by decide +kernel
theorem dX9_cancel_1 : decode cX9_cancel 1 = .ok (.iconst 0, 1) := by decide +kernel
theorem dX9_cancel_2 : decode cX9_cancel 2 = .ok (.aload_n 0, 1) := by decide +kernel
theorem dX9_cancel_3 : decode cX9_cancel 3 = .ok (.getfield 146, 3) := by decide +kernel
theorem dX9_cancel_6 : decode cX9_cancel 6 = .ok (.iconst 1, 1) := by decide +kernel
theorem dX9_cancel_7 : decode cX9_cancel 7 = .ok (.isub, 1) := by decide +kernel
theorem dX9_cancel_8 : decode cX9_cancel 8 = .ok (.invokestatic 105, 3) := by decide +kernel
theorem dX9_cancel_11 : decode cX9_cancel 11 = .ok (.ifCond .eq 12, 3) := by decide +kernel
theorem dX9_cancel_14 : decode cX9_cancel 14 = .ok (.aload_n 0, 1) := by decide +kernel
theorem dX9_cancel_15 : decode cX9_cancel 15 = .ok (.getfield 59, 3) := by decide +kernel
theorem dX9_cancel_18 : decode cX9_cancel 18 = .ok (.iload_n 1, 1) := by decide +kernel
theorem dX9_cancel_19 : decode cX9_cancel 19 = .ok (.iaload, 1) := by decide +kernel
theorem dX9_cancel_20 : decode cX9_cancel 20 = .ok (.ifCond .lt 5, 3) := by decide +kernel
theorem dX9_cancel_23 : decode cX9_cancel 23 = .ok (.iconst 0, 1) := by decide +kernel
theorem dX9_cancel_24 : decode cX9_cancel 24 = .ok (.ireturn, 1) := by decide +kernel
theorem dX9_cancel_25 : decode cX9_cancel 25 = .ok (.aload_n 0, 1) := by decide +kernel
theorem dX9_cancel_26 : decode cX9_cancel 26 = .ok (.getfield 59, 3) := by decide +kernel
theorem dX9_cancel_29 : decode cX9_cancel 29 = .ok (.iload_n 1, 1) := by decide +kernel
theorem dX9_cancel_30 : decode cX9_cancel 30 = .ok (.aload_n 0, 1) := by decide +kernel
theorem dX9_cancel_31 : decode cX9_cancel 31 = .ok (.getfield 131, 3) := by decide +kernel
theorem dX9_cancel_34 : decode cX9_cancel 34 = .ok (.iastore, 1) := by decide +kernel
theorem dX9_cancel_35 : decode cX9_cancel 35 = .ok (.iconst 1, 1) := by decide +kernel
theorem dX9_cancel_36 : decode cX9_cancel 36 = .ok (.ireturn, 1) := by decide +kernel
theorem dX9_isForce_0 : decode cX9_isForce 0 = .ok (.aload_n 0, 1) := by decide +kernel
theorem dX9_isForce_1 : decode cX9_isForce 1 = .ok (.getfield 56, 3) := by decide +kernel
theorem dX9_isForce_4 : decode cX9_isForce 4 = .ok (.iload_n 1, 1) := by decide +kernel
theorem dX9_isForce_5 : decode cX9_isForce 5 = .ok (.iaload, 1) := by decide +kernel
theorem dX9_isForce_6 : decode cX9_isForce 6 = .ok (.iload_n 2, 1) := by decide +kernel
theorem dX9_isForce_7 : decode cX9_isForce 7 = .ok (.if_icmp .gt 26, 3) := by decide +kernel
theorem dX9_isForce_10 : decode cX9_isForce 10 = .ok (.aload_n 0, 1) := by decide +kernel
theorem dX9_isForce_11 : decode cX9_isForce 11 = .ok (.getfield 59, 3) := by decide +kernel
theorem dX9_isForce_14 : decode cX9_isForce 14 = .ok (.iload_n 1, 1) := by decide +kernel
theorem dX9_isForce_15 : decode cX9_isForce 15 = .ok (.iaload, 1) := by decide +kernel
theorem dX9_isForce_16 : decode cX9_isForce 16 = .ok (.ifCond .lt 13, 3) := by decide +kernel
theorem dX9_isForce_19 : decode cX9_isForce 19 = .ok (.iload_n 2, 1) := by decide +kernel
theorem dX9_isForce_20 : decode cX9_isForce 20 = .ok (.aload_n 0, 1) := by decide +kernel
theorem dX9_isForce_21 : decode cX9_isForce 21 = .ok (.getfield 59, 3) := by decide +kernel
theorem dX9_isForce_24 : decode cX9_isForce 24 = .ok (.iload_n 1, 1) := by decide +kernel
theorem dX9_isForce_25 : decode cX9_isForce 25 = .ok (.iaload, 1) := by decide +kernel
theorem dX9_isForce_26 : decode cX9_isForce 26 = .ok (.if_icmp .ge 7, 3) := by decide +kernel
theorem dX9_isForce_29 : decode cX9_isForce 29 = .ok (.iconst 1, 1) := by decide +kernel
theorem dX9_isForce_30 : decode cX9_isForce 30 = .ok (.goto 4, 3) := by decide +kernel
theorem dX9_isForce_33 : decode cX9_isForce 33 = .ok (.iconst 0, 1) := by decide +kernel
theorem dX9_isForce_34 : decode cX9_isForce 34 = .ok (.ireturn, 1) := by decide +kernel
theorem mwX9_list_0 : (.code yX9_in cX9_in 3 (some .boolean) : Cond) ∈ wsX9_list := (List.mem_cons_of_mem _ (List.mem_append_left _ (memL 5 rfl)))
set_option maxRecDepth 20000 in
theorem sbX9_list_X9_in : SubW wsX9_in wsX9_list := (subW_cons mwX9_list_0 subW_nil)
set_option maxRecDepth 20000 in
theorem gw_wsX9_list : goodW wsX9_list := (goodW_cons rfl (goodW_app (goodW_of (by decide +kernel)) gw_wsX90))
theorem ggX9_list_X9_in : GoodIn wsX9_list wsX9_in := goodIn_W gw_wsX9_list sbX9_list_X9_in
theorem mwX9_list_1 : (.initialized RX9 : Cond) ∈ wsX9_list := (List.mem_cons_of_mem _ (List.mem_append_left _ (memL 4 rfl)))
theorem mwX9_list_2 : (.static yX9_in : Cond) ∈ wsX9_list := (List.mem_cons_of_mem _ (List.mem_append_left _ (memL 3 rfl)))
theorem mwX9_list_3 : (.methodLink RX9 105 yX9_in : Cond) ∈ wsX9_list := (List.mem_cons_of_mem _ (List.mem_append_left _ (memL 2 rfl)))
theorem gX9_list_X9_in : GoodIn wsX9_list (va_wsS RX9 105 yX9_in wsX9_in) := goodIn_W gw_wsX9_list (subW_app (subW_cons mwX9_list_3 (subW_cons mwX9_list_2 (subW_cons mwX9_list_1 subW_nil))) sbX9_list_X9_in)
theorem mwX9_list_4 : (.code yX9_isForce cX9_isForce 3 (some .boolean) : Cond) ∈ wsX9_list := (List.mem_cons_of_mem _ (List.mem_append_left _ (memL 9 rfl)))
theorem mwX9_list_5 : (.fieldLink RX9 59 "BuoyTenderModel" "warnTo" "[I" : Cond) ∈ wsX9_list := (List.mem_cons_of_mem _ (List.mem_append_left _ (memL 11 rfl)))
theorem mwX9_list_6 : (.fieldLink RX9 56 "BuoyTenderModel" "warnFrom" "[I" : Cond) ∈ wsX9_list := (List.mem_cons_of_mem _ (List.mem_append_left _ (memL 10 rfl)))
set_option maxRecDepth 20000 in
theorem sbX9_list_X90 : SubW wsX90 wsX9_list := fun _ h => (List.mem_cons_of_mem _ (List.mem_append_right _ h))
set_option maxRecDepth 20000 in
theorem sbX9_list_X9_isForce : SubW wsX9_isForce wsX9_list := (subW_cons mwX9_list_4 (subW_app (subW_cons mwX9_list_6 (subW_cons mwX9_list_5 subW_nil)) sbX9_list_X90))
theorem ggX9_list_X9_isForce : GoodIn wsX9_list wsX9_isForce := goodIn_W gw_wsX9_list sbX9_list_X9_isForce
theorem mwX9_list_7 : (.selects RX9 yX9_isForce yX9_isForce : Cond) ∈ wsX9_list := (List.mem_cons_of_mem _ (List.mem_append_left _ (memL 8 rfl)))
theorem mwX9_list_8 : (.instanceMethod yX9_isForce : Cond) ∈ wsX9_list := (List.mem_cons_of_mem _ (List.mem_append_left _ (memL 7 rfl)))
theorem mwX9_list_9 : (.methodLink RX9 149 yX9_isForce : Cond) ∈ wsX9_list := (List.mem_cons_of_mem _ (List.mem_append_left _ (memL 6 rfl)))
theorem gX9_list_X9_isForce : GoodIn wsX9_list (wsV RX9 149 RX9 yX9_isForce wsX9_isForce) := goodIn_W gw_wsX9_list (subW_app (subW_cons mwX9_list_9 (subW_cons mwX9_list_8 (subW_cons mwX9_list_7 (subW_cons mwX9_list_1 subW_nil)))) sbX9_list_X9_isForce)
theorem dX9_list_0 : decode cX9_list 0 = .ok (.iload_n 1, 1) := by decide +kernel
theorem dX9_list_1 : decode cX9_list 1 = .ok (.iconst 0, 1) := by decide +kernel
theorem dX9_list_2 : decode cX9_list 2 = .ok (.aload_n 0, 1) := by decide +kernel
theorem dX9_list_3 : decode cX9_list 3 = .ok (.getfield 131, 3) := by decide +kernel
theorem dX9_list_6 : decode cX9_list 6 = .ok (.invokestatic 105, 3) := by decide +kernel
theorem dX9_list_9 : decode cX9_list 9 = .ok (.ifCond .ne 5, 3) := by decide +kernel
theorem dX9_list_12 : decode cX9_list 12 = .ok (.iconst (-1), 1) := by decide +kernel
theorem dX9_list_13 : decode cX9_list 13 = .ok (.ireturn, 1) := by decide +kernel
theorem dX9_list_14 : decode cX9_list 14 = .ok (.iconst 0, 1) := by decide +kernel
theorem dX9_list_15 : decode cX9_list 15 = .ok (.istore_n 2, 1) := by decide +kernel
theorem dX9_list_16 : decode cX9_list 16 = .ok (.iconst 0, 1) := by decide +kernel
theorem dX9_list_17 : decode cX9_list 17 = .ok (.istore_n 3, 1) := by decide +kernel
theorem dX9_list_18 : decode cX9_list 18 = .ok (.iload_n 3, 1) := by decide +kernel
theorem dX9_list_19 : decode cX9_list 19 = .ok (.aload_n 0, 1) := by decide +kernel
theorem dX9_list_20 : decode cX9_list 20 = .ok (.getfield 146, 3) := by decide +kernel
theorem dX9_list_23 : decode cX9_list 23 = .ok (.if_icmp .ge 26, 3) := by decide +kernel
theorem dX9_list_26 : decode cX9_list 26 = .ok (.iload_n 2, 1) := by decide +kernel
theorem dX9_list_27 : decode cX9_list 27 = .ok (.aload_n 0, 1) := by decide +kernel
theorem dX9_list_28 : decode cX9_list 28 = .ok (.iload_n 3, 1) := by decide +kernel
theorem dX9_list_29 : decode cX9_list 29 = .ok (.iload_n 1, 1) := by decide +kernel
theorem dX9_list_30 : decode cX9_list 30 = .ok (.invokevirtual 149, 3) := by decide +kernel
theorem dX9_list_33 : decode cX9_list 33 = .ok (.ifCond .eq 7, 3) := by decide +kernel
theorem dX9_list_36 : decode cX9_list 36 = .ok (.iconst 1, 1) := by decide +kernel
theorem dX9_list_37 : decode cX9_list 37 = .ok (.goto 4, 3) := by decide +kernel
theorem dX9_list_40 : decode cX9_list 40 = .ok (.iconst 0, 1) := by decide +kernel
theorem dX9_list_41 : decode cX9_list 41 = .ok (.iadd, 1) := by decide +kernel
theorem dX9_list_42 : decode cX9_list 42 = .ok (.istore_n 2, 1) := by decide +kernel
theorem dX9_list_43 : decode cX9_list 43 = .ok (.iinc 3 1, 3) := by decide +kernel
theorem dX9_list_46 : decode cX9_list 46 = .ok (.goto (-28), 3) := by decide +kernel
theorem dX9_list_49 : decode cX9_list 49 = .ok (.iload_n 2, 1) := by decide +kernel
theorem dX9_list_50 : decode cX9_list 50 = .ok (.ireturn, 1) := by decide +kernel
theorem mwX9_listed_0 : (.code yX9_in cX9_in 3 (some .boolean) : Cond) ∈ wsX9_listed := (List.mem_cons_of_mem _ (List.mem_append_left _ (memL 5 rfl)))
set_option maxRecDepth 20000 in
theorem sbX9_listed_X9_in : SubW wsX9_in wsX9_listed := (subW_cons mwX9_listed_0 subW_nil)
set_option maxRecDepth 20000 in
theorem gw_wsX9_listed : goodW wsX9_listed := (goodW_cons rfl (goodW_app (goodW_of (by decide +kernel)) gw_wsX90))
theorem ggX9_listed_X9_in : GoodIn wsX9_listed wsX9_in := goodIn_W gw_wsX9_listed sbX9_listed_X9_in
theorem mwX9_listed_1 : (.initialized RX9 : Cond) ∈ wsX9_listed := (List.mem_cons_of_mem _ (List.mem_append_left _ (memL 4 rfl)))
theorem mwX9_listed_2 : (.static yX9_in : Cond) ∈ wsX9_listed := (List.mem_cons_of_mem _ (List.mem_append_left _ (memL 3 rfl)))
theorem mwX9_listed_3 : (.methodLink RX9 105 yX9_in : Cond) ∈ wsX9_listed := (List.mem_cons_of_mem _ (List.mem_append_left _ (memL 2 rfl)))
theorem gX9_listed_X9_in : GoodIn wsX9_listed (va_wsS RX9 105 yX9_in wsX9_in) := goodIn_W gw_wsX9_listed (subW_app (subW_cons mwX9_listed_3 (subW_cons mwX9_listed_2 (subW_cons mwX9_listed_1 subW_nil))) sbX9_listed_X9_in)
theorem mwX9_listed_4 : (.code yX9_isForce cX9_isForce 3 (some .boolean) : Cond) ∈ wsX9_listed := (List.mem_cons_of_mem _ (List.mem_append_left _ (memL 9 rfl)))
theorem mwX9_listed_5 : (.fieldLink RX9 59 "BuoyTenderModel" "warnTo" "[I" : Cond) ∈ wsX9_listed := (List.mem_cons_of_mem _ (List.mem_append_left _ (memL 11 rfl)))
theorem mwX9_listed_6 : (.fieldLink RX9 56 "BuoyTenderModel" "warnFrom" "[I" : Cond) ∈ wsX9_listed := (List.mem_cons_of_mem _ (List.mem_append_left _ (memL 10 rfl)))
set_option maxRecDepth 20000 in
theorem sbX9_listed_X90 : SubW wsX90 wsX9_listed := fun _ h => (List.mem_cons_of_mem _ (List.mem_append_right _ h))
set_option maxRecDepth 20000 in
theorem sbX9_listed_X9_isForce : SubW wsX9_isForce wsX9_listed := (subW_cons mwX9_listed_4 (subW_app (subW_cons mwX9_listed_6 (subW_cons mwX9_listed_5 subW_nil)) sbX9_listed_X90))
theorem ggX9_listed_X9_isForce : GoodIn wsX9_listed wsX9_isForce := goodIn_W gw_wsX9_listed sbX9_listed_X9_isForce
theorem mwX9_listed_7 : (.selects RX9 yX9_isForce yX9_isForce : Cond) ∈ wsX9_listed := (List.mem_cons_of_mem _ (List.mem_append_left _ (memL 8 rfl)))
theorem mwX9_listed_8 : (.instanceMethod yX9_isForce : Cond) ∈ wsX9_listed := (List.mem_cons_of_mem _ (List.mem_append_left _ (memL 7 rfl)))
theorem mwX9_listed_9 : (.methodLink RX9 149 yX9_isForce : Cond) ∈ wsX9_listed := (List.mem_cons_of_mem _ (List.mem_append_left _ (memL 6 rfl)))
theorem gX9_listed_X9_isForce : GoodIn wsX9_listed (wsV RX9 149 RX9 yX9_isForce wsX9_isForce) := goodIn_W gw_wsX9_listed (subW_app (subW_cons mwX9_listed_9 (subW_cons mwX9_listed_8 (subW_cons mwX9_listed_7 (subW_cons mwX9_listed_1 subW_nil)))) sbX9_listed_X9_isForce)
theorem dX9_listed_0 : decode cX9_listed 0 = .ok (.iconst 0, 1) := by decide +kernel
theorem dX9_listed_1 : decode cX9_listed 1 = .ok (.istore_n 3, 1) := by decide +kernel
theorem dX9_listed_2 : decode cX9_listed 2 = .ok (.iconst 0, 1) := by decide +kernel
theorem dX9_listed_3 : decode cX9_listed 3 = .ok (.istore 4, 2) := by decide +kernel
theorem dX9_listed_5 : decode cX9_listed 5 = .ok (.iload 4, 2) := by decide +kernel
theorem dX9_listed_7 : decode cX9_listed 7 = .ok (.aload_n 0, 1) := by decide +kernel
theorem dX9_listed_8 : decode cX9_listed 8 = .ok (.getfield 146, 3) := by decide +kernel
theorem dX9_listed_11 : decode cX9_listed 11 = .ok (.if_icmp .ge 42, 3) := by decide +kernel
theorem dX9_listed_14 : decode cX9_listed 14 = .ok (.iload_n 1, 1) := by decide +kernel
theorem dX9_listed_15 : decode cX9_listed 15 = .ok (.iconst 0, 1) := by decide +kernel
theorem dX9_listed_16 : decode cX9_listed 16 = .ok (.aload_n 0, 1) := by decide +kernel
theorem dX9_listed_17 : decode cX9_listed 17 = .ok (.getfield 131, 3) := by decide +kernel
theorem dX9_listed_20 : decode cX9_listed 20 = .ok (.invokestatic 105, 3) := by decide +kernel
theorem dX9_listed_23 : decode cX9_listed 23 = .ok (.ifCond .eq 30, 3) := by decide +kernel
theorem dX9_listed_26 : decode cX9_listed 26 = .ok (.aload_n 0, 1) := by decide +kernel
theorem dX9_listed_27 : decode cX9_listed 27 = .ok (.iload 4, 2) := by decide +kernel
theorem dX9_listed_29 : decode cX9_listed 29 = .ok (.iload_n 1, 1) := by decide +kernel
theorem dX9_listed_30 : decode cX9_listed 30 = .ok (.invokevirtual 149, 3) := by decide +kernel
theorem dX9_listed_33 : decode cX9_listed 33 = .ok (.ifCond .eq 14, 3) := by decide +kernel
theorem dX9_listed_36 : decode cX9_listed 36 = .ok (.iload_n 3, 1) := by decide +kernel
theorem dX9_listed_37 : decode cX9_listed 37 = .ok (.iload_n 2, 1) := by decide +kernel
theorem dX9_listed_38 : decode cX9_listed 38 = .ok (.if_icmp .ne 6, 3) := by decide +kernel
theorem dX9_listed_41 : decode cX9_listed 41 = .ok (.iload 4, 2) := by decide +kernel
theorem dX9_listed_43 : decode cX9_listed 43 = .ok (.ireturn, 1) := by decide +kernel
theorem dX9_listed_44 : decode cX9_listed 44 = .ok (.iinc 3 1, 3) := by decide +kernel
theorem dX9_listed_47 : decode cX9_listed 47 = .ok (.iinc 4 1, 3) := by decide +kernel
theorem dX9_listed_50 : decode cX9_listed 50 = .ok (.goto (-45), 3) := by decide +kernel
theorem dX9_listed_53 : decode cX9_listed 53 = .ok (.iconst (-1), 1) := by decide +kernel
theorem dX9_listed_54 : decode cX9_listed 54 = .ok (.ireturn, 1) := by decide +kernel
theorem mwX9_warning_0 : (.code yX9_in cX9_in 3 (some .boolean) : Cond) ∈ wsX9_warning := (List.mem_cons_of_mem _ (List.mem_append_left _ (memL 8 rfl)))
set_option maxRecDepth 20000 in
theorem sbX9_warning_X9_in : SubW wsX9_in wsX9_warning := (subW_cons mwX9_warning_0 subW_nil)
set_option maxRecDepth 20000 in
theorem gw_wsX9_warning : goodW wsX9_warning := (goodW_cons rfl (goodW_app (goodW_of (by decide +kernel)) gw_wsX90))
theorem ggX9_warning_X9_in : GoodIn wsX9_warning wsX9_in := goodIn_W gw_wsX9_warning sbX9_warning_X9_in
theorem mwX9_warning_1 : (.initialized RX9 : Cond) ∈ wsX9_warning := (List.mem_cons_of_mem _ (List.mem_append_left _ (memL 7 rfl)))
theorem mwX9_warning_2 : (.static yX9_in : Cond) ∈ wsX9_warning := (List.mem_cons_of_mem _ (List.mem_append_left _ (memL 6 rfl)))
theorem mwX9_warning_3 : (.methodLink RX9 105 yX9_in : Cond) ∈ wsX9_warning := (List.mem_cons_of_mem _ (List.mem_append_left _ (memL 5 rfl)))
theorem gX9_warning_X9_in : GoodIn wsX9_warning (va_wsS RX9 105 yX9_in wsX9_in) := goodIn_W gw_wsX9_warning (subW_app (subW_cons mwX9_warning_3 (subW_cons mwX9_warning_2 (subW_cons mwX9_warning_1 subW_nil))) sbX9_warning_X9_in)
theorem dX9_warning_0 : decode cX9_warning 0 = .ok (.iload_n 1, 1) := by decide +kernel
theorem dX9_warning_1 : decode cX9_warning 1 = .ok (.iconst 0, 1) := by decide +kernel
theorem dX9_warning_2 : decode cX9_warning 2 = .ok (.aload_n 0, 1) := by decide +kernel
theorem dX9_warning_3 : decode cX9_warning 3 = .ok (.getfield 146, 3) := by decide +kernel
theorem dX9_warning_6 : decode cX9_warning 6 = .ok (.iconst 1, 1) := by decide +kernel
theorem dX9_warning_7 : decode cX9_warning 7 = .ok (.isub, 1) := by decide +kernel
theorem dX9_warning_8 : decode cX9_warning 8 = .ok (.invokestatic 105, 3) := by decide +kernel
theorem dX9_warning_11 : decode cX9_warning 11 = .ok (.ifCond .ne 5, 3) := by decide +kernel
theorem dX9_warning_14 : decode cX9_warning 14 = .ok (.iconst (-1), 1) := by decide +kernel
theorem dX9_warning_15 : decode cX9_warning 15 = .ok (.ireturn, 1) := by decide +kernel
theorem dX9_warning_16 : decode cX9_warning 16 = .ok (.iload_n 2, 1) := by decide +kernel
theorem dX9_warning_17 : decode cX9_warning 17 = .ok (.ifCond .ne 12, 3) := by decide +kernel
theorem dX9_warning_20 : decode cX9_warning 20 = .ok (.aload_n 0, 1) := by decide +kernel
theorem dX9_warning_21 : decode cX9_warning 21 = .ok (.getfield 50, 3) := by decide +kernel
theorem dX9_warning_24 : decode cX9_warning 24 = .ok (.iload_n 1, 1) := by decide +kernel
theorem dX9_warning_25 : decode cX9_warning 25 = .ok (.iaload, 1) := by decide +kernel
theorem dX9_warning_26 : decode cX9_warning 26 = .ok (.goto 46, 3) := by decide +kernel
theorem dX9_warning_29 : decode cX9_warning 29 = .ok (.iload_n 2, 1) := by decide +kernel
theorem dX9_warning_30 : decode cX9_warning 30 = .ok (.iconst 1, 1) := by decide +kernel
theorem dX9_warning_31 : decode cX9_warning 31 = .ok (.if_icmp .ne 12, 3) := by decide +kernel
theorem dX9_warning_34 : decode cX9_warning 34 = .ok (.aload_n 0, 1) := by decide +kernel
theorem dX9_warning_35 : decode cX9_warning 35 = .ok (.getfield 53, 3) := by decide +kernel
theorem dX9_warning_38 : decode cX9_warning 38 = .ok (.iload_n 1, 1) := by decide +kernel
theorem dX9_warning_39 : decode cX9_warning 39 = .ok (.iaload, 1) := by decide +kernel
theorem dX9_warning_40 : decode cX9_warning 40 = .ok (.goto 32, 3) := by decide +kernel
theorem dX9_warning_43 : decode cX9_warning 43 = .ok (.iload_n 2, 1) := by decide +kernel
theorem dX9_warning_44 : decode cX9_warning 44 = .ok (.iconst 2, 1) := by decide +kernel
theorem dX9_warning_45 : decode cX9_warning 45 = .ok (.if_icmp .ne 12, 3) := by decide +kernel
theorem dX9_warning_48 : decode cX9_warning 48 = .ok (.aload_n 0, 1) := by decide +kernel
theorem dX9_warning_49 : decode cX9_warning 49 = .ok (.getfield 56, 3) := by decide +kernel
theorem dX9_warning_52 : decode cX9_warning 52 = .ok (.iload_n 1, 1) := by decide +kernel
theorem dX9_warning_53 : decode cX9_warning 53 = .ok (.iaload, 1) := by decide +kernel
theorem dX9_warning_54 : decode cX9_warning 54 = .ok (.goto 18, 3) := by decide +kernel
theorem dX9_warning_57 : decode cX9_warning 57 = .ok (.iload_n 2, 1) := by decide +kernel
theorem dX9_warning_58 : decode cX9_warning 58 = .ok (.iconst 3, 1) := by decide +kernel
theorem dX9_warning_59 : decode cX9_warning 59 = .ok (.if_icmp .ne 12, 3) := by decide +kernel
theorem dX9_warning_62 : decode cX9_warning 62 = .ok (.aload_n 0, 1) := by decide +kernel
theorem dX9_warning_63 : decode cX9_warning 63 = .ok (.getfield 59, 3) := by decide +kernel
theorem dX9_warning_66 : decode cX9_warning 66 = .ok (.iload_n 1, 1) := by decide +kernel
theorem dX9_warning_67 : decode cX9_warning 67 = .ok (.iaload, 1) := by decide +kernel
theorem dX9_warning_68 : decode cX9_warning 68 = .ok (.goto 4, 3) := by decide +kernel
theorem dX9_warning_71 : decode cX9_warning 71 = .ok (.iconst (-1), 1) := by decide +kernel
theorem dX9_warning_72 : decode cX9_warning 72 = .ok (.ireturn, 1) := by decide +kernel
theorem mwX9_job_0 : (.code yX9_isMark cX9_isMark 2 (some .boolean) : Cond) ∈ wsX9_job := (List.mem_cons_of_mem _ (List.mem_append_left _ (memL 8 rfl)))
theorem mwX9_job_1 : (.code yX9_in cX9_in 3 (some .boolean) : Cond) ∈ wsX9_job := (List.mem_cons_of_mem _ (List.mem_append_left _ (memL 12 rfl)))
theorem mwX9_job_2 : (.initialized RX9 : Cond) ∈ wsX9_job := (List.mem_cons_of_mem _ (List.mem_append_left _ (memL 7 rfl)))
theorem mwX9_job_3 : (.static yX9_in : Cond) ∈ wsX9_job := (List.mem_cons_of_mem _ (List.mem_append_left _ (memL 11 rfl)))
theorem mwX9_job_4 : (.methodLink RX9 105 yX9_in : Cond) ∈ wsX9_job := (List.mem_cons_of_mem _ (List.mem_append_left _ (memL 10 rfl)))
theorem mwX9_job_5 : (.fieldLink RX9 109 "BuoyTenderModel" "marks" "I" : Cond) ∈ wsX9_job := (List.mem_cons_of_mem _ (List.mem_append_left _ (memL 9 rfl)))
set_option maxRecDepth 20000 in
theorem sbX9_job_X90 : SubW wsX90 wsX9_job := fun _ h => (List.mem_cons_of_mem _ (List.mem_append_right _ h))
set_option maxRecDepth 20000 in
theorem sbX9_job_X9_isMark : SubW wsX9_isMark wsX9_job := (subW_cons mwX9_job_0 (subW_app (subW_cons mwX9_job_5 (subW_cons mwX9_job_4 (subW_cons mwX9_job_3 (subW_cons mwX9_job_2 (subW_cons mwX9_job_1 subW_nil))))) sbX9_job_X90))
set_option maxRecDepth 20000 in
theorem gw_wsX9_job : goodW wsX9_job := (goodW_cons rfl (goodW_app (goodW_of (by decide +kernel)) gw_wsX90))
theorem ggX9_job_X9_isMark : GoodIn wsX9_job wsX9_isMark := goodIn_W gw_wsX9_job sbX9_job_X9_isMark
theorem mwX9_job_6 : (.selects RX9 yX9_isMark yX9_isMark : Cond) ∈ wsX9_job := (List.mem_cons_of_mem _ (List.mem_append_left _ (memL 6 rfl)))
theorem mwX9_job_7 : (.instanceMethod yX9_isMark : Cond) ∈ wsX9_job := (List.mem_cons_of_mem _ (List.mem_append_left _ (memL 5 rfl)))
theorem mwX9_job_8 : (.methodLink RX9 120 yX9_isMark : Cond) ∈ wsX9_job := (List.mem_cons_of_mem _ (List.mem_append_left _ (memL 4 rfl)))
theorem gX9_job_X9_isMark : GoodIn wsX9_job (wsV RX9 120 RX9 yX9_isMark wsX9_isMark) := goodIn_W gw_wsX9_job (subW_app (subW_cons mwX9_job_8 (subW_cons mwX9_job_7 (subW_cons mwX9_job_6 (subW_cons mwX9_job_2 subW_nil)))) sbX9_job_X9_isMark)
set_option maxRecDepth 20000 in
theorem sbX9_job_X9_in : SubW wsX9_in wsX9_job := (subW_cons mwX9_job_1 subW_nil)
theorem ggX9_job_X9_in : GoodIn wsX9_job wsX9_in := goodIn_W gw_wsX9_job sbX9_job_X9_in
theorem gX9_job_X9_in : GoodIn wsX9_job (va_wsS RX9 105 yX9_in wsX9_in) := goodIn_W gw_wsX9_job (subW_app (subW_cons mwX9_job_4 (subW_cons mwX9_job_3 (subW_cons mwX9_job_2 subW_nil))) sbX9_job_X9_in)
theorem dX9_job_0 : decode cX9_job 0 = .ok (.aload_n 0, 1) := by decide +kernel
theorem dX9_job_1 : decode cX9_job 1 = .ok (.iload_n 1, 1) := by decide +kernel
theorem dX9_job_2 : decode cX9_job 2 = .ok (.invokevirtual 120, 3) := by decide +kernel
theorem dX9_job_5 : decode cX9_job 5 = .ok (.ifCond .eq 37, 3) := by decide +kernel
theorem dX9_job_8 : decode cX9_job 8 = .ok (.iload_n 2, 1) := by decide +kernel
theorem dX9_job_9 : decode cX9_job 9 = .ok (.iconst 0, 1) := by decide +kernel
theorem dX9_job_10 : decode cX9_job 10 = .ok (.sipush 600, 3) := by decide +kernel
theorem dX9_job_13 : decode cX9_job 13 = .ok (.invokestatic 105, 3) := by decide +kernel
theorem dX9_job_16 : decode cX9_job 16 = .ok (.ifCond .eq 26, 3) := by decide +kernel
theorem dX9_job_19 : decode cX9_job 19 = .ok (.iload_n 3, 1) := by decide +kernel
theorem dX9_job_20 : decode cX9_job 20 = .ok (.iconst 0, 1) := by decide +kernel
theorem dX9_job_21 : decode cX9_job 21 = .ok (.sipush 1000, 3) := by decide +kernel
theorem dX9_job_24 : decode cX9_job 24 = .ok (.invokestatic 105, 3) := by decide +kernel
theorem dX9_job_27 : decode cX9_job 27 = .ok (.ifCond .eq 15, 3) := by decide +kernel
theorem dX9_job_30 : decode cX9_job 30 = .ok (.iload 4, 2) := by decide +kernel
theorem dX9_job_32 : decode cX9_job 32 = .ok (.iconst 0, 1) := by decide +kernel
theorem dX9_job_33 : decode cX9_job 33 = .ok (.sipush 1000, 3) := by decide +kernel
theorem dX9_job_36 : decode cX9_job 36 = .ok (.invokestatic 105, 3) := by decide +kernel
theorem dX9_job_39 : decode cX9_job 39 = .ok (.ifCond .ne 5, 3) := by decide +kernel
theorem dX9_job_42 : decode cX9_job 42 = .ok (.iconst 0, 1) := by decide +kernel
theorem dX9_job_43 : decode cX9_job 43 = .ok (.ireturn, 1) := by decide +kernel
theorem dX9_job_44 : decode cX9_job 44 = .ok (.aload_n 0, 1) := by decide +kernel
theorem dX9_job_45 : decode cX9_job 45 = .ok (.getfield 62, 3) := by decide +kernel
theorem dX9_job_48 : decode cX9_job 48 = .ok (.iload_n 1, 1) := by decide +kernel
theorem dX9_job_49 : decode cX9_job 49 = .ok (.iload_n 2, 1) := by decide +kernel
theorem dX9_job_50 : decode cX9_job 50 = .ok (.iastore, 1) := by decide +kernel
theorem dX9_job_51 : decode cX9_job 51 = .ok (.aload_n 0, 1) := by decide +kernel
theorem dX9_job_52 : decode cX9_job 52 = .ok (.getfield 65, 3) := by decide +kernel
theorem dX9_job_55 : decode cX9_job 55 = .ok (.iload_n 1, 1) := by decide +kernel
theorem dX9_job_56 : decode cX9_job 56 = .ok (.iload_n 3, 1) := by decide +kernel
theorem dX9_job_57 : decode cX9_job 57 = .ok (.iastore, 1) := by decide +kernel
theorem dX9_job_58 : decode cX9_job 58 = .ok (.aload_n 0, 1) := by decide +kernel
theorem dX9_job_59 : decode cX9_job 59 = .ok (.getfield 68, 3) := by decide +kernel
theorem dX9_job_62 : decode cX9_job 62 = .ok (.iload_n 1, 1) := by decide +kernel
theorem dX9_job_63 : decode cX9_job 63 = .ok (.iload 4, 2) := by decide +kernel
theorem dX9_job_65 : decode cX9_job 65 = .ok (.iastore, 1) := by decide +kernel
theorem dX9_job_66 : decode cX9_job 66 = .ok (.aload_n 0, 1) := by decide +kernel
theorem dX9_job_67 : decode cX9_job 67 = .ok (.iconst 0, 1) := by decide +kernel
theorem dX9_job_68 : decode cX9_job 68 = .ok (.putfield 116, 3) := by decide +kernel
theorem dX9_job_71 : decode cX9_job 71 = .ok (.iconst 1, 1) := by decide +kernel
theorem dX9_job_72 : decode cX9_job 72 = .ok (.ireturn, 1) := by decide +kernel
theorem mwX9_weather_0 : (.code yX9_in cX9_in 3 (some .boolean) : Cond) ∈ wsX9_weather := (List.mem_cons_of_mem _ (List.mem_append_left _ (memL 6 rfl)))
set_option maxRecDepth 20000 in
theorem sbX9_weather_X9_in : SubW wsX9_in wsX9_weather := (subW_cons mwX9_weather_0 subW_nil)
set_option maxRecDepth 20000 in
theorem gw_wsX9_weather : goodW wsX9_weather := (goodW_cons rfl (goodW_app (goodW_of (by decide +kernel)) gw_wsX90))
theorem ggX9_weather_X9_in : GoodIn wsX9_weather wsX9_in := goodIn_W gw_wsX9_weather sbX9_weather_X9_in
theorem mwX9_weather_1 : (.initialized RX9 : Cond) ∈ wsX9_weather := (List.mem_cons_of_mem _ (List.mem_append_left _ (memL 5 rfl)))
theorem mwX9_weather_2 : (.static yX9_in : Cond) ∈ wsX9_weather := (List.mem_cons_of_mem _ (List.mem_append_left _ (memL 4 rfl)))
theorem mwX9_weather_3 : (.methodLink RX9 105 yX9_in : Cond) ∈ wsX9_weather := (List.mem_cons_of_mem _ (List.mem_append_left _ (memL 3 rfl)))
theorem gX9_weather_X9_in : GoodIn wsX9_weather (va_wsS RX9 105 yX9_in wsX9_in) := goodIn_W gw_wsX9_weather (subW_app (subW_cons mwX9_weather_3 (subW_cons mwX9_weather_2 (subW_cons mwX9_weather_1 subW_nil))) sbX9_weather_X9_in)
theorem dX9_weather_0 : decode cX9_weather 0 = .ok (.iload_n 1, 1) := by decide +kernel
theorem dX9_weather_1 : decode cX9_weather 1 = .ok (.iconst 0, 1) := by decide +kernel
theorem dX9_weather_2 : decode cX9_weather 2 = .ok (.bipush 23, 2) := by decide +kernel
theorem dX9_weather_4 : decode cX9_weather 4 = .ok (.invokestatic 105, 3) := by decide +kernel
theorem dX9_weather_7 : decode cX9_weather 7 = .ok (.ifCond .eq 24, 3) := by decide +kernel
theorem dX9_weather_10 : decode cX9_weather 10 = .ok (.iload_n 2, 1) := by decide +kernel
theorem dX9_weather_11 : decode cX9_weather 11 = .ok (.bipush (-50), 2) := by decide +kernel
theorem dX9_weather_13 : decode cX9_weather 13 = .ok (.bipush 50, 2) := by decide +kernel
theorem dX9_weather_15 : decode cX9_weather 15 = .ok (.invokestatic 105, 3) := by decide +kernel
theorem dX9_weather_18 : decode cX9_weather 18 = .ok (.ifCond .eq 13, 3) := by decide +kernel
theorem dX9_weather_21 : decode cX9_weather 21 = .ok (.iload_n 3, 1) := by decide +kernel
theorem dX9_weather_22 : decode cX9_weather 22 = .ok (.iconst 0, 1) := by decide +kernel
theorem dX9_weather_23 : decode cX9_weather 23 = .ok (.bipush 12, 2) := by decide +kernel
theorem dX9_weather_25 : decode cX9_weather 25 = .ok (.invokestatic 105, 3) := by decide +kernel
theorem dX9_weather_28 : decode cX9_weather 28 = .ok (.ifCond .ne 5, 3) := by decide +kernel
theorem dX9_weather_31 : decode cX9_weather 31 = .ok (.iconst 0, 1) := by decide +kernel
theorem dX9_weather_32 : decode cX9_weather 32 = .ok (.ireturn, 1) := by decide +kernel
theorem dX9_weather_33 : decode cX9_weather 33 = .ok (.aload_n 0, 1) := by decide +kernel
theorem dX9_weather_34 : decode cX9_weather 34 = .ok (.getfield 71, 3) := by decide +kernel
theorem dX9_weather_37 : decode cX9_weather 37 = .ok (.iload_n 1, 1) := by decide +kernel
theorem dX9_weather_38 : decode cX9_weather 38 = .ok (.iload_n 2, 1) := by decide +kernel
theorem dX9_weather_39 : decode cX9_weather 39 = .ok (.iastore, 1) := by decide +kernel
theorem dX9_weather_40 : decode cX9_weather 40 = .ok (.aload_n 0, 1) := by decide +kernel
theorem dX9_weather_41 : decode cX9_weather 41 = .ok (.getfield 74, 3) := by decide +kernel
theorem dX9_weather_44 : decode cX9_weather 44 = .ok (.iload_n 1, 1) := by decide +kernel
theorem dX9_weather_45 : decode cX9_weather 45 = .ok (.iload_n 3, 1) := by decide +kernel
theorem dX9_weather_46 : decode cX9_weather 46 = .ok (.iastore, 1) := by decide +kernel
theorem dX9_weather_47 : decode cX9_weather 47 = .ok (.aload_n 0, 1) := by decide +kernel
theorem dX9_weather_48 : decode cX9_weather 48 = .ok (.iconst 0, 1) := by decide +kernel
theorem dX9_weather_49 : decode cX9_weather 49 = .ok (.putfield 116, 3) := by decide +kernel
theorem dX9_weather_52 : decode cX9_weather 52 = .ok (.iconst 1, 1) := by decide +kernel
theorem dX9_weather_53 : decode cX9_weather 53 = .ok (.ireturn, 1) := by decide +kernel
theorem mwX9_ship_0 : (.code yX9_in cX9_in 3 (some .boolean) : Cond) ∈ wsX9_ship := (List.mem_cons_of_mem _ (List.mem_append_left _ (memL 8 rfl)))
set_option maxRecDepth 20000 in
theorem sbX9_ship_X9_in : SubW wsX9_in wsX9_ship := (subW_cons mwX9_ship_0 subW_nil)
set_option maxRecDepth 20000 in
theorem gw_wsX9_ship : goodW wsX9_ship := (goodW_cons rfl (goodW_app (goodW_of (by decide +kernel)) gw_wsX90))
theorem ggX9_ship_X9_in : GoodIn wsX9_ship wsX9_in := goodIn_W gw_wsX9_ship sbX9_ship_X9_in
theorem mwX9_ship_1 : (.initialized RX9 : Cond) ∈ wsX9_ship := (List.mem_cons_of_mem _ (List.mem_append_left _ (memL 7 rfl)))
theorem mwX9_ship_2 : (.static yX9_in : Cond) ∈ wsX9_ship := (List.mem_cons_of_mem _ (List.mem_append_left _ (memL 6 rfl)))
theorem mwX9_ship_3 : (.methodLink RX9 105 yX9_in : Cond) ∈ wsX9_ship := (List.mem_cons_of_mem _ (List.mem_append_left _ (memL 5 rfl)))
theorem gX9_ship_X9_in : GoodIn wsX9_ship (va_wsS RX9 105 yX9_in wsX9_in) := goodIn_W gw_wsX9_ship (subW_app (subW_cons mwX9_ship_3 (subW_cons mwX9_ship_2 (subW_cons mwX9_ship_1 subW_nil))) sbX9_ship_X9_in)
theorem dX9_ship_0 : decode cX9_ship 0 = .ok (.iload_n 1, 1) := by decide +kernel
theorem dX9_ship_1 : decode cX9_ship 1 = .ok (.iconst 0, 1) := by decide +kernel
theorem dX9_ship_2 : decode cX9_ship 2 = .ok (.bipush 60, 2) := by decide +kernel
theorem dX9_ship_4 : decode cX9_ship 4 = .ok (.invokestatic 105, 3) := by decide +kernel
theorem dX9_ship_7 : decode cX9_ship 7 = .ok (.ifCond .eq 35, 3) := by decide +kernel
theorem dX9_ship_10 : decode cX9_ship 10 = .ok (.iload_n 2, 1) := by decide +kernel
theorem dX9_ship_11 : decode cX9_ship 11 = .ok (.iconst 0, 1) := by decide +kernel
theorem dX9_ship_12 : decode cX9_ship 12 = .ok (.bipush 100, 2) := by decide +kernel
theorem dX9_ship_14 : decode cX9_ship 14 = .ok (.invokestatic 105, 3) := by decide +kernel
theorem dX9_ship_17 : decode cX9_ship 17 = .ok (.ifCond .eq 25, 3) := by decide +kernel
theorem dX9_ship_20 : decode cX9_ship 20 = .ok (.iload_n 3, 1) := by decide +kernel
theorem dX9_ship_21 : decode cX9_ship 21 = .ok (.iconst 0, 1) := by decide +kernel
theorem dX9_ship_22 : decode cX9_ship 22 = .ok (.bipush 12, 2) := by decide +kernel
theorem dX9_ship_24 : decode cX9_ship 24 = .ok (.invokestatic 105, 3) := by decide +kernel
theorem dX9_ship_27 : decode cX9_ship 27 = .ok (.ifCond .eq 15, 3) := by decide +kernel
theorem dX9_ship_30 : decode cX9_ship 30 = .ok (.iload 4, 2) := by decide +kernel
theorem dX9_ship_32 : decode cX9_ship 32 = .ok (.iconst 0, 1) := by decide +kernel
theorem dX9_ship_33 : decode cX9_ship 33 = .ok (.sipush 10000, 3) := by decide +kernel
theorem dX9_ship_36 : decode cX9_ship 36 = .ok (.invokestatic 105, 3) := by decide +kernel
theorem dX9_ship_39 : decode cX9_ship 39 = .ok (.ifCond .ne 5, 3) := by decide +kernel
theorem dX9_ship_42 : decode cX9_ship 42 = .ok (.iconst 0, 1) := by decide +kernel
theorem dX9_ship_43 : decode cX9_ship 43 = .ok (.ireturn, 1) := by decide +kernel
theorem dX9_ship_44 : decode cX9_ship 44 = .ok (.aload_n 0, 1) := by decide +kernel
theorem dX9_ship_45 : decode cX9_ship 45 = .ok (.iload_n 1, 1) := by decide +kernel
theorem dX9_ship_46 : decode cX9_ship 46 = .ok (.putfield 77, 3) := by decide +kernel
theorem dX9_ship_49 : decode cX9_ship 49 = .ok (.aload_n 0, 1) := by decide +kernel
theorem dX9_ship_50 : decode cX9_ship 50 = .ok (.iload_n 2, 1) := by decide +kernel
theorem dX9_ship_51 : decode cX9_ship 51 = .ok (.putfield 152, 3) := by decide +kernel
theorem dX9_ship_54 : decode cX9_ship 54 = .ok (.aload_n 0, 1) := by decide +kernel
theorem dX9_ship_55 : decode cX9_ship 55 = .ok (.iload_n 3, 1) := by decide +kernel
theorem dX9_ship_56 : decode cX9_ship 56 = .ok (.putfield 81, 3) := by decide +kernel
theorem dX9_ship_59 : decode cX9_ship 59 = .ok (.aload_n 0, 1) := by decide +kernel
theorem dX9_ship_60 : decode cX9_ship 60 = .ok (.iload 4, 2) := by decide +kernel
theorem dX9_ship_62 : decode cX9_ship 62 = .ok (.putfield 155, 3) := by decide +kernel
theorem dX9_ship_65 : decode cX9_ship 65 = .ok (.aload_n 0, 1) := by decide +kernel
theorem dX9_ship_66 : decode cX9_ship 66 = .ok (.iconst 0, 1) := by decide +kernel
theorem dX9_ship_67 : decode cX9_ship 67 = .ok (.putfield 116, 3) := by decide +kernel
theorem dX9_ship_70 : decode cX9_ship 70 = .ok (.iconst 1, 1) := by decide +kernel
theorem dX9_ship_71 : decode cX9_ship 71 = .ok (.ireturn, 1) := by decide +kernel
theorem mwX9_at_0 : (.code yX9_isPlace cX9_isPlace 2 (some .boolean) : Cond) ∈ wsX9_at := (List.mem_cons_of_mem _ (List.mem_append_left _ (memL 8 rfl)))
theorem mwX9_at_1 : (.code yX9_in cX9_in 3 (some .boolean) : Cond) ∈ wsX9_at := (List.mem_cons_of_mem _ (List.mem_append_left _ (memL 11 rfl)))
theorem mwX9_at_2 : (.initialized RX9 : Cond) ∈ wsX9_at := (List.mem_cons_of_mem _ (List.mem_append_left _ (memL 7 rfl)))
theorem mwX9_at_3 : (.static yX9_in : Cond) ∈ wsX9_at := (List.mem_cons_of_mem _ (List.mem_append_left _ (memL 10 rfl)))
theorem mwX9_at_4 : (.methodLink RX9 105 yX9_in : Cond) ∈ wsX9_at := (List.mem_cons_of_mem _ (List.mem_append_left _ (memL 9 rfl)))
set_option maxRecDepth 20000 in
theorem sbX9_at_X9_isPlace : SubW wsX9_isPlace wsX9_at := (subW_cons mwX9_at_0 (subW_cons mwX9_at_4 (subW_cons mwX9_at_3 (subW_cons mwX9_at_2 (subW_cons mwX9_at_1 subW_nil)))))
set_option maxRecDepth 20000 in
theorem gw_wsX9_at : goodW wsX9_at := (goodW_cons rfl (goodW_app (goodW_of (by decide +kernel)) gw_wsX90))
theorem ggX9_at_X9_isPlace : GoodIn wsX9_at wsX9_isPlace := goodIn_W gw_wsX9_at sbX9_at_X9_isPlace
theorem mwX9_at_5 : (.static yX9_isPlace : Cond) ∈ wsX9_at := (List.mem_cons_of_mem _ (List.mem_append_left _ (memL 6 rfl)))
theorem mwX9_at_6 : (.methodLink RX9 112 yX9_isPlace : Cond) ∈ wsX9_at := (List.mem_cons_of_mem _ (List.mem_append_left _ (memL 5 rfl)))
theorem gX9_at_X9_isPlace : GoodIn wsX9_at (va_wsS RX9 112 yX9_isPlace wsX9_isPlace) := goodIn_W gw_wsX9_at (subW_app (subW_cons mwX9_at_6 (subW_cons mwX9_at_5 (subW_cons mwX9_at_2 subW_nil))) sbX9_at_X9_isPlace)
set_option maxRecDepth 20000 in
theorem sbX9_at_X9_in : SubW wsX9_in wsX9_at := (subW_cons mwX9_at_1 subW_nil)
theorem ggX9_at_X9_in : GoodIn wsX9_at wsX9_in := goodIn_W gw_wsX9_at sbX9_at_X9_in
theorem gX9_at_X9_in : GoodIn wsX9_at (va_wsS RX9 105 yX9_in wsX9_in) := goodIn_W gw_wsX9_at (subW_app (subW_cons mwX9_at_4 (subW_cons mwX9_at_3 (subW_cons mwX9_at_2 subW_nil))) sbX9_at_X9_in)
theorem dX9_at_0 : decode cX9_at 0 = .ok (.iload_n 1, 1) := by decide +kernel
theorem dX9_at_1 : decode cX9_at 1 = .ok (.iload_n 2, 1) := by decide +kernel
theorem dX9_at_2 : decode cX9_at 2 = .ok (.invokestatic 112, 3) := by decide +kernel
theorem dX9_at_5 : decode cX9_at 5 = .ok (.ifCond .eq 26, 3) := by decide +kernel
theorem dX9_at_8 : decode cX9_at 8 = .ok (.iload_n 3, 1) := by decide +kernel
theorem dX9_at_9 : decode cX9_at 9 = .ok (.iconst 0, 1) := by decide +kernel
theorem dX9_at_10 : decode cX9_at 10 = .ok (.sipush 1440, 3) := by decide +kernel
theorem dX9_at_13 : decode cX9_at 13 = .ok (.invokestatic 105, 3) := by decide +kernel
theorem dX9_at_16 : decode cX9_at 16 = .ok (.ifCond .eq 15, 3) := by decide +kernel
theorem dX9_at_19 : decode cX9_at 19 = .ok (.iload 4, 2) := by decide +kernel
theorem dX9_at_21 : decode cX9_at 21 = .ok (.iload_n 3, 1) := by decide +kernel
theorem dX9_at_22 : decode cX9_at 22 = .ok (.sipush 1440, 3) := by decide +kernel
theorem dX9_at_25 : decode cX9_at 25 = .ok (.invokestatic 105, 3) := by decide +kernel
theorem dX9_at_28 : decode cX9_at 28 = .ok (.ifCond .ne 5, 3) := by decide +kernel
theorem dX9_at_31 : decode cX9_at 31 = .ok (.iconst 0, 1) := by decide +kernel
theorem dX9_at_32 : decode cX9_at 32 = .ok (.ireturn, 1) := by decide +kernel
theorem dX9_at_33 : decode cX9_at 33 = .ok (.aload_n 0, 1) := by decide +kernel
theorem dX9_at_34 : decode cX9_at 34 = .ok (.iload_n 1, 1) := by decide +kernel
theorem dX9_at_35 : decode cX9_at 35 = .ok (.putfield 158, 3) := by decide +kernel
theorem dX9_at_38 : decode cX9_at 38 = .ok (.aload_n 0, 1) := by decide +kernel
theorem dX9_at_39 : decode cX9_at 39 = .ok (.iload_n 2, 1) := by decide +kernel
theorem dX9_at_40 : decode cX9_at 40 = .ok (.putfield 161, 3) := by decide +kernel
theorem dX9_at_43 : decode cX9_at 43 = .ok (.aload_n 0, 1) := by decide +kernel
theorem dX9_at_44 : decode cX9_at 44 = .ok (.iload_n 3, 1) := by decide +kernel
theorem dX9_at_45 : decode cX9_at 45 = .ok (.putfield 164, 3) := by decide +kernel
theorem dX9_at_48 : decode cX9_at 48 = .ok (.aload_n 0, 1) := by decide +kernel
theorem dX9_at_49 : decode cX9_at 49 = .ok (.iload 4, 2) := by decide +kernel
theorem dX9_at_51 : decode cX9_at 51 = .ok (.putfield 84, 3) := by decide +kernel
theorem dX9_at_54 : decode cX9_at 54 = .ok (.aload_n 0, 1) := by decide +kernel
theorem dX9_at_55 : decode cX9_at 55 = .ok (.iconst 0, 1) := by decide +kernel
theorem dX9_at_56 : decode cX9_at 56 = .ok (.putfield 116, 3) := by decide +kernel
theorem dX9_at_59 : decode cX9_at 59 = .ok (.iconst 1, 1) := by decide +kernel
theorem dX9_at_60 : decode cX9_at 60 = .ok (.ireturn, 1) := by decide +kernel
theorem dX9_greater_0 : decode cX9_greater 0 = .ok (.iload_n 0, 1) := by decide +kernel
theorem dX9_greater_1 : decode cX9_greater 1 = .ok (.iload_n 1, 1) := by decide +kernel
theorem dX9_greater_2 : decode cX9_greater 2 = .ok (.if_icmp .le 7, 3) := by decide +kernel
theorem dX9_greater_5 : decode cX9_greater 5 = .ok (.iload_n 0, 1) := by decide +kernel
theorem dX9_greater_6 : decode cX9_greater 6 = .ok (.goto 4, 3) := by decide +kernel
theorem dX9_greater_9 : decode cX9_greater 9 = .ok (.iload_n 1, 1) := by decide +kernel
theorem dX9_greater_10 : decode cX9_greater 10 = .ok (.ireturn, 1) := by decide +kernel
theorem mwX9_way_0 : (.code yX9_greater cX9_greater 2 (some .int) : Cond) ∈ wsX9_way := (List.mem_cons_of_mem _ (List.mem_append_left _ (memL 8 rfl)))
set_option maxRecDepth 20000 in
theorem sbX9_way_X9_greater : SubW wsX9_greater wsX9_way := (subW_cons mwX9_way_0 subW_nil)
set_option maxRecDepth 20000 in
theorem gw_wsX9_way : goodW wsX9_way := (goodW_cons rfl (goodW_app (goodW_of (by decide +kernel)) gw_wsX90))
theorem ggX9_way_X9_greater : GoodIn wsX9_way wsX9_greater := goodIn_W gw_wsX9_way sbX9_way_X9_greater
theorem mwX9_way_1 : (.initialized RX9 : Cond) ∈ wsX9_way := (List.mem_cons_of_mem _ (List.mem_append_left _ (memL 7 rfl)))
theorem mwX9_way_2 : (.static yX9_greater : Cond) ∈ wsX9_way := (List.mem_cons_of_mem _ (List.mem_append_left _ (memL 6 rfl)))
theorem mwX9_way_3 : (.methodLink RX9 167 yX9_greater : Cond) ∈ wsX9_way := (List.mem_cons_of_mem _ (List.mem_append_left _ (memL 5 rfl)))
theorem gX9_way_X9_greater : GoodIn wsX9_way (va_wsS RX9 167 yX9_greater wsX9_greater) := goodIn_W gw_wsX9_way (subW_app (subW_cons mwX9_way_3 (subW_cons mwX9_way_2 (subW_cons mwX9_way_1 subW_nil))) sbX9_way_X9_greater)
theorem dX9_way_0 : decode cX9_way 0 = .ok (.iload_n 1, 1) := by decide +kernel
theorem dX9_way_1 : decode cX9_way 1 = .ok (.ifCond .ge 10, 3) := by decide +kernel
theorem dX9_way_4 : decode cX9_way 4 = .ok (.aload_n 0, 1) := by decide +kernel
theorem dX9_way_5 : decode cX9_way 5 = .ok (.getfield 158, 3) := by decide +kernel
theorem dX9_way_8 : decode cX9_way 8 = .ok (.goto 9, 3) := by decide +kernel
theorem dX9_way_11 : decode cX9_way 11 = .ok (.aload_n 0, 1) := by decide +kernel
theorem dX9_way_12 : decode cX9_way 12 = .ok (.getfield 13, 3) := by decide +kernel
theorem dX9_way_15 : decode cX9_way 15 = .ok (.iload_n 1, 1) := by decide +kernel
theorem dX9_way_16 : decode cX9_way 16 = .ok (.iaload, 1) := by decide +kernel
theorem dX9_way_17 : decode cX9_way 17 = .ok (.iload_n 2, 1) := by decide +kernel
theorem dX9_way_18 : decode cX9_way 18 = .ok (.ifCond .ge 10, 3) := by decide +kernel
theorem dX9_way_21 : decode cX9_way 21 = .ok (.aload_n 0, 1) := by decide +kernel
theorem dX9_way_22 : decode cX9_way 22 = .ok (.getfield 158, 3) := by decide +kernel
theorem dX9_way_25 : decode cX9_way 25 = .ok (.goto 9, 3) := by decide +kernel
theorem dX9_way_28 : decode cX9_way 28 = .ok (.aload_n 0, 1) := by decide +kernel
theorem dX9_way_29 : decode cX9_way 29 = .ok (.getfield 13, 3) := by decide +kernel
theorem dX9_way_32 : decode cX9_way 32 = .ok (.iload_n 2, 1) := by decide +kernel
theorem dX9_way_33 : decode cX9_way 33 = .ok (.iaload, 1) := by decide +kernel
theorem dX9_way_34 : decode cX9_way 34 = .ok (.isub, 1) := by decide +kernel
theorem dX9_way_35 : decode cX9_way 35 = .ok (.istore_n 3, 1) := by decide +kernel
theorem dX9_way_36 : decode cX9_way 36 = .ok (.iload_n 1, 1) := by decide +kernel
theorem dX9_way_37 : decode cX9_way 37 = .ok (.ifCond .ge 10, 3) := by decide +kernel
theorem dX9_way_40 : decode cX9_way 40 = .ok (.aload_n 0, 1) := by decide +kernel
theorem dX9_way_41 : decode cX9_way 41 = .ok (.getfield 161, 3) := by decide +kernel
theorem dX9_way_44 : decode cX9_way 44 = .ok (.goto 9, 3) := by decide +kernel
theorem dX9_way_47 : decode cX9_way 47 = .ok (.aload_n 0, 1) := by decide +kernel
theorem dX9_way_48 : decode cX9_way 48 = .ok (.getfield 16, 3) := by decide +kernel
theorem dX9_way_51 : decode cX9_way 51 = .ok (.iload_n 1, 1) := by decide +kernel
theorem dX9_way_52 : decode cX9_way 52 = .ok (.iaload, 1) := by decide +kernel
theorem dX9_way_53 : decode cX9_way 53 = .ok (.iload_n 2, 1) := by decide +kernel
theorem dX9_way_54 : decode cX9_way 54 = .ok (.ifCond .ge 10, 3) := by decide +kernel
theorem dX9_way_57 : decode cX9_way 57 = .ok (.aload_n 0, 1) := by decide +kernel
theorem dX9_way_58 : decode cX9_way 58 = .ok (.getfield 161, 3) := by decide +kernel
theorem dX9_way_61 : decode cX9_way 61 = .ok (.goto 9, 3) := by decide +kernel
theorem dX9_way_64 : decode cX9_way 64 = .ok (.aload_n 0, 1) := by decide +kernel
theorem dX9_way_65 : decode cX9_way 65 = .ok (.getfield 16, 3) := by decide +kernel
theorem dX9_way_68 : decode cX9_way 68 = .ok (.iload_n 2, 1) := by decide +kernel
theorem dX9_way_69 : decode cX9_way 69 = .ok (.iaload, 1) := by decide +kernel
theorem dX9_way_70 : decode cX9_way 70 = .ok (.isub, 1) := by decide +kernel
theorem dX9_way_71 : decode cX9_way 71 = .ok (.istore 4, 2) := by decide +kernel
theorem dX9_way_73 : decode cX9_way 73 = .ok (.aload_n 0, 1) := by decide +kernel
theorem dX9_way_74 : decode cX9_way 74 = .ok (.getfield 77, 3) := by decide +kernel
theorem dX9_way_77 : decode cX9_way 77 = .ok (.iload_n 3, 1) := by decide +kernel
theorem dX9_way_78 : decode cX9_way 78 = .ok (.ifCond .ge 8, 3) := by decide +kernel
theorem dX9_way_81 : decode cX9_way 81 = .ok (.iload_n 3, 1) := by decide +kernel
theorem dX9_way_82 : decode cX9_way 82 = .ok (.ineg, 1) := by decide +kernel
theorem dX9_way_83 : decode cX9_way 83 = .ok (.goto 4, 3) := by decide +kernel
theorem dX9_way_86 : decode cX9_way 86 = .ok (.iload_n 3, 1) := by decide +kernel
theorem dX9_way_87 : decode cX9_way 87 = .ok (.iload 4, 2) := by decide +kernel
theorem dX9_way_89 : decode cX9_way 89 = .ok (.ifCond .ge 9, 3) := by decide +kernel
theorem dX9_way_92 : decode cX9_way 92 = .ok (.iload 4, 2) := by decide +kernel
theorem dX9_way_94 : decode cX9_way 94 = .ok (.ineg, 1) := by decide +kernel
theorem dX9_way_95 : decode cX9_way 95 = .ok (.goto 5, 3) := by decide +kernel
theorem dX9_way_98 : decode cX9_way 98 = .ok (.iload 4, 2) := by decide +kernel
theorem dX9_way_100 : decode cX9_way 100 = .ok (.invokestatic 167, 3) := by decide +kernel
theorem dX9_way_103 : decode cX9_way 103 = .ok (.imul, 1) := by decide +kernel
theorem dX9_way_104 : decode cX9_way 104 = .ok (.ireturn, 1) := by decide +kernel
theorem dX9_begins_0 : decode cX9_begins 0 = .ok (.iload_n 2, 1) := by decide +kernel
theorem dX9_begins_1 : decode cX9_begins 1 = .ok (.istore_n 3, 1) := by decide +kernel
theorem dX9_begins_2 : decode cX9_begins 2 = .ok (.iload_n 3, 1) := by decide +kernel
theorem dX9_begins_3 : decode cX9_begins 3 = .ok (.sipush 1440, 3) := by decide +kernel
theorem dX9_begins_6 : decode cX9_begins 6 = .ok (.if_icmp .ge 73, 3) := by decide +kernel
theorem dX9_begins_9 : decode cX9_begins 9 = .ok (.iload_n 3, 1) := by decide +kernel
theorem dX9_begins_10 : decode cX9_begins 10 = .ok (.bipush 60, 2) := by decide +kernel
theorem dX9_begins_12 : decode cX9_begins 12 = .ok (.idiv, 1) := by decide +kernel
theorem dX9_begins_13 : decode cX9_begins 13 = .ok (.istore 4, 2) := by decide +kernel
theorem dX9_begins_15 : decode cX9_begins 15 = .ok (.aload_n 0, 1) := by decide +kernel
theorem dX9_begins_16 : decode cX9_begins 16 = .ok (.getfield 7, 3) := by decide +kernel
theorem dX9_begins_19 : decode cX9_begins 19 = .ok (.bipush 40, 2) := by decide +kernel
theorem dX9_begins_21 : decode cX9_begins 21 = .ok (.aload_n 0, 1) := by decide +kernel
theorem dX9_begins_22 : decode cX9_begins 22 = .ok (.getfield 13, 3) := by decide +kernel
theorem dX9_begins_25 : decode cX9_begins 25 = .ok (.iload_n 1, 1) := by decide +kernel
theorem dX9_begins_26 : decode cX9_begins 26 = .ok (.iaload, 1) := by decide +kernel
theorem dX9_begins_27 : decode cX9_begins 27 = .ok (.imul, 1) := by decide +kernel
theorem dX9_begins_28 : decode cX9_begins 28 = .ok (.aload_n 0, 1) := by decide +kernel
theorem dX9_begins_29 : decode cX9_begins 29 = .ok (.getfield 16, 3) := by decide +kernel
theorem dX9_begins_32 : decode cX9_begins 32 = .ok (.iload_n 1, 1) := by decide +kernel
theorem dX9_begins_33 : decode cX9_begins 33 = .ok (.iaload, 1) := by decide +kernel
theorem dX9_begins_34 : decode cX9_begins 34 = .ok (.iadd, 1) := by decide +kernel
theorem dX9_begins_35 : decode cX9_begins 35 = .ok (.iaload, 1) := by decide +kernel
theorem dX9_begins_36 : decode cX9_begins 36 = .ok (.aload_n 0, 1) := by decide +kernel
theorem dX9_begins_37 : decode cX9_begins 37 = .ok (.getfield 71, 3) := by decide +kernel
theorem dX9_begins_40 : decode cX9_begins 40 = .ok (.iload 4, 2) := by decide +kernel
theorem dX9_begins_42 : decode cX9_begins 42 = .ok (.iaload, 1) := by decide +kernel
theorem dX9_begins_43 : decode cX9_begins 43 = .ok (.iadd, 1) := by decide +kernel
theorem dX9_begins_44 : decode cX9_begins 44 = .ok (.aload_n 0, 1) := by decide +kernel
theorem dX9_begins_45 : decode cX9_begins 45 = .ok (.getfield 152, 3) := by decide +kernel
theorem dX9_begins_48 : decode cX9_begins 48 = .ok (.if_icmp .lt 19, 3) := by decide +kernel
theorem dX9_begins_51 : decode cX9_begins 51 = .ok (.aload_n 0, 1) := by decide +kernel
theorem dX9_begins_52 : decode cX9_begins 52 = .ok (.getfield 74, 3) := by decide +kernel
theorem dX9_begins_55 : decode cX9_begins 55 = .ok (.iload 4, 2) := by decide +kernel
theorem dX9_begins_57 : decode cX9_begins 57 = .ok (.iaload, 1) := by decide +kernel
theorem dX9_begins_58 : decode cX9_begins 58 = .ok (.aload_n 0, 1) := by decide +kernel
theorem dX9_begins_59 : decode cX9_begins 59 = .ok (.getfield 81, 3) := by decide +kernel
theorem dX9_begins_62 : decode cX9_begins 62 = .ok (.if_icmp .gt 5, 3) := by decide +kernel
theorem dX9_begins_65 : decode cX9_begins 65 = .ok (.iload_n 3, 1) := by decide +kernel
theorem dX9_begins_66 : decode cX9_begins 66 = .ok (.ireturn, 1) := by decide +kernel
theorem dX9_begins_67 : decode cX9_begins 67 = .ok (.bipush 60, 2) := by decide +kernel
theorem dX9_begins_69 : decode cX9_begins 69 = .ok (.iload 4, 2) := by decide +kernel
theorem dX9_begins_71 : decode cX9_begins 71 = .ok (.imul, 1) := by decide +kernel
theorem dX9_begins_72 : decode cX9_begins 72 = .ok (.bipush 60, 2) := by decide +kernel
theorem dX9_begins_74 : decode cX9_begins 74 = .ok (.iadd, 1) := by decide +kernel
theorem dX9_begins_75 : decode cX9_begins 75 = .ok (.istore_n 3, 1) := by decide +kernel
theorem dX9_begins_76 : decode cX9_begins 76 = .ok (.goto (-74), 3) := by decide +kernel
theorem dX9_begins_79 : decode cX9_begins 79 = .ok (.iconst (-1), 1) := by decide +kernel
theorem dX9_begins_80 : decode cX9_begins 80 = .ok (.ireturn, 1) := by decide +kernel
theorem dX9_sums_0 : decode cX9_sums 0 = .ok (.iconst 0, 1) := by decide +kernel
theorem dX9_sums_1 : decode cX9_sums 1 = .ok (.istore_n 1, 1) := by decide +kernel
theorem dX9_sums_2 : decode cX9_sums 2 = .ok (.iload_n 1, 1) := by decide +kernel
theorem dX9_sums_3 : decode cX9_sums 3 = .ok (.iconst 1, 1) := by decide +kernel
theorem dX9_sums_4 : decode cX9_sums 4 = .ok (.aload_n 0, 1) := by decide +kernel
theorem dX9_sums_5 : decode cX9_sums 5 = .ok (.getfield 109, 3) := by decide +kernel
theorem dX9_sums_8 : decode cX9_sums 8 = .ok (.ishl, 1) := by decide +kernel
theorem dX9_sums_9 : decode cX9_sums 9 = .ok (.if_icmp .ge 95, 3) := by decide +kernel
theorem dX9_sums_12 : decode cX9_sums 12 = .ok (.aload_n 0, 1) := by decide +kernel
theorem dX9_sums_13 : decode cX9_sums 13 = .ok (.getfield 99, 3) := by decide +kernel
theorem dX9_sums_16 : decode cX9_sums 16 = .ok (.iload_n 1, 1) := by decide +kernel
theorem dX9_sums_17 : decode cX9_sums 17 = .ok (.iconst 0, 1) := by decide +kernel
theorem dX9_sums_18 : decode cX9_sums 18 = .ok (.iastore, 1) := by decide +kernel
theorem dX9_sums_19 : decode cX9_sums 19 = .ok (.aload_n 0, 1) := by decide +kernel
theorem dX9_sums_20 : decode cX9_sums 20 = .ok (.getfield 102, 3) := by decide +kernel
theorem dX9_sums_23 : decode cX9_sums 23 = .ok (.iload_n 1, 1) := by decide +kernel
theorem dX9_sums_24 : decode cX9_sums 24 = .ok (.iconst 0, 1) := by decide +kernel
theorem dX9_sums_25 : decode cX9_sums 25 = .ok (.iastore, 1) := by decide +kernel
theorem dX9_sums_26 : decode cX9_sums 26 = .ok (.iconst 0, 1) := by decide +kernel
theorem dX9_sums_27 : decode cX9_sums 27 = .ok (.istore_n 2, 1) := by decide +kernel
theorem dX9_sums_28 : decode cX9_sums 28 = .ok (.iload_n 2, 1) := by decide +kernel
theorem dX9_sums_29 : decode cX9_sums 29 = .ok (.aload_n 0, 1) := by decide +kernel
theorem dX9_sums_30 : decode cX9_sums 30 = .ok (.getfield 109, 3) := by decide +kernel
theorem dX9_sums_33 : decode cX9_sums 33 = .ok (.if_icmp .ge 65, 3) := by decide +kernel
theorem dX9_sums_36 : decode cX9_sums 36 = .ok (.aload_n 0, 1) := by decide +kernel
theorem dX9_sums_37 : decode cX9_sums 37 = .ok (.getfield 99, 3) := by decide +kernel
theorem dX9_sums_40 : decode cX9_sums 40 = .ok (.iload_n 1, 1) := by decide +kernel
theorem dX9_sums_41 : decode cX9_sums 41 = .ok (.dup2, 1) := by decide +kernel
theorem dX9_sums_42 : decode cX9_sums 42 = .ok (.iaload, 1) := by decide +kernel
theorem dX9_sums_43 : decode cX9_sums 43 = .ok (.iload_n 1, 1) := by decide +kernel
theorem dX9_sums_44 : decode cX9_sums 44 = .ok (.iload_n 2, 1) := by decide +kernel
theorem dX9_sums_45 : decode cX9_sums 45 = .ok (.ishr, 1) := by decide +kernel
theorem dX9_sums_46 : decode cX9_sums 46 = .ok (.iconst 1, 1) := by decide +kernel
theorem dX9_sums_47 : decode cX9_sums 47 = .ok (.iand, 1) := by decide +kernel
theorem dX9_sums_48 : decode cX9_sums 48 = .ok (.iconst 1, 1) := by decide +kernel
theorem dX9_sums_49 : decode cX9_sums 49 = .ok (.if_icmp .ne 12, 3) := by decide +kernel
theorem dX9_sums_52 : decode cX9_sums 52 = .ok (.aload_n 0, 1) := by decide +kernel
theorem dX9_sums_53 : decode cX9_sums 53 = .ok (.getfield 65, 3) := by decide +kernel
theorem dX9_sums_56 : decode cX9_sums 56 = .ok (.iload_n 2, 1) := by decide +kernel
theorem dX9_sums_57 : decode cX9_sums 57 = .ok (.iaload, 1) := by decide +kernel
theorem dX9_sums_58 : decode cX9_sums 58 = .ok (.goto 4, 3) := by decide +kernel
theorem dX9_sums_61 : decode cX9_sums 61 = .ok (.iconst 0, 1) := by decide +kernel
theorem dX9_sums_62 : decode cX9_sums 62 = .ok (.iadd, 1) := by decide +kernel
theorem dX9_sums_63 : decode cX9_sums 63 = .ok (.iastore, 1) := by decide +kernel
theorem dX9_sums_64 : decode cX9_sums 64 = .ok (.aload_n 0, 1) := by decide +kernel
theorem dX9_sums_65 : decode cX9_sums 65 = .ok (.getfield 102, 3) := by decide +kernel
theorem dX9_sums_68 : decode cX9_sums 68 = .ok (.iload_n 1, 1) := by decide +kernel
theorem dX9_sums_69 : decode cX9_sums 69 = .ok (.dup2, 1) := by decide +kernel
theorem dX9_sums_70 : decode cX9_sums 70 = .ok (.iaload, 1) := by decide +kernel
theorem dX9_sums_71 : decode cX9_sums 71 = .ok (.iload_n 1, 1) := by decide +kernel
theorem dX9_sums_72 : decode cX9_sums 72 = .ok (.iload_n 2, 1) := by decide +kernel
theorem dX9_sums_73 : decode cX9_sums 73 = .ok (.ishr, 1) := by decide +kernel
theorem dX9_sums_74 : decode cX9_sums 74 = .ok (.iconst 1, 1) := by decide +kernel
theorem dX9_sums_75 : decode cX9_sums 75 = .ok (.iand, 1) := by decide +kernel
theorem dX9_sums_76 : decode cX9_sums 76 = .ok (.iconst 1, 1) := by decide +kernel
theorem dX9_sums_77 : decode cX9_sums 77 = .ok (.if_icmp .ne 12, 3) := by decide +kernel
theorem dX9_sums_80 : decode cX9_sums 80 = .ok (.aload_n 0, 1) := by decide +kernel
theorem dX9_sums_81 : decode cX9_sums 81 = .ok (.getfield 68, 3) := by decide +kernel
theorem dX9_sums_84 : decode cX9_sums 84 = .ok (.iload_n 2, 1) := by decide +kernel
theorem dX9_sums_85 : decode cX9_sums 85 = .ok (.iaload, 1) := by decide +kernel
theorem dX9_sums_86 : decode cX9_sums 86 = .ok (.goto 4, 3) := by decide +kernel
theorem dX9_sums_89 : decode cX9_sums 89 = .ok (.iconst 0, 1) := by decide +kernel
theorem dX9_sums_90 : decode cX9_sums 90 = .ok (.iadd, 1) := by decide +kernel
theorem dX9_sums_91 : decode cX9_sums 91 = .ok (.iastore, 1) := by decide +kernel
theorem dX9_sums_92 : decode cX9_sums 92 = .ok (.iinc 2 1, 3) := by decide +kernel
theorem dX9_sums_95 : decode cX9_sums 95 = .ok (.goto (-67), 3) := by decide +kernel
theorem dX9_sums_98 : decode cX9_sums 98 = .ok (.iinc 1 1, 3) := by decide +kernel
theorem dX9_sums_101 : decode cX9_sums 101 = .ok (.goto (-99), 3) := by decide +kernel
theorem dX9_sums_104 : decode cX9_sums 104 = .ok (.return_, 1) := by decide +kernel
theorem sbX9_goesOn_X9_goesOn_r1 : SubW wsX9_goesOn_r1 wsX9_goesOn := fun _ h => (List.mem_cons_of_mem _ (List.mem_append_left _ (List.mem_append_left _ h)))
theorem sbX9_goesOn_X9_goesOn_r2 : SubW wsX9_goesOn_r2 wsX9_goesOn := fun _ h => (List.mem_cons_of_mem _ (List.mem_append_left _ (List.mem_append_right _ h)))
theorem mwX9_goesOn_0 : (.code yX9_back cX9_back 6 none : Cond) ∈ wsX9_goesOn := (sbX9_goesOn_X9_goesOn_r1 _ (memL 7 rfl))
theorem mwX9_goesOn_1 : (.code yX9_greater cX9_greater 2 (some .int) : Cond) ∈ wsX9_goesOn := (sbX9_goesOn_X9_goesOn_r1 _ (memL 22 rfl))
theorem mwX9_goesOn_2 : (.static yX9_greater : Cond) ∈ wsX9_goesOn := (sbX9_goesOn_X9_goesOn_r1 _ (memL 21 rfl))
theorem mwX9_goesOn_3 : (.methodLink RX9 167 yX9_greater : Cond) ∈ wsX9_goesOn := (sbX9_goesOn_X9_goesOn_r1 _ (memL 20 rfl))
theorem mwX9_goesOn_4 : (.fieldLink RX9 77 "BuoyTenderModel" "pace" "I" : Cond) ∈ wsX9_goesOn := (sbX9_goesOn_X9_goesOn_r1 _ (memL 19 rfl))
theorem mwX9_goesOn_5 : (.fieldLink RX9 16 "BuoyTenderModel" "stationY" "[I" : Cond) ∈ wsX9_goesOn := (sbX9_goesOn_X9_goesOn_r1 _ (memL 18 rfl))
theorem mwX9_goesOn_6 : (.fieldLink RX9 161 "BuoyTenderModel" "shipY" "I" : Cond) ∈ wsX9_goesOn := (sbX9_goesOn_X9_goesOn_r1 _ (memL 17 rfl))
theorem mwX9_goesOn_7 : (.fieldLink RX9 13 "BuoyTenderModel" "stationX" "[I" : Cond) ∈ wsX9_goesOn := (sbX9_goesOn_X9_goesOn_r1 _ (memL 16 rfl))
theorem mwX9_goesOn_8 : (.fieldLink RX9 158 "BuoyTenderModel" "shipX" "I" : Cond) ∈ wsX9_goesOn := (sbX9_goesOn_X9_goesOn_r1 _ (memL 15 rfl))
theorem mwX9_goesOn_9 : (.code yX9_way cX9_way 5 (some .int) : Cond) ∈ wsX9_goesOn := (sbX9_goesOn_X9_goesOn_r1 _ (memL 14 rfl))
theorem mwX9_goesOn_10 : (.initialized RX9 : Cond) ∈ wsX9_goesOn := (sbX9_goesOn_X9_goesOn_r1 _ (memL 6 rfl))
theorem mwX9_goesOn_11 : (.selects RX9 yX9_way yX9_way : Cond) ∈ wsX9_goesOn := (sbX9_goesOn_X9_goesOn_r1 _ (memL 13 rfl))
theorem mwX9_goesOn_12 : (.instanceMethod yX9_way : Cond) ∈ wsX9_goesOn := (sbX9_goesOn_X9_goesOn_r1 _ (memL 12 rfl))
theorem mwX9_goesOn_13 : (.methodLink RX9 179 yX9_way : Cond) ∈ wsX9_goesOn := (sbX9_goesOn_X9_goesOn_r1 _ (memL 11 rfl))
theorem mwX9_goesOn_14 : (.fieldLink RX9 182 "BuoyTenderModel" "foundBack" "I" : Cond) ∈ wsX9_goesOn := (sbX9_goesOn_X9_goesOn_r1 _ (memL 10 rfl))
theorem mwX9_goesOn_15 : (.fieldLink RX9 170 "BuoyTenderModel" "foundWeight" "I" : Cond) ∈ wsX9_goesOn := (sbX9_goesOn_X9_goesOn_r1 _ (memL 2 rfl))
theorem mwX9_goesOn_16 : (.fieldLink RX9 84 "BuoyTenderModel" "last" "I" : Cond) ∈ wsX9_goesOn := (sbX9_goesOn_X9_goesOn_r1 _ (memL 9 rfl))
theorem mwX9_goesOn_17 : (.fieldLink RX9 102 "BuoyTenderModel" "weightOf" "[I" : Cond) ∈ wsX9_goesOn := (sbX9_goesOn_X9_goesOn_r1 _ (memL 8 rfl))
set_option maxRecDepth 20000 in
theorem sbX9_goesOn_X90 : SubW wsX90 wsX9_goesOn := fun _ h => (List.mem_cons_of_mem _ (List.mem_append_right _ h))
set_option maxRecDepth 20000 in
theorem sbX9_goesOn_X9_back : SubW wsX9_back wsX9_goesOn := (subW_cons mwX9_goesOn_0 (subW_app (subW_cons mwX9_goesOn_17 (subW_cons mwX9_goesOn_16 (subW_cons mwX9_goesOn_15 (subW_cons mwX9_goesOn_14 (subW_cons mwX9_goesOn_13 (subW_cons mwX9_goesOn_12 (subW_cons mwX9_goesOn_11 (subW_cons mwX9_goesOn_10 (subW_cons mwX9_goesOn_9 (subW_cons mwX9_goesOn_8 (subW_cons mwX9_goesOn_7 (subW_cons mwX9_goesOn_6 (subW_cons mwX9_goesOn_5 (subW_cons mwX9_goesOn_4 (subW_cons mwX9_goesOn_3 (subW_cons mwX9_goesOn_2 (subW_cons mwX9_goesOn_1 subW_nil))))))))))))))))) sbX9_goesOn_X90))
set_option maxRecDepth 20000 in
theorem gw_wsX9_goesOn_r1 : goodW wsX9_goesOn_r1 := (goodW_of (by decide +kernel))
set_option maxRecDepth 20000 in
theorem gw_wsX9_goesOn_r2 : goodW wsX9_goesOn_r2 := (goodW_of (by decide +kernel))
set_option maxRecDepth 20000 in
theorem gw_wsX9_goesOn : goodW wsX9_goesOn := (goodW_cons rfl (goodW_app (goodW_app gw_wsX9_goesOn_r1 gw_wsX9_goesOn_r2) gw_wsX90))
theorem ggX9_goesOn_X9_back : GoodIn wsX9_goesOn wsX9_back := goodIn_W gw_wsX9_goesOn sbX9_goesOn_X9_back
theorem mwX9_goesOn_18 : (.selects RX9 yX9_back yX9_back : Cond) ∈ wsX9_goesOn := (sbX9_goesOn_X9_goesOn_r1 _ (memL 5 rfl))
theorem mwX9_goesOn_19 : (.instanceMethod yX9_back : Cond) ∈ wsX9_goesOn := (sbX9_goesOn_X9_goesOn_r1 _ (memL 4 rfl))
theorem mwX9_goesOn_20 : (.methodLink RX9 173 yX9_back : Cond) ∈ wsX9_goesOn := (sbX9_goesOn_X9_goesOn_r1 _ (memL 3 rfl))
theorem gX9_goesOn_X9_back : GoodIn wsX9_goesOn (wsV RX9 173 RX9 yX9_back wsX9_back) := goodIn_W gw_wsX9_goesOn (subW_app (subW_cons mwX9_goesOn_20 (subW_cons mwX9_goesOn_19 (subW_cons mwX9_goesOn_18 (subW_cons mwX9_goesOn_10 subW_nil)))) sbX9_goesOn_X9_back)
theorem mwX9_goesOn_21 : (.code yX9_steps cX9_steps 7 none : Cond) ∈ wsX9_goesOn := (sbX9_goesOn_X9_goesOn_r2 _ (memL 2 rfl))
theorem mwX9_goesOn_22 : (.fieldLink RX9 62 "BuoyTenderModel" "minutes" "[I" : Cond) ∈ wsX9_goesOn := (sbX9_goesOn_X9_goesOn_r2 _ (memL 10 rfl))
theorem mwX9_goesOn_23 : (.fieldLink RX9 155 "BuoyTenderModel" "carries" "I" : Cond) ∈ wsX9_goesOn := (sbX9_goesOn_X9_goesOn_r2 _ (memL 9 rfl))
theorem mwX9_goesOn_24 : (.fieldLink RX9 99 "BuoyTenderModel" "loadOf" "[I" : Cond) ∈ wsX9_goesOn := (sbX9_goesOn_X9_goesOn_r2 _ (memL 8 rfl))
theorem mwX9_goesOn_25 : (.fieldLink RX9 68 "BuoyTenderModel" "weight" "[I" : Cond) ∈ wsX9_goesOn := (sbX9_goesOn_X9_goesOn_r2 _ (memL 7 rfl))
theorem mwX9_goesOn_26 : (.code yX9_does cX9_does 6 (some .int) : Cond) ∈ wsX9_goesOn := (sbX9_goesOn_X9_goesOn_r2 _ (memL 6 rfl))
theorem mwX9_goesOn_27 : (.selects RX9 yX9_does yX9_does : Cond) ∈ wsX9_goesOn := (sbX9_goesOn_X9_goesOn_r2 _ (memL 5 rfl))
theorem mwX9_goesOn_28 : (.instanceMethod yX9_does : Cond) ∈ wsX9_goesOn := (sbX9_goesOn_X9_goesOn_r2 _ (memL 4 rfl))
theorem mwX9_goesOn_29 : (.methodLink RX9 185 yX9_does : Cond) ∈ wsX9_goesOn := (sbX9_goesOn_X9_goesOn_r2 _ (memL 3 rfl))
theorem mwX9_goesOn_30 : (.fieldLink RX9 90 "BuoyTenderModel" "earliest" "[I" : Cond) ∈ wsX9_goesOn := (sbX9_goesOn_X9_goesOn_r1 _ (memL 1 rfl))
theorem mwX9_goesOn_31 : (.fieldLink RX9 109 "BuoyTenderModel" "marks" "I" : Cond) ∈ wsX9_goesOn := (sbX9_goesOn_X9_goesOn_r1 _ (memL 0 rfl))
set_option maxRecDepth 20000 in
theorem sbX9_goesOn_X9_steps_r1 : SubW wsX9_steps_r1 wsX9_goesOn := (subW_cons mwX9_goesOn_31 (subW_cons mwX9_goesOn_30 (subW_cons mwX9_goesOn_29 (subW_cons mwX9_goesOn_28 (subW_cons mwX9_goesOn_27 (subW_cons mwX9_goesOn_10 (subW_cons mwX9_goesOn_26 (subW_cons mwX9_goesOn_25 (subW_cons mwX9_goesOn_24 (subW_cons mwX9_goesOn_23 (subW_cons mwX9_goesOn_22 (subW_cons mwX9_goesOn_16 (subW_cons mwX9_goesOn_13 (subW_cons mwX9_goesOn_12 (subW_cons mwX9_goesOn_11 (subW_cons mwX9_goesOn_9 (subW_cons mwX9_goesOn_8 (subW_cons mwX9_goesOn_7 (subW_cons mwX9_goesOn_6 (subW_cons mwX9_goesOn_5 (subW_cons mwX9_goesOn_4 (subW_cons mwX9_goesOn_3 (subW_cons mwX9_goesOn_2 (subW_cons mwX9_goesOn_1 subW_nil))))))))))))))))))))))))
theorem mwX9_goesOn_32 : (.fieldLink RX9 81 "BuoyTenderModel" "mostWind" "I" : Cond) ∈ wsX9_goesOn := (sbX9_goesOn_X9_goesOn_r2 _ (memL 19 rfl))
theorem mwX9_goesOn_33 : (.fieldLink RX9 74 "BuoyTenderModel" "wind" "[I" : Cond) ∈ wsX9_goesOn := (sbX9_goesOn_X9_goesOn_r2 _ (memL 18 rfl))
theorem mwX9_goesOn_34 : (.fieldLink RX9 152 "BuoyTenderModel" "draught" "I" : Cond) ∈ wsX9_goesOn := (sbX9_goesOn_X9_goesOn_r2 _ (memL 17 rfl))
theorem mwX9_goesOn_35 : (.fieldLink RX9 71 "BuoyTenderModel" "tide" "[I" : Cond) ∈ wsX9_goesOn := (sbX9_goesOn_X9_goesOn_r2 _ (memL 16 rfl))
theorem mwX9_goesOn_36 : (.fieldLink RX9 7 "BuoyTenderModel" "depth" "[I" : Cond) ∈ wsX9_goesOn := (sbX9_goesOn_X9_goesOn_r2 _ (memL 15 rfl))
theorem mwX9_goesOn_37 : (.code yX9_begins cX9_begins 5 (some .int) : Cond) ∈ wsX9_goesOn := (sbX9_goesOn_X9_goesOn_r2 _ (memL 14 rfl))
theorem mwX9_goesOn_38 : (.selects RX9 yX9_begins yX9_begins : Cond) ∈ wsX9_goesOn := (sbX9_goesOn_X9_goesOn_r2 _ (memL 13 rfl))
theorem mwX9_goesOn_39 : (.instanceMethod yX9_begins : Cond) ∈ wsX9_goesOn := (sbX9_goesOn_X9_goesOn_r2 _ (memL 12 rfl))
theorem mwX9_goesOn_40 : (.methodLink RX9 189 yX9_begins : Cond) ∈ wsX9_goesOn := (sbX9_goesOn_X9_goesOn_r2 _ (memL 11 rfl))
set_option maxRecDepth 20000 in
theorem sbX9_goesOn_X9_steps_r2 : SubW wsX9_steps_r2 wsX9_goesOn := (subW_cons mwX9_goesOn_40 (subW_cons mwX9_goesOn_39 (subW_cons mwX9_goesOn_38 (subW_cons mwX9_goesOn_37 (subW_cons mwX9_goesOn_36 (subW_cons mwX9_goesOn_35 (subW_cons mwX9_goesOn_34 (subW_cons mwX9_goesOn_33 (subW_cons mwX9_goesOn_32 subW_nil)))))))))
set_option maxRecDepth 20000 in
theorem sbX9_goesOn_X9_steps : SubW wsX9_steps wsX9_goesOn := (subW_cons mwX9_goesOn_21 (subW_app (subW_app sbX9_goesOn_X9_steps_r1 sbX9_goesOn_X9_steps_r2) sbX9_goesOn_X90))
theorem ggX9_goesOn_X9_steps : GoodIn wsX9_goesOn wsX9_steps := goodIn_W gw_wsX9_goesOn sbX9_goesOn_X9_steps
theorem mwX9_goesOn_41 : (.selects RX9 yX9_steps yX9_steps : Cond) ∈ wsX9_goesOn := (sbX9_goesOn_X9_goesOn_r2 _ (memL 1 rfl))
theorem mwX9_goesOn_42 : (.instanceMethod yX9_steps : Cond) ∈ wsX9_goesOn := (sbX9_goesOn_X9_goesOn_r2 _ (memL 0 rfl))
theorem mwX9_goesOn_43 : (.methodLink RX9 177 yX9_steps : Cond) ∈ wsX9_goesOn := (sbX9_goesOn_X9_goesOn_r1 _ (memL 23 rfl))
theorem gX9_goesOn_X9_steps : GoodIn wsX9_goesOn (wsV RX9 177 RX9 yX9_steps wsX9_steps) := goodIn_W gw_wsX9_goesOn (subW_app (subW_cons mwX9_goesOn_43 (subW_cons mwX9_goesOn_42 (subW_cons mwX9_goesOn_41 (subW_cons mwX9_goesOn_10 subW_nil)))) sbX9_goesOn_X9_steps)
theorem dX9_goesOn_0 : decode cX9_goesOn 0 = .ok (.iconst 1, 1) := by decide +kernel
theorem dX9_goesOn_1 : decode cX9_goesOn 1 = .ok (.aload_n 0, 1) := by decide +kernel
theorem dX9_goesOn_2 : decode cX9_goesOn 2 = .ok (.getfield 109, 3) := by decide +kernel
theorem dX9_goesOn_5 : decode cX9_goesOn 5 = .ok (.ishl, 1) := by decide +kernel
theorem dX9_goesOn_6 : decode cX9_goesOn 6 = .ok (.istore 4, 2) := by decide +kernel
theorem dX9_goesOn_8 : decode cX9_goesOn 8 = .ok (.iconst 0, 1) := by decide +kernel
theorem dX9_goesOn_9 : decode cX9_goesOn 9 = .ok (.istore 5, 2) := by decide +kernel
theorem dX9_goesOn_11 : decode cX9_goesOn 11 = .ok (.iload 5, 2) := by decide +kernel
theorem dX9_goesOn_13 : decode cX9_goesOn 13 = .ok (.bipush 10, 2) := by decide +kernel
theorem dX9_goesOn_15 : decode cX9_goesOn 15 = .ok (.iload 4, 2) := by decide +kernel
theorem dX9_goesOn_17 : decode cX9_goesOn 17 = .ok (.imul, 1) := by decide +kernel
theorem dX9_goesOn_18 : decode cX9_goesOn 18 = .ok (.if_icmp .ge 17, 3) := by decide +kernel
theorem dX9_goesOn_21 : decode cX9_goesOn 21 = .ok (.aload_n 0, 1) := by decide +kernel
theorem dX9_goesOn_22 : decode cX9_goesOn 22 = .ok (.getfield 90, 3) := by decide +kernel
theorem dX9_goesOn_25 : decode cX9_goesOn 25 = .ok (.iload 5, 2) := by decide +kernel
theorem dX9_goesOn_27 : decode cX9_goesOn 27 = .ok (.iconst (-1), 1) := by decide +kernel
theorem dX9_goesOn_28 : decode cX9_goesOn 28 = .ok (.iastore, 1) := by decide +kernel
theorem dX9_goesOn_29 : decode cX9_goesOn 29 = .ok (.iinc 5 1, 3) := by decide +kernel
theorem dX9_goesOn_32 : decode cX9_goesOn 32 = .ok (.goto (-21), 3) := by decide +kernel
theorem dX9_goesOn_35 : decode cX9_goesOn 35 = .ok (.iload_n 2, 1) := by decide +kernel
theorem dX9_goesOn_36 : decode cX9_goesOn 36 = .ok (.ifCond .lt 15, 3) := by decide +kernel
theorem dX9_goesOn_39 : decode cX9_goesOn 39 = .ok (.aload_n 0, 1) := by decide +kernel
theorem dX9_goesOn_40 : decode cX9_goesOn 40 = .ok (.getfield 90, 3) := by decide +kernel
theorem dX9_goesOn_43 : decode cX9_goesOn 43 = .ok (.bipush 10, 2) := by decide +kernel
theorem dX9_goesOn_45 : decode cX9_goesOn 45 = .ok (.iload_n 1, 1) := by decide +kernel
theorem dX9_goesOn_46 : decode cX9_goesOn 46 = .ok (.imul, 1) := by decide +kernel
theorem dX9_goesOn_47 : decode cX9_goesOn 47 = .ok (.iload_n 2, 1) := by decide +kernel
theorem dX9_goesOn_48 : decode cX9_goesOn 48 = .ok (.iadd, 1) := by decide +kernel
theorem dX9_goesOn_49 : decode cX9_goesOn 49 = .ok (.iload_n 3, 1) := by decide +kernel
theorem dX9_goesOn_50 : decode cX9_goesOn 50 = .ok (.iastore, 1) := by decide +kernel
theorem dX9_goesOn_51 : decode cX9_goesOn 51 = .ok (.aload_n 0, 1) := by decide +kernel
theorem dX9_goesOn_52 : decode cX9_goesOn 52 = .ok (.iconst (-1), 1) := by decide +kernel
theorem dX9_goesOn_53 : decode cX9_goesOn 53 = .ok (.putfield 170, 3) := by decide +kernel
theorem dX9_goesOn_56 : decode cX9_goesOn 56 = .ok (.aload_n 0, 1) := by decide +kernel
theorem dX9_goesOn_57 : decode cX9_goesOn 57 = .ok (.iload_n 1, 1) := by decide +kernel
theorem dX9_goesOn_58 : decode cX9_goesOn 58 = .ok (.iload_n 2, 1) := by decide +kernel
theorem dX9_goesOn_59 : decode cX9_goesOn 59 = .ok (.iload_n 3, 1) := by decide +kernel
theorem dX9_goesOn_60 : decode cX9_goesOn 60 = .ok (.invokevirtual 173, 3) := by decide +kernel
theorem dX9_goesOn_63 : decode cX9_goesOn 63 = .ok (.iload_n 1, 1) := by decide +kernel
theorem dX9_goesOn_64 : decode cX9_goesOn 64 = .ok (.istore 5, 2) := by decide +kernel
theorem dX9_goesOn_66 : decode cX9_goesOn 66 = .ok (.iload 5, 2) := by decide +kernel
theorem dX9_goesOn_68 : decode cX9_goesOn 68 = .ok (.iload 4, 2) := by decide +kernel
theorem dX9_goesOn_70 : decode cX9_goesOn 70 = .ok (.if_icmp .ge 96, 3) := by decide +kernel
theorem dX9_goesOn_73 : decode cX9_goesOn 73 = .ok (.iload 5, 2) := by decide +kernel
theorem dX9_goesOn_75 : decode cX9_goesOn 75 = .ok (.iload_n 1, 1) := by decide +kernel
theorem dX9_goesOn_76 : decode cX9_goesOn 76 = .ok (.iand, 1) := by decide +kernel
theorem dX9_goesOn_77 : decode cX9_goesOn 77 = .ok (.iload_n 1, 1) := by decide +kernel
theorem dX9_goesOn_78 : decode cX9_goesOn 78 = .ok (.if_icmp .eq 6, 3) := by decide +kernel
theorem dX9_goesOn_81 : decode cX9_goesOn 81 = .ok (.goto 79, 3) := by decide +kernel
theorem dX9_goesOn_84 : decode cX9_goesOn 84 = .ok (.iload 5, 2) := by decide +kernel
theorem dX9_goesOn_86 : decode cX9_goesOn 86 = .ok (.iload_n 1, 1) := by decide +kernel
theorem dX9_goesOn_87 : decode cX9_goesOn 87 = .ok (.if_icmp .ne 15, 3) := by decide +kernel
theorem dX9_goesOn_90 : decode cX9_goesOn 90 = .ok (.iload_n 2, 1) := by decide +kernel
theorem dX9_goesOn_91 : decode cX9_goesOn 91 = .ok (.ifCond .ge 11, 3) := by decide +kernel
theorem dX9_goesOn_94 : decode cX9_goesOn 94 = .ok (.aload_n 0, 1) := by decide +kernel
theorem dX9_goesOn_95 : decode cX9_goesOn 95 = .ok (.iload 5, 2) := by decide +kernel
theorem dX9_goesOn_97 : decode cX9_goesOn 97 = .ok (.iconst (-1), 1) := by decide +kernel
theorem dX9_goesOn_98 : decode cX9_goesOn 98 = .ok (.iload_n 3, 1) := by decide +kernel
theorem dX9_goesOn_99 : decode cX9_goesOn 99 = .ok (.invokevirtual 177, 3) := by decide +kernel
theorem dX9_goesOn_102 : decode cX9_goesOn 102 = .ok (.iconst 0, 1) := by decide +kernel
theorem dX9_goesOn_103 : decode cX9_goesOn 103 = .ok (.istore 6, 2) := by decide +kernel
theorem dX9_goesOn_105 : decode cX9_goesOn 105 = .ok (.iload 6, 2) := by decide +kernel
theorem dX9_goesOn_107 : decode cX9_goesOn 107 = .ok (.aload_n 0, 1) := by decide +kernel
theorem dX9_goesOn_108 : decode cX9_goesOn 108 = .ok (.getfield 109, 3) := by decide +kernel
theorem dX9_goesOn_111 : decode cX9_goesOn 111 = .ok (.if_icmp .ge 49, 3) := by decide +kernel
theorem dX9_goesOn_114 : decode cX9_goesOn 114 = .ok (.aload_n 0, 1) := by decide +kernel
theorem dX9_goesOn_115 : decode cX9_goesOn 115 = .ok (.getfield 90, 3) := by decide +kernel
theorem dX9_goesOn_118 : decode cX9_goesOn 118 = .ok (.bipush 10, 2) := by decide +kernel
theorem dX9_goesOn_120 : decode cX9_goesOn 120 = .ok (.iload 5, 2) := by decide +kernel
theorem dX9_goesOn_122 : decode cX9_goesOn 122 = .ok (.imul, 1) := by decide +kernel
theorem dX9_goesOn_123 : decode cX9_goesOn 123 = .ok (.iload 6, 2) := by decide +kernel
theorem dX9_goesOn_125 : decode cX9_goesOn 125 = .ok (.iadd, 1) := by decide +kernel
theorem dX9_goesOn_126 : decode cX9_goesOn 126 = .ok (.iaload, 1) := by decide +kernel
theorem dX9_goesOn_127 : decode cX9_goesOn 127 = .ok (.istore 7, 2) := by decide +kernel
theorem dX9_goesOn_129 : decode cX9_goesOn 129 = .ok (.iload 7, 2) := by decide +kernel
theorem dX9_goesOn_131 : decode cX9_goesOn 131 = .ok (.ifCond .lt 23, 3) := by decide +kernel
theorem dX9_goesOn_134 : decode cX9_goesOn 134 = .ok (.aload_n 0, 1) := by decide +kernel
theorem dX9_goesOn_135 : decode cX9_goesOn 135 = .ok (.iload 5, 2) := by decide +kernel
theorem dX9_goesOn_137 : decode cX9_goesOn 137 = .ok (.iload 6, 2) := by decide +kernel
theorem dX9_goesOn_139 : decode cX9_goesOn 139 = .ok (.iload 7, 2) := by decide +kernel
theorem dX9_goesOn_141 : decode cX9_goesOn 141 = .ok (.invokevirtual 173, 3) := by decide +kernel
theorem dX9_goesOn_144 : decode cX9_goesOn 144 = .ok (.aload_n 0, 1) := by decide +kernel
theorem dX9_goesOn_145 : decode cX9_goesOn 145 = .ok (.iload 5, 2) := by decide +kernel
theorem dX9_goesOn_147 : decode cX9_goesOn 147 = .ok (.iload 6, 2) := by decide +kernel
theorem dX9_goesOn_149 : decode cX9_goesOn 149 = .ok (.iload 7, 2) := by decide +kernel
theorem dX9_goesOn_151 : decode cX9_goesOn 151 = .ok (.invokevirtual 177, 3) := by decide +kernel
theorem dX9_goesOn_154 : decode cX9_goesOn 154 = .ok (.iinc 6 1, 3) := by decide +kernel
theorem dX9_goesOn_157 : decode cX9_goesOn 157 = .ok (.goto (-52), 3) := by decide +kernel
theorem dX9_goesOn_160 : decode cX9_goesOn 160 = .ok (.iinc 5 1, 3) := by decide +kernel
theorem dX9_goesOn_163 : decode cX9_goesOn 163 = .ok (.goto (-97), 3) := by decide +kernel
theorem dX9_goesOn_166 : decode cX9_goesOn 166 = .ok (.return_, 1) := by decide +kernel
theorem mwX9_back_0 : (.code yX9_way cX9_way 5 (some .int) : Cond) ∈ wsX9_back := (List.mem_cons_of_mem _ (List.mem_append_left _ (memL 8 rfl)))
theorem mwX9_back_1 : (.code yX9_greater cX9_greater 2 (some .int) : Cond) ∈ wsX9_back := (List.mem_cons_of_mem _ (List.mem_append_left _ (memL 16 rfl)))
theorem mwX9_back_2 : (.initialized RX9 : Cond) ∈ wsX9_back := (List.mem_cons_of_mem _ (List.mem_append_left _ (memL 7 rfl)))
theorem mwX9_back_3 : (.static yX9_greater : Cond) ∈ wsX9_back := (List.mem_cons_of_mem _ (List.mem_append_left _ (memL 15 rfl)))
theorem mwX9_back_4 : (.methodLink RX9 167 yX9_greater : Cond) ∈ wsX9_back := (List.mem_cons_of_mem _ (List.mem_append_left _ (memL 14 rfl)))
theorem mwX9_back_5 : (.fieldLink RX9 77 "BuoyTenderModel" "pace" "I" : Cond) ∈ wsX9_back := (List.mem_cons_of_mem _ (List.mem_append_left _ (memL 13 rfl)))
theorem mwX9_back_6 : (.fieldLink RX9 16 "BuoyTenderModel" "stationY" "[I" : Cond) ∈ wsX9_back := (List.mem_cons_of_mem _ (List.mem_append_left _ (memL 12 rfl)))
theorem mwX9_back_7 : (.fieldLink RX9 161 "BuoyTenderModel" "shipY" "I" : Cond) ∈ wsX9_back := (List.mem_cons_of_mem _ (List.mem_append_left _ (memL 11 rfl)))
theorem mwX9_back_8 : (.fieldLink RX9 13 "BuoyTenderModel" "stationX" "[I" : Cond) ∈ wsX9_back := (List.mem_cons_of_mem _ (List.mem_append_left _ (memL 10 rfl)))
theorem mwX9_back_9 : (.fieldLink RX9 158 "BuoyTenderModel" "shipX" "I" : Cond) ∈ wsX9_back := (List.mem_cons_of_mem _ (List.mem_append_left _ (memL 9 rfl)))
set_option maxRecDepth 20000 in
theorem sbX9_back_X90 : SubW wsX90 wsX9_back := fun _ h => (List.mem_cons_of_mem _ (List.mem_append_right _ h))
set_option maxRecDepth 20000 in
theorem sbX9_back_X9_way : SubW wsX9_way wsX9_back := (subW_cons mwX9_back_0 (subW_app (subW_cons mwX9_back_9 (subW_cons mwX9_back_8 (subW_cons mwX9_back_7 (subW_cons mwX9_back_6 (subW_cons mwX9_back_5 (subW_cons mwX9_back_4 (subW_cons mwX9_back_3 (subW_cons mwX9_back_2 (subW_cons mwX9_back_1 subW_nil))))))))) sbX9_back_X90))
set_option maxRecDepth 20000 in
theorem gw_wsX9_back : goodW wsX9_back := (goodW_cons rfl (goodW_app (goodW_of (by decide +kernel)) gw_wsX90))
theorem ggX9_back_X9_way : GoodIn wsX9_back wsX9_way := goodIn_W gw_wsX9_back sbX9_back_X9_way
theorem mwX9_back_10 : (.selects RX9 yX9_way yX9_way : Cond) ∈ wsX9_back := (List.mem_cons_of_mem _ (List.mem_append_left _ (memL 6 rfl)))
theorem mwX9_back_11 : (.instanceMethod yX9_way : Cond) ∈ wsX9_back := (List.mem_cons_of_mem _ (List.mem_append_left _ (memL 5 rfl)))
theorem mwX9_back_12 : (.methodLink RX9 179 yX9_way : Cond) ∈ wsX9_back := (List.mem_cons_of_mem _ (List.mem_append_left _ (memL 4 rfl)))
theorem gX9_back_X9_way : GoodIn wsX9_back (wsV RX9 179 RX9 yX9_way wsX9_way) := goodIn_W gw_wsX9_back (subW_app (subW_cons mwX9_back_12 (subW_cons mwX9_back_11 (subW_cons mwX9_back_10 (subW_cons mwX9_back_2 subW_nil)))) sbX9_back_X9_way)
theorem dX9_back_0 : decode cX9_back 0 = .ok (.iload_n 2, 1) := by decide +kernel
theorem dX9_back_1 : decode cX9_back 1 = .ok (.ifCond .ge 7, 3) := by decide +kernel
theorem dX9_back_4 : decode cX9_back 4 = .ok (.iload_n 3, 1) := by decide +kernel
theorem dX9_back_5 : decode cX9_back 5 = .ok (.goto 11, 3) := by decide +kernel
theorem dX9_back_8 : decode cX9_back 8 = .ok (.iload_n 3, 1) := by decide +kernel
theorem dX9_back_9 : decode cX9_back 9 = .ok (.aload_n 0, 1) := by decide +kernel
theorem dX9_back_10 : decode cX9_back 10 = .ok (.iload_n 2, 1) := by decide +kernel
theorem dX9_back_11 : decode cX9_back 11 = .ok (.iconst (-1), 1) := by decide +kernel
theorem dX9_back_12 : decode cX9_back 12 = .ok (.invokevirtual 179, 3) := by decide +kernel
theorem dX9_back_15 : decode cX9_back 15 = .ok (.iadd, 1) := by decide +kernel
theorem dX9_back_16 : decode cX9_back 16 = .ok (.istore 4, 2) := by decide +kernel
theorem dX9_back_18 : decode cX9_back 18 = .ok (.aload_n 0, 1) := by decide +kernel
theorem dX9_back_19 : decode cX9_back 19 = .ok (.getfield 102, 3) := by decide +kernel
theorem dX9_back_22 : decode cX9_back 22 = .ok (.iload_n 1, 1) := by decide +kernel
theorem dX9_back_23 : decode cX9_back 23 = .ok (.iaload, 1) := by decide +kernel
theorem dX9_back_24 : decode cX9_back 24 = .ok (.istore 5, 2) := by decide +kernel
theorem dX9_back_26 : decode cX9_back 26 = .ok (.iload 4, 2) := by decide +kernel
theorem dX9_back_28 : decode cX9_back 28 = .ok (.aload_n 0, 1) := by decide +kernel
theorem dX9_back_29 : decode cX9_back 29 = .ok (.getfield 84, 3) := by decide +kernel
theorem dX9_back_32 : decode cX9_back 32 = .ok (.if_icmp .gt 42, 3) := by decide +kernel
theorem dX9_back_35 : decode cX9_back 35 = .ok (.iload 5, 2) := by decide +kernel
theorem dX9_back_37 : decode cX9_back 37 = .ok (.aload_n 0, 1) := by decide +kernel
theorem dX9_back_38 : decode cX9_back 38 = .ok (.getfield 170, 3) := by decide +kernel
theorem dX9_back_41 : decode cX9_back 41 = .ok (.if_icmp .gt 21, 3) := by decide +kernel
theorem dX9_back_44 : decode cX9_back 44 = .ok (.iload 5, 2) := by decide +kernel
theorem dX9_back_46 : decode cX9_back 46 = .ok (.aload_n 0, 1) := by decide +kernel
theorem dX9_back_47 : decode cX9_back 47 = .ok (.getfield 170, 3) := by decide +kernel
theorem dX9_back_50 : decode cX9_back 50 = .ok (.if_icmp .ne 24, 3) := by decide +kernel
theorem dX9_back_53 : decode cX9_back 53 = .ok (.iload 4, 2) := by decide +kernel
theorem dX9_back_55 : decode cX9_back 55 = .ok (.aload_n 0, 1) := by decide +kernel
theorem dX9_back_56 : decode cX9_back 56 = .ok (.getfield 182, 3) := by decide +kernel
theorem dX9_back_59 : decode cX9_back 59 = .ok (.if_icmp .ge 15, 3) := by decide +kernel
theorem dX9_back_62 : decode cX9_back 62 = .ok (.aload_n 0, 1) := by decide +kernel
theorem dX9_back_63 : decode cX9_back 63 = .ok (.iload 5, 2) := by decide +kernel
theorem dX9_back_65 : decode cX9_back 65 = .ok (.putfield 170, 3) := by decide +kernel
theorem dX9_back_68 : decode cX9_back 68 = .ok (.aload_n 0, 1) := by decide +kernel
theorem dX9_back_69 : decode cX9_back 69 = .ok (.iload 4, 2) := by decide +kernel
theorem dX9_back_71 : decode cX9_back 71 = .ok (.putfield 182, 3) := by decide +kernel
theorem dX9_back_74 : decode cX9_back 74 = .ok (.return_, 1) := by decide +kernel
theorem sbX9_steps_X9_steps_r1 : SubW wsX9_steps_r1 wsX9_steps := fun _ h => (List.mem_cons_of_mem _ (List.mem_append_left _ (List.mem_append_left _ h)))
theorem sbX9_steps_X9_steps_r2 : SubW wsX9_steps_r2 wsX9_steps := fun _ h => (List.mem_cons_of_mem _ (List.mem_append_left _ (List.mem_append_right _ h)))
theorem mwX9_steps_0 : (.code yX9_does cX9_does 6 (some .int) : Cond) ∈ wsX9_steps := (sbX9_steps_X9_steps_r1 _ (memL 6 rfl))
theorem mwX9_steps_1 : (.fieldLink RX9 71 "BuoyTenderModel" "tide" "[I" : Cond) ∈ wsX9_steps := (sbX9_steps_X9_steps_r2 _ (memL 5 rfl))
theorem mwX9_steps_2 : (.fieldLink RX9 7 "BuoyTenderModel" "depth" "[I" : Cond) ∈ wsX9_steps := (sbX9_steps_X9_steps_r2 _ (memL 4 rfl))
theorem mwX9_steps_3 : (.code yX9_begins cX9_begins 5 (some .int) : Cond) ∈ wsX9_steps := (sbX9_steps_X9_steps_r2 _ (memL 3 rfl))
theorem mwX9_steps_4 : (.selects RX9 yX9_begins yX9_begins : Cond) ∈ wsX9_steps := (sbX9_steps_X9_steps_r2 _ (memL 2 rfl))
theorem mwX9_steps_5 : (.instanceMethod yX9_begins : Cond) ∈ wsX9_steps := (sbX9_steps_X9_steps_r2 _ (memL 1 rfl))
theorem mwX9_steps_6 : (.methodLink RX9 189 yX9_begins : Cond) ∈ wsX9_steps := (sbX9_steps_X9_steps_r2 _ (memL 0 rfl))
theorem mwX9_steps_7 : (.code yX9_greater cX9_greater 2 (some .int) : Cond) ∈ wsX9_steps := (sbX9_steps_X9_steps_r1 _ (memL 23 rfl))
theorem mwX9_steps_8 : (.static yX9_greater : Cond) ∈ wsX9_steps := (sbX9_steps_X9_steps_r1 _ (memL 22 rfl))
theorem mwX9_steps_9 : (.methodLink RX9 167 yX9_greater : Cond) ∈ wsX9_steps := (sbX9_steps_X9_steps_r1 _ (memL 21 rfl))
theorem mwX9_steps_10 : (.fieldLink RX9 77 "BuoyTenderModel" "pace" "I" : Cond) ∈ wsX9_steps := (sbX9_steps_X9_steps_r1 _ (memL 20 rfl))
theorem mwX9_steps_11 : (.fieldLink RX9 16 "BuoyTenderModel" "stationY" "[I" : Cond) ∈ wsX9_steps := (sbX9_steps_X9_steps_r1 _ (memL 19 rfl))
theorem mwX9_steps_12 : (.fieldLink RX9 161 "BuoyTenderModel" "shipY" "I" : Cond) ∈ wsX9_steps := (sbX9_steps_X9_steps_r1 _ (memL 18 rfl))
theorem mwX9_steps_13 : (.fieldLink RX9 13 "BuoyTenderModel" "stationX" "[I" : Cond) ∈ wsX9_steps := (sbX9_steps_X9_steps_r1 _ (memL 17 rfl))
theorem mwX9_steps_14 : (.fieldLink RX9 158 "BuoyTenderModel" "shipX" "I" : Cond) ∈ wsX9_steps := (sbX9_steps_X9_steps_r1 _ (memL 16 rfl))
theorem mwX9_steps_15 : (.code yX9_way cX9_way 5 (some .int) : Cond) ∈ wsX9_steps := (sbX9_steps_X9_steps_r1 _ (memL 15 rfl))
theorem mwX9_steps_16 : (.initialized RX9 : Cond) ∈ wsX9_steps := (sbX9_steps_X9_steps_r1 _ (memL 5 rfl))
theorem mwX9_steps_17 : (.selects RX9 yX9_way yX9_way : Cond) ∈ wsX9_steps := (sbX9_steps_X9_steps_r1 _ (memL 14 rfl))
theorem mwX9_steps_18 : (.instanceMethod yX9_way : Cond) ∈ wsX9_steps := (sbX9_steps_X9_steps_r1 _ (memL 13 rfl))
theorem mwX9_steps_19 : (.methodLink RX9 179 yX9_way : Cond) ∈ wsX9_steps := (sbX9_steps_X9_steps_r1 _ (memL 12 rfl))
theorem mwX9_steps_20 : (.fieldLink RX9 84 "BuoyTenderModel" "last" "I" : Cond) ∈ wsX9_steps := (sbX9_steps_X9_steps_r1 _ (memL 11 rfl))
theorem mwX9_steps_21 : (.fieldLink RX9 62 "BuoyTenderModel" "minutes" "[I" : Cond) ∈ wsX9_steps := (sbX9_steps_X9_steps_r1 _ (memL 10 rfl))
theorem mwX9_steps_22 : (.fieldLink RX9 155 "BuoyTenderModel" "carries" "I" : Cond) ∈ wsX9_steps := (sbX9_steps_X9_steps_r1 _ (memL 9 rfl))
theorem mwX9_steps_23 : (.fieldLink RX9 99 "BuoyTenderModel" "loadOf" "[I" : Cond) ∈ wsX9_steps := (sbX9_steps_X9_steps_r1 _ (memL 8 rfl))
theorem mwX9_steps_24 : (.fieldLink RX9 68 "BuoyTenderModel" "weight" "[I" : Cond) ∈ wsX9_steps := (sbX9_steps_X9_steps_r1 _ (memL 7 rfl))
set_option maxRecDepth 20000 in
theorem sbX9_steps_X9_does_r1 : SubW wsX9_does_r1 wsX9_steps := (subW_cons mwX9_steps_24 (subW_cons mwX9_steps_23 (subW_cons mwX9_steps_22 (subW_cons mwX9_steps_21 (subW_cons mwX9_steps_20 (subW_cons mwX9_steps_19 (subW_cons mwX9_steps_18 (subW_cons mwX9_steps_17 (subW_cons mwX9_steps_16 (subW_cons mwX9_steps_15 (subW_cons mwX9_steps_14 (subW_cons mwX9_steps_13 (subW_cons mwX9_steps_12 (subW_cons mwX9_steps_11 (subW_cons mwX9_steps_10 (subW_cons mwX9_steps_9 (subW_cons mwX9_steps_8 (subW_cons mwX9_steps_7 (subW_cons mwX9_steps_6 (subW_cons mwX9_steps_5 (subW_cons mwX9_steps_4 (subW_cons mwX9_steps_3 (subW_cons mwX9_steps_2 (subW_cons mwX9_steps_1 subW_nil))))))))))))))))))))))))
theorem mwX9_steps_25 : (.fieldLink RX9 81 "BuoyTenderModel" "mostWind" "I" : Cond) ∈ wsX9_steps := (sbX9_steps_X9_steps_r2 _ (memL 8 rfl))
theorem mwX9_steps_26 : (.fieldLink RX9 74 "BuoyTenderModel" "wind" "[I" : Cond) ∈ wsX9_steps := (sbX9_steps_X9_steps_r2 _ (memL 7 rfl))
theorem mwX9_steps_27 : (.fieldLink RX9 152 "BuoyTenderModel" "draught" "I" : Cond) ∈ wsX9_steps := (sbX9_steps_X9_steps_r2 _ (memL 6 rfl))
set_option maxRecDepth 20000 in
theorem sbX9_steps_X9_does_r2 : SubW wsX9_does_r2 wsX9_steps := (subW_cons mwX9_steps_27 (subW_cons mwX9_steps_26 (subW_cons mwX9_steps_25 subW_nil)))
set_option maxRecDepth 20000 in
theorem sbX9_steps_X90 : SubW wsX90 wsX9_steps := fun _ h => (List.mem_cons_of_mem _ (List.mem_append_right _ h))
set_option maxRecDepth 20000 in
theorem sbX9_steps_X9_does : SubW wsX9_does wsX9_steps := (subW_cons mwX9_steps_0 (subW_app (subW_app sbX9_steps_X9_does_r1 sbX9_steps_X9_does_r2) sbX9_steps_X90))
set_option maxRecDepth 20000 in
theorem gw_wsX9_steps_r1 : goodW wsX9_steps_r1 := (goodW_of (by decide +kernel))
set_option maxRecDepth 20000 in
theorem gw_wsX9_steps_r2 : goodW wsX9_steps_r2 := (goodW_of (by decide +kernel))
set_option maxRecDepth 20000 in
theorem gw_wsX9_steps : goodW wsX9_steps := (goodW_cons rfl (goodW_app (goodW_app gw_wsX9_steps_r1 gw_wsX9_steps_r2) gw_wsX90))
theorem ggX9_steps_X9_does : GoodIn wsX9_steps wsX9_does := goodIn_W gw_wsX9_steps sbX9_steps_X9_does
theorem mwX9_steps_28 : (.selects RX9 yX9_does yX9_does : Cond) ∈ wsX9_steps := (sbX9_steps_X9_steps_r1 _ (memL 4 rfl))
theorem mwX9_steps_29 : (.instanceMethod yX9_does : Cond) ∈ wsX9_steps := (sbX9_steps_X9_steps_r1 _ (memL 3 rfl))
theorem mwX9_steps_30 : (.methodLink RX9 185 yX9_does : Cond) ∈ wsX9_steps := (sbX9_steps_X9_steps_r1 _ (memL 2 rfl))
theorem gX9_steps_X9_does : GoodIn wsX9_steps (wsV RX9 185 RX9 yX9_does wsX9_does) := goodIn_W gw_wsX9_steps (subW_app (subW_cons mwX9_steps_30 (subW_cons mwX9_steps_29 (subW_cons mwX9_steps_28 (subW_cons mwX9_steps_16 subW_nil)))) sbX9_steps_X9_does)
theorem dX9_steps_0 : decode cX9_steps 0 = .ok (.iconst 0, 1) := by decide +kernel
theorem dX9_steps_1 : decode cX9_steps 1 = .ok (.istore 4, 2) := by decide +kernel
theorem dX9_steps_3 : decode cX9_steps 3 = .ok (.iload 4, 2) := by decide +kernel
theorem dX9_steps_5 : decode cX9_steps 5 = .ok (.aload_n 0, 1) := by decide +kernel
theorem dX9_steps_6 : decode cX9_steps 6 = .ok (.getfield 109, 3) := by decide +kernel
theorem dX9_steps_9 : decode cX9_steps 9 = .ok (.if_icmp .ge 70, 3) := by decide +kernel
theorem dX9_steps_12 : decode cX9_steps 12 = .ok (.aload_n 0, 1) := by decide +kernel
theorem dX9_steps_13 : decode cX9_steps 13 = .ok (.iload_n 1, 1) := by decide +kernel
theorem dX9_steps_14 : decode cX9_steps 14 = .ok (.iload_n 2, 1) := by decide +kernel
theorem dX9_steps_15 : decode cX9_steps 15 = .ok (.iload_n 3, 1) := by decide +kernel
theorem dX9_steps_16 : decode cX9_steps 16 = .ok (.iload 4, 2) := by decide +kernel
theorem dX9_steps_18 : decode cX9_steps 18 = .ok (.invokevirtual 185, 3) := by decide +kernel
theorem dX9_steps_21 : decode cX9_steps 21 = .ok (.istore 5, 2) := by decide +kernel
theorem dX9_steps_23 : decode cX9_steps 23 = .ok (.bipush 10, 2) := by decide +kernel
theorem dX9_steps_25 : decode cX9_steps 25 = .ok (.iload_n 1, 1) := by decide +kernel
theorem dX9_steps_26 : decode cX9_steps 26 = .ok (.iconst 1, 1) := by decide +kernel
theorem dX9_steps_27 : decode cX9_steps 27 = .ok (.iload 4, 2) := by decide +kernel
theorem dX9_steps_29 : decode cX9_steps 29 = .ok (.ishl, 1) := by decide +kernel
theorem dX9_steps_30 : decode cX9_steps 30 = .ok (.ior, 1) := by decide +kernel
theorem dX9_steps_31 : decode cX9_steps 31 = .ok (.imul, 1) := by decide +kernel
theorem dX9_steps_32 : decode cX9_steps 32 = .ok (.iload 4, 2) := by decide +kernel
theorem dX9_steps_34 : decode cX9_steps 34 = .ok (.iadd, 1) := by decide +kernel
theorem dX9_steps_35 : decode cX9_steps 35 = .ok (.istore 6, 2) := by decide +kernel
theorem dX9_steps_37 : decode cX9_steps 37 = .ok (.iload 5, 2) := by decide +kernel
theorem dX9_steps_39 : decode cX9_steps 39 = .ok (.ifCond .lt 34, 3) := by decide +kernel
theorem dX9_steps_42 : decode cX9_steps 42 = .ok (.aload_n 0, 1) := by decide +kernel
theorem dX9_steps_43 : decode cX9_steps 43 = .ok (.getfield 90, 3) := by decide +kernel
theorem dX9_steps_46 : decode cX9_steps 46 = .ok (.iload 6, 2) := by decide +kernel
theorem dX9_steps_48 : decode cX9_steps 48 = .ok (.iaload, 1) := by decide +kernel
theorem dX9_steps_49 : decode cX9_steps 49 = .ok (.ifCond .lt 15, 3) := by decide +kernel
theorem dX9_steps_52 : decode cX9_steps 52 = .ok (.iload 5, 2) := by decide +kernel
theorem dX9_steps_54 : decode cX9_steps 54 = .ok (.aload_n 0, 1) := by decide +kernel
theorem dX9_steps_55 : decode cX9_steps 55 = .ok (.getfield 90, 3) := by decide +kernel
theorem dX9_steps_58 : decode cX9_steps 58 = .ok (.iload 6, 2) := by decide +kernel
theorem dX9_steps_60 : decode cX9_steps 60 = .ok (.iaload, 1) := by decide +kernel
theorem dX9_steps_61 : decode cX9_steps 61 = .ok (.if_icmp .ge 12, 3) := by decide +kernel
theorem dX9_steps_64 : decode cX9_steps 64 = .ok (.aload_n 0, 1) := by decide +kernel
theorem dX9_steps_65 : decode cX9_steps 65 = .ok (.getfield 90, 3) := by decide +kernel
theorem dX9_steps_68 : decode cX9_steps 68 = .ok (.iload 6, 2) := by decide +kernel
theorem dX9_steps_70 : decode cX9_steps 70 = .ok (.iload 5, 2) := by decide +kernel
theorem dX9_steps_72 : decode cX9_steps 72 = .ok (.iastore, 1) := by decide +kernel
theorem dX9_steps_73 : decode cX9_steps 73 = .ok (.iinc 4 1, 3) := by decide +kernel
theorem dX9_steps_76 : decode cX9_steps 76 = .ok (.goto (-73), 3) := by decide +kernel
theorem dX9_steps_79 : decode cX9_steps 79 = .ok (.return_, 1) := by decide +kernel
theorem sbX9_does_X9_does_r1 : SubW wsX9_does_r1 wsX9_does := fun _ h => (List.mem_cons_of_mem _ (List.mem_append_left _ (List.mem_append_left _ h)))
theorem sbX9_does_X9_does_r2 : SubW wsX9_does_r2 wsX9_does := fun _ h => (List.mem_cons_of_mem _ (List.mem_append_left _ (List.mem_append_right _ h)))
theorem mwX9_does_0 : (.code yX9_way cX9_way 5 (some .int) : Cond) ∈ wsX9_does := (sbX9_does_X9_does_r1 _ (memL 9 rfl))
theorem mwX9_does_1 : (.code yX9_greater cX9_greater 2 (some .int) : Cond) ∈ wsX9_does := (sbX9_does_X9_does_r1 _ (memL 17 rfl))
theorem mwX9_does_2 : (.initialized RX9 : Cond) ∈ wsX9_does := (sbX9_does_X9_does_r1 _ (memL 8 rfl))
theorem mwX9_does_3 : (.static yX9_greater : Cond) ∈ wsX9_does := (sbX9_does_X9_does_r1 _ (memL 16 rfl))
theorem mwX9_does_4 : (.methodLink RX9 167 yX9_greater : Cond) ∈ wsX9_does := (sbX9_does_X9_does_r1 _ (memL 15 rfl))
theorem mwX9_does_5 : (.fieldLink RX9 77 "BuoyTenderModel" "pace" "I" : Cond) ∈ wsX9_does := (sbX9_does_X9_does_r1 _ (memL 14 rfl))
theorem mwX9_does_6 : (.fieldLink RX9 16 "BuoyTenderModel" "stationY" "[I" : Cond) ∈ wsX9_does := (sbX9_does_X9_does_r1 _ (memL 13 rfl))
theorem mwX9_does_7 : (.fieldLink RX9 161 "BuoyTenderModel" "shipY" "I" : Cond) ∈ wsX9_does := (sbX9_does_X9_does_r1 _ (memL 12 rfl))
theorem mwX9_does_8 : (.fieldLink RX9 13 "BuoyTenderModel" "stationX" "[I" : Cond) ∈ wsX9_does := (sbX9_does_X9_does_r1 _ (memL 11 rfl))
theorem mwX9_does_9 : (.fieldLink RX9 158 "BuoyTenderModel" "shipX" "I" : Cond) ∈ wsX9_does := (sbX9_does_X9_does_r1 _ (memL 10 rfl))
set_option maxRecDepth 20000 in
theorem sbX9_does_X90 : SubW wsX90 wsX9_does := fun _ h => (List.mem_cons_of_mem _ (List.mem_append_right _ h))
set_option maxRecDepth 20000 in
theorem sbX9_does_X9_way : SubW wsX9_way wsX9_does := (subW_cons mwX9_does_0 (subW_app (subW_cons mwX9_does_9 (subW_cons mwX9_does_8 (subW_cons mwX9_does_7 (subW_cons mwX9_does_6 (subW_cons mwX9_does_5 (subW_cons mwX9_does_4 (subW_cons mwX9_does_3 (subW_cons mwX9_does_2 (subW_cons mwX9_does_1 subW_nil))))))))) sbX9_does_X90))
set_option maxRecDepth 20000 in
theorem gw_wsX9_does_r1 : goodW wsX9_does_r1 := (goodW_of (by decide +kernel))
set_option maxRecDepth 20000 in
theorem gw_wsX9_does_r2 : goodW wsX9_does_r2 := (goodW_of (by decide +kernel))
set_option maxRecDepth 20000 in
theorem gw_wsX9_does : goodW wsX9_does := (goodW_cons rfl (goodW_app (goodW_app gw_wsX9_does_r1 gw_wsX9_does_r2) gw_wsX90))
theorem ggX9_does_X9_way : GoodIn wsX9_does wsX9_way := goodIn_W gw_wsX9_does sbX9_does_X9_way
theorem mwX9_does_10 : (.selects RX9 yX9_way yX9_way : Cond) ∈ wsX9_does := (sbX9_does_X9_does_r1 _ (memL 7 rfl))
theorem mwX9_does_11 : (.instanceMethod yX9_way : Cond) ∈ wsX9_does := (sbX9_does_X9_does_r1 _ (memL 6 rfl))
theorem mwX9_does_12 : (.methodLink RX9 179 yX9_way : Cond) ∈ wsX9_does := (sbX9_does_X9_does_r1 _ (memL 5 rfl))
theorem gX9_does_X9_way : GoodIn wsX9_does (wsV RX9 179 RX9 yX9_way wsX9_way) := goodIn_W gw_wsX9_does (subW_app (subW_cons mwX9_does_12 (subW_cons mwX9_does_11 (subW_cons mwX9_does_10 (subW_cons mwX9_does_2 subW_nil)))) sbX9_does_X9_way)
theorem mwX9_does_13 : (.code yX9_begins cX9_begins 5 (some .int) : Cond) ∈ wsX9_does := (sbX9_does_X9_does_r1 _ (memL 21 rfl))
theorem mwX9_does_14 : (.fieldLink RX9 81 "BuoyTenderModel" "mostWind" "I" : Cond) ∈ wsX9_does := (sbX9_does_X9_does_r2 _ (memL 2 rfl))
theorem mwX9_does_15 : (.fieldLink RX9 74 "BuoyTenderModel" "wind" "[I" : Cond) ∈ wsX9_does := (sbX9_does_X9_does_r2 _ (memL 1 rfl))
theorem mwX9_does_16 : (.fieldLink RX9 152 "BuoyTenderModel" "draught" "I" : Cond) ∈ wsX9_does := (sbX9_does_X9_does_r2 _ (memL 0 rfl))
theorem mwX9_does_17 : (.fieldLink RX9 71 "BuoyTenderModel" "tide" "[I" : Cond) ∈ wsX9_does := (sbX9_does_X9_does_r1 _ (memL 23 rfl))
theorem mwX9_does_18 : (.fieldLink RX9 7 "BuoyTenderModel" "depth" "[I" : Cond) ∈ wsX9_does := (sbX9_does_X9_does_r1 _ (memL 22 rfl))
set_option maxRecDepth 20000 in
theorem sbX9_does_X9_begins : SubW wsX9_begins wsX9_does := (subW_cons mwX9_does_13 (subW_app (subW_cons mwX9_does_18 (subW_cons mwX9_does_8 (subW_cons mwX9_does_6 (subW_cons mwX9_does_17 (subW_cons mwX9_does_16 (subW_cons mwX9_does_15 (subW_cons mwX9_does_14 subW_nil))))))) sbX9_does_X90))
theorem ggX9_does_X9_begins : GoodIn wsX9_does wsX9_begins := goodIn_W gw_wsX9_does sbX9_does_X9_begins
theorem mwX9_does_19 : (.selects RX9 yX9_begins yX9_begins : Cond) ∈ wsX9_does := (sbX9_does_X9_does_r1 _ (memL 20 rfl))
theorem mwX9_does_20 : (.instanceMethod yX9_begins : Cond) ∈ wsX9_does := (sbX9_does_X9_does_r1 _ (memL 19 rfl))
theorem mwX9_does_21 : (.methodLink RX9 189 yX9_begins : Cond) ∈ wsX9_does := (sbX9_does_X9_does_r1 _ (memL 18 rfl))
theorem gX9_does_X9_begins : GoodIn wsX9_does (wsV RX9 189 RX9 yX9_begins wsX9_begins) := goodIn_W gw_wsX9_does (subW_app (subW_cons mwX9_does_21 (subW_cons mwX9_does_20 (subW_cons mwX9_does_19 (subW_cons mwX9_does_2 subW_nil)))) sbX9_does_X9_begins)
theorem dX9_does_0 : decode cX9_does 0 = .ok (.aload_n 0, 1) := by decide +kernel
theorem dX9_does_1 : decode cX9_does 1 = .ok (.getfield 68, 3) := by decide +kernel
theorem dX9_does_4 : decode cX9_does 4 = .ok (.iload 4, 2) := by decide +kernel
theorem dX9_does_6 : decode cX9_does 6 = .ok (.iaload, 1) := by decide +kernel
theorem dX9_does_7 : decode cX9_does 7 = .ok (.ifCond .eq 31, 3) := by decide +kernel
theorem dX9_does_10 : decode cX9_does 10 = .ok (.iload_n 1, 1) := by decide +kernel
theorem dX9_does_11 : decode cX9_does 11 = .ok (.iload 4, 2) := by decide +kernel
theorem dX9_does_13 : decode cX9_does 13 = .ok (.ishr, 1) := by decide +kernel
theorem dX9_does_14 : decode cX9_does 14 = .ok (.iconst 1, 1) := by decide +kernel
theorem dX9_does_15 : decode cX9_does 15 = .ok (.iand, 1) := by decide +kernel
theorem dX9_does_16 : decode cX9_does 16 = .ok (.iconst 1, 1) := by decide +kernel
theorem dX9_does_17 : decode cX9_does 17 = .ok (.if_icmp .eq 21, 3) := by decide +kernel
theorem dX9_does_20 : decode cX9_does 20 = .ok (.aload_n 0, 1) := by decide +kernel
theorem dX9_does_21 : decode cX9_does 21 = .ok (.getfield 99, 3) := by decide +kernel
theorem dX9_does_24 : decode cX9_does 24 = .ok (.iload_n 1, 1) := by decide +kernel
theorem dX9_does_25 : decode cX9_does 25 = .ok (.iconst 1, 1) := by decide +kernel
theorem dX9_does_26 : decode cX9_does 26 = .ok (.iload 4, 2) := by decide +kernel
theorem dX9_does_28 : decode cX9_does 28 = .ok (.ishl, 1) := by decide +kernel
theorem dX9_does_29 : decode cX9_does 29 = .ok (.ior, 1) := by decide +kernel
theorem dX9_does_30 : decode cX9_does 30 = .ok (.iaload, 1) := by decide +kernel
theorem dX9_does_31 : decode cX9_does 31 = .ok (.aload_n 0, 1) := by decide +kernel
theorem dX9_does_32 : decode cX9_does 32 = .ok (.getfield 155, 3) := by decide +kernel
theorem dX9_does_35 : decode cX9_does 35 = .ok (.if_icmp .le 5, 3) := by decide +kernel
theorem dX9_does_38 : decode cX9_does 38 = .ok (.iconst (-1), 1) := by decide +kernel
theorem dX9_does_39 : decode cX9_does 39 = .ok (.ireturn, 1) := by decide +kernel
theorem dX9_does_40 : decode cX9_does 40 = .ok (.aload_n 0, 1) := by decide +kernel
theorem dX9_does_41 : decode cX9_does 41 = .ok (.iload 4, 2) := by decide +kernel
theorem dX9_does_43 : decode cX9_does 43 = .ok (.iload_n 3, 1) := by decide +kernel
theorem dX9_does_44 : decode cX9_does 44 = .ok (.aload_n 0, 1) := by decide +kernel
theorem dX9_does_45 : decode cX9_does 45 = .ok (.iload_n 2, 1) := by decide +kernel
theorem dX9_does_46 : decode cX9_does 46 = .ok (.iload 4, 2) := by decide +kernel
theorem dX9_does_48 : decode cX9_does 48 = .ok (.invokevirtual 179, 3) := by decide +kernel
theorem dX9_does_51 : decode cX9_does 51 = .ok (.iadd, 1) := by decide +kernel
theorem dX9_does_52 : decode cX9_does 52 = .ok (.invokevirtual 189, 3) := by decide +kernel
theorem dX9_does_55 : decode cX9_does 55 = .ok (.istore 5, 2) := by decide +kernel
theorem dX9_does_57 : decode cX9_does 57 = .ok (.iload 5, 2) := by decide +kernel
theorem dX9_does_59 : decode cX9_does 59 = .ok (.ifCond .lt 20, 3) := by decide +kernel
theorem dX9_does_62 : decode cX9_does 62 = .ok (.iload 5, 2) := by decide +kernel
theorem dX9_does_64 : decode cX9_does 64 = .ok (.aload_n 0, 1) := by decide +kernel
theorem dX9_does_65 : decode cX9_does 65 = .ok (.getfield 62, 3) := by decide +kernel
theorem dX9_does_68 : decode cX9_does 68 = .ok (.iload 4, 2) := by decide +kernel
theorem dX9_does_70 : decode cX9_does 70 = .ok (.iaload, 1) := by decide +kernel
theorem dX9_does_71 : decode cX9_does 71 = .ok (.iadd, 1) := by decide +kernel
theorem dX9_does_72 : decode cX9_does 72 = .ok (.aload_n 0, 1) := by decide +kernel
theorem dX9_does_73 : decode cX9_does 73 = .ok (.getfield 84, 3) := by decide +kernel
theorem dX9_does_76 : decode cX9_does 76 = .ok (.if_icmp .le 7, 3) := by decide +kernel
theorem dX9_does_79 : decode cX9_does 79 = .ok (.iconst (-1), 1) := by decide +kernel
theorem dX9_does_80 : decode cX9_does 80 = .ok (.goto 13, 3) := by decide +kernel
theorem dX9_does_83 : decode cX9_does 83 = .ok (.iload 5, 2) := by decide +kernel
theorem dX9_does_85 : decode cX9_does 85 = .ok (.aload_n 0, 1) := by decide +kernel
theorem dX9_does_86 : decode cX9_does 86 = .ok (.getfield 62, 3) := by decide +kernel
theorem dX9_does_89 : decode cX9_does 89 = .ok (.iload 4, 2) := by decide +kernel
theorem dX9_does_91 : decode cX9_does 91 = .ok (.iaload, 1) := by decide +kernel
theorem dX9_does_92 : decode cX9_does 92 = .ok (.iadd, 1) := by decide +kernel
theorem dX9_does_93 : decode cX9_does 93 = .ok (.ireturn, 1) := by decide +kernel
theorem sbX9_rounds_X9_rounds_r1 : SubW wsX9_rounds_r1 wsX9_rounds := fun _ h => (List.mem_cons_of_mem _ (List.mem_append_left _ (List.mem_append_left _ h)))
theorem sbX9_rounds_X9_rounds_r2 : SubW wsX9_rounds_r2 wsX9_rounds := fun _ h => (List.mem_cons_of_mem _ (List.mem_append_left _ (List.mem_append_right _ (List.mem_append_left _ h))))
theorem sbX9_rounds_X9_rounds_r3 : SubW wsX9_rounds_r3 wsX9_rounds := fun _ h => (List.mem_cons_of_mem _ (List.mem_append_left _ (List.mem_append_right _ (List.mem_append_right _ h))))
theorem mwX9_rounds_0 : (.code yX9_sums cX9_sums 3 none : Cond) ∈ wsX9_rounds := (sbX9_rounds_X9_rounds_r1 _ (memL 15 rfl))
theorem mwX9_rounds_1 : (.fieldLink RX9 68 "BuoyTenderModel" "weight" "[I" : Cond) ∈ wsX9_rounds := (sbX9_rounds_X9_rounds_r1 _ (memL 19 rfl))
theorem mwX9_rounds_2 : (.fieldLink RX9 65 "BuoyTenderModel" "load" "[I" : Cond) ∈ wsX9_rounds := (sbX9_rounds_X9_rounds_r1 _ (memL 18 rfl))
theorem mwX9_rounds_3 : (.fieldLink RX9 102 "BuoyTenderModel" "weightOf" "[I" : Cond) ∈ wsX9_rounds := (sbX9_rounds_X9_rounds_r1 _ (memL 7 rfl))
theorem mwX9_rounds_4 : (.fieldLink RX9 99 "BuoyTenderModel" "loadOf" "[I" : Cond) ∈ wsX9_rounds := (sbX9_rounds_X9_rounds_r1 _ (memL 17 rfl))
theorem mwX9_rounds_5 : (.fieldLink RX9 109 "BuoyTenderModel" "marks" "I" : Cond) ∈ wsX9_rounds := (sbX9_rounds_X9_rounds_r1 _ (memL 16 rfl))
set_option maxRecDepth 20000 in
theorem sbX9_rounds_X90 : SubW wsX90 wsX9_rounds := fun _ h => (List.mem_cons_of_mem _ (List.mem_append_right _ h))
set_option maxRecDepth 20000 in
theorem sbX9_rounds_X9_sums : SubW wsX9_sums wsX9_rounds := (subW_cons mwX9_rounds_0 (subW_app (subW_cons mwX9_rounds_5 (subW_cons mwX9_rounds_4 (subW_cons mwX9_rounds_3 (subW_cons mwX9_rounds_2 (subW_cons mwX9_rounds_1 subW_nil))))) sbX9_rounds_X90))
set_option maxRecDepth 20000 in
theorem gw_wsX9_rounds_r1 : goodW wsX9_rounds_r1 := (goodW_of (by decide +kernel))
set_option maxRecDepth 20000 in
theorem gw_wsX9_rounds_r2 : goodW wsX9_rounds_r2 := (goodW_of (by decide +kernel))
set_option maxRecDepth 20000 in
theorem gw_wsX9_rounds_r3 : goodW wsX9_rounds_r3 := (goodW_of (by decide +kernel))
set_option maxRecDepth 20000 in
theorem gw_wsX9_rounds : goodW wsX9_rounds := (goodW_cons rfl (goodW_app (goodW_app gw_wsX9_rounds_r1 (goodW_app gw_wsX9_rounds_r2 gw_wsX9_rounds_r3)) gw_wsX90))
theorem ggX9_rounds_X9_sums : GoodIn wsX9_rounds wsX9_sums := goodIn_W gw_wsX9_rounds sbX9_rounds_X9_sums
theorem mwX9_rounds_6 : (.initialized RX9 : Cond) ∈ wsX9_rounds := (sbX9_rounds_X9_rounds_r1 _ (memL 14 rfl))
theorem mwX9_rounds_7 : (.selects RX9 yX9_sums yX9_sums : Cond) ∈ wsX9_rounds := (sbX9_rounds_X9_rounds_r1 _ (memL 13 rfl))
theorem mwX9_rounds_8 : (.instanceMethod yX9_sums : Cond) ∈ wsX9_rounds := (sbX9_rounds_X9_rounds_r1 _ (memL 12 rfl))
theorem mwX9_rounds_9 : (.methodLink RX9 192 yX9_sums : Cond) ∈ wsX9_rounds := (sbX9_rounds_X9_rounds_r1 _ (memL 11 rfl))
theorem gX9_rounds_X9_sums : GoodIn wsX9_rounds (wsV RX9 192 RX9 yX9_sums wsX9_sums) := goodIn_W gw_wsX9_rounds (subW_app (subW_cons mwX9_rounds_9 (subW_cons mwX9_rounds_8 (subW_cons mwX9_rounds_7 (subW_cons mwX9_rounds_6 subW_nil)))) sbX9_rounds_X9_sums)
theorem mwX9_rounds_10 : (.code yX9_goesOn cX9_goesOn 8 none : Cond) ∈ wsX9_rounds := (sbX9_rounds_X9_rounds_r1 _ (memL 23 rfl))
theorem mwX9_rounds_11 : (.methodLink RX9 177 yX9_steps : Cond) ∈ wsX9_rounds := (sbX9_rounds_X9_rounds_r2 _ (memL 18 rfl))
theorem mwX9_rounds_12 : (.code yX9_greater cX9_greater 2 (some .int) : Cond) ∈ wsX9_rounds := (sbX9_rounds_X9_rounds_r2 _ (memL 17 rfl))
theorem mwX9_rounds_13 : (.static yX9_greater : Cond) ∈ wsX9_rounds := (sbX9_rounds_X9_rounds_r2 _ (memL 16 rfl))
theorem mwX9_rounds_14 : (.methodLink RX9 167 yX9_greater : Cond) ∈ wsX9_rounds := (sbX9_rounds_X9_rounds_r2 _ (memL 15 rfl))
theorem mwX9_rounds_15 : (.fieldLink RX9 77 "BuoyTenderModel" "pace" "I" : Cond) ∈ wsX9_rounds := (sbX9_rounds_X9_rounds_r2 _ (memL 14 rfl))
theorem mwX9_rounds_16 : (.fieldLink RX9 16 "BuoyTenderModel" "stationY" "[I" : Cond) ∈ wsX9_rounds := (sbX9_rounds_X9_rounds_r2 _ (memL 13 rfl))
theorem mwX9_rounds_17 : (.fieldLink RX9 161 "BuoyTenderModel" "shipY" "I" : Cond) ∈ wsX9_rounds := (sbX9_rounds_X9_rounds_r2 _ (memL 12 rfl))
theorem mwX9_rounds_18 : (.fieldLink RX9 13 "BuoyTenderModel" "stationX" "[I" : Cond) ∈ wsX9_rounds := (sbX9_rounds_X9_rounds_r2 _ (memL 11 rfl))
theorem mwX9_rounds_19 : (.fieldLink RX9 158 "BuoyTenderModel" "shipX" "I" : Cond) ∈ wsX9_rounds := (sbX9_rounds_X9_rounds_r2 _ (memL 10 rfl))
theorem mwX9_rounds_20 : (.code yX9_way cX9_way 5 (some .int) : Cond) ∈ wsX9_rounds := (sbX9_rounds_X9_rounds_r2 _ (memL 9 rfl))
theorem mwX9_rounds_21 : (.selects RX9 yX9_way yX9_way : Cond) ∈ wsX9_rounds := (sbX9_rounds_X9_rounds_r2 _ (memL 8 rfl))
theorem mwX9_rounds_22 : (.instanceMethod yX9_way : Cond) ∈ wsX9_rounds := (sbX9_rounds_X9_rounds_r2 _ (memL 7 rfl))
theorem mwX9_rounds_23 : (.methodLink RX9 179 yX9_way : Cond) ∈ wsX9_rounds := (sbX9_rounds_X9_rounds_r2 _ (memL 6 rfl))
theorem mwX9_rounds_24 : (.fieldLink RX9 182 "BuoyTenderModel" "foundBack" "I" : Cond) ∈ wsX9_rounds := (sbX9_rounds_X9_rounds_r1 _ (memL 5 rfl))
theorem mwX9_rounds_25 : (.fieldLink RX9 84 "BuoyTenderModel" "last" "I" : Cond) ∈ wsX9_rounds := (sbX9_rounds_X9_rounds_r2 _ (memL 5 rfl))
theorem mwX9_rounds_26 : (.code yX9_back cX9_back 6 none : Cond) ∈ wsX9_rounds := (sbX9_rounds_X9_rounds_r2 _ (memL 4 rfl))
theorem mwX9_rounds_27 : (.selects RX9 yX9_back yX9_back : Cond) ∈ wsX9_rounds := (sbX9_rounds_X9_rounds_r2 _ (memL 3 rfl))
theorem mwX9_rounds_28 : (.instanceMethod yX9_back : Cond) ∈ wsX9_rounds := (sbX9_rounds_X9_rounds_r2 _ (memL 2 rfl))
theorem mwX9_rounds_29 : (.methodLink RX9 173 yX9_back : Cond) ∈ wsX9_rounds := (sbX9_rounds_X9_rounds_r2 _ (memL 1 rfl))
theorem mwX9_rounds_30 : (.fieldLink RX9 170 "BuoyTenderModel" "foundWeight" "I" : Cond) ∈ wsX9_rounds := (sbX9_rounds_X9_rounds_r1 _ (memL 3 rfl))
theorem mwX9_rounds_31 : (.fieldLink RX9 90 "BuoyTenderModel" "earliest" "[I" : Cond) ∈ wsX9_rounds := (sbX9_rounds_X9_rounds_r2 _ (memL 0 rfl))
set_option maxRecDepth 20000 in
theorem sbX9_rounds_X9_goesOn_r1 : SubW wsX9_goesOn_r1 wsX9_rounds := (subW_cons mwX9_rounds_5 (subW_cons mwX9_rounds_31 (subW_cons mwX9_rounds_30 (subW_cons mwX9_rounds_29 (subW_cons mwX9_rounds_28 (subW_cons mwX9_rounds_27 (subW_cons mwX9_rounds_6 (subW_cons mwX9_rounds_26 (subW_cons mwX9_rounds_3 (subW_cons mwX9_rounds_25 (subW_cons mwX9_rounds_24 (subW_cons mwX9_rounds_23 (subW_cons mwX9_rounds_22 (subW_cons mwX9_rounds_21 (subW_cons mwX9_rounds_20 (subW_cons mwX9_rounds_19 (subW_cons mwX9_rounds_18 (subW_cons mwX9_rounds_17 (subW_cons mwX9_rounds_16 (subW_cons mwX9_rounds_15 (subW_cons mwX9_rounds_14 (subW_cons mwX9_rounds_13 (subW_cons mwX9_rounds_12 (subW_cons mwX9_rounds_11 subW_nil))))))))))))))))))))))))
theorem mwX9_rounds_32 : (.fieldLink RX9 81 "BuoyTenderModel" "mostWind" "I" : Cond) ∈ wsX9_rounds := (sbX9_rounds_X9_rounds_r3 _ (memL 11 rfl))
theorem mwX9_rounds_33 : (.fieldLink RX9 74 "BuoyTenderModel" "wind" "[I" : Cond) ∈ wsX9_rounds := (sbX9_rounds_X9_rounds_r3 _ (memL 10 rfl))
theorem mwX9_rounds_34 : (.fieldLink RX9 152 "BuoyTenderModel" "draught" "I" : Cond) ∈ wsX9_rounds := (sbX9_rounds_X9_rounds_r3 _ (memL 9 rfl))
theorem mwX9_rounds_35 : (.fieldLink RX9 71 "BuoyTenderModel" "tide" "[I" : Cond) ∈ wsX9_rounds := (sbX9_rounds_X9_rounds_r3 _ (memL 8 rfl))
theorem mwX9_rounds_36 : (.fieldLink RX9 7 "BuoyTenderModel" "depth" "[I" : Cond) ∈ wsX9_rounds := (sbX9_rounds_X9_rounds_r3 _ (memL 7 rfl))
theorem mwX9_rounds_37 : (.code yX9_begins cX9_begins 5 (some .int) : Cond) ∈ wsX9_rounds := (sbX9_rounds_X9_rounds_r3 _ (memL 6 rfl))
theorem mwX9_rounds_38 : (.selects RX9 yX9_begins yX9_begins : Cond) ∈ wsX9_rounds := (sbX9_rounds_X9_rounds_r3 _ (memL 5 rfl))
theorem mwX9_rounds_39 : (.instanceMethod yX9_begins : Cond) ∈ wsX9_rounds := (sbX9_rounds_X9_rounds_r3 _ (memL 4 rfl))
theorem mwX9_rounds_40 : (.methodLink RX9 189 yX9_begins : Cond) ∈ wsX9_rounds := (sbX9_rounds_X9_rounds_r3 _ (memL 3 rfl))
theorem mwX9_rounds_41 : (.fieldLink RX9 62 "BuoyTenderModel" "minutes" "[I" : Cond) ∈ wsX9_rounds := (sbX9_rounds_X9_rounds_r1 _ (memL 10 rfl))
theorem mwX9_rounds_42 : (.fieldLink RX9 155 "BuoyTenderModel" "carries" "I" : Cond) ∈ wsX9_rounds := (sbX9_rounds_X9_rounds_r3 _ (memL 2 rfl))
theorem mwX9_rounds_43 : (.code yX9_does cX9_does 6 (some .int) : Cond) ∈ wsX9_rounds := (sbX9_rounds_X9_rounds_r3 _ (memL 1 rfl))
theorem mwX9_rounds_44 : (.selects RX9 yX9_does yX9_does : Cond) ∈ wsX9_rounds := (sbX9_rounds_X9_rounds_r3 _ (memL 0 rfl))
theorem mwX9_rounds_45 : (.instanceMethod yX9_does : Cond) ∈ wsX9_rounds := (sbX9_rounds_X9_rounds_r2 _ (memL 23 rfl))
theorem mwX9_rounds_46 : (.methodLink RX9 185 yX9_does : Cond) ∈ wsX9_rounds := (sbX9_rounds_X9_rounds_r2 _ (memL 22 rfl))
theorem mwX9_rounds_47 : (.code yX9_steps cX9_steps 7 none : Cond) ∈ wsX9_rounds := (sbX9_rounds_X9_rounds_r2 _ (memL 21 rfl))
theorem mwX9_rounds_48 : (.selects RX9 yX9_steps yX9_steps : Cond) ∈ wsX9_rounds := (sbX9_rounds_X9_rounds_r2 _ (memL 20 rfl))
theorem mwX9_rounds_49 : (.instanceMethod yX9_steps : Cond) ∈ wsX9_rounds := (sbX9_rounds_X9_rounds_r2 _ (memL 19 rfl))
set_option maxRecDepth 20000 in
theorem sbX9_rounds_X9_goesOn_r2 : SubW wsX9_goesOn_r2 wsX9_rounds := (subW_cons mwX9_rounds_49 (subW_cons mwX9_rounds_48 (subW_cons mwX9_rounds_47 (subW_cons mwX9_rounds_46 (subW_cons mwX9_rounds_45 (subW_cons mwX9_rounds_44 (subW_cons mwX9_rounds_43 (subW_cons mwX9_rounds_1 (subW_cons mwX9_rounds_4 (subW_cons mwX9_rounds_42 (subW_cons mwX9_rounds_41 (subW_cons mwX9_rounds_40 (subW_cons mwX9_rounds_39 (subW_cons mwX9_rounds_38 (subW_cons mwX9_rounds_37 (subW_cons mwX9_rounds_36 (subW_cons mwX9_rounds_35 (subW_cons mwX9_rounds_34 (subW_cons mwX9_rounds_33 (subW_cons mwX9_rounds_32 subW_nil))))))))))))))))))))
set_option maxRecDepth 20000 in
theorem sbX9_rounds_X9_goesOn : SubW wsX9_goesOn wsX9_rounds := (subW_cons mwX9_rounds_10 (subW_app (subW_app sbX9_rounds_X9_goesOn_r1 sbX9_rounds_X9_goesOn_r2) sbX9_rounds_X90))
theorem ggX9_rounds_X9_goesOn : GoodIn wsX9_rounds wsX9_goesOn := goodIn_W gw_wsX9_rounds sbX9_rounds_X9_goesOn
theorem mwX9_rounds_50 : (.selects RX9 yX9_goesOn yX9_goesOn : Cond) ∈ wsX9_rounds := (sbX9_rounds_X9_rounds_r1 _ (memL 22 rfl))
theorem mwX9_rounds_51 : (.instanceMethod yX9_goesOn : Cond) ∈ wsX9_rounds := (sbX9_rounds_X9_rounds_r1 _ (memL 21 rfl))
theorem mwX9_rounds_52 : (.methodLink RX9 198 yX9_goesOn : Cond) ∈ wsX9_rounds := (sbX9_rounds_X9_rounds_r1 _ (memL 20 rfl))
theorem gX9_rounds_X9_goesOn : GoodIn wsX9_rounds (wsV RX9 198 RX9 yX9_goesOn wsX9_goesOn) := goodIn_W gw_wsX9_rounds (subW_app (subW_cons mwX9_rounds_52 (subW_cons mwX9_rounds_51 (subW_cons mwX9_rounds_50 (subW_cons mwX9_rounds_6 subW_nil)))) sbX9_rounds_X9_goesOn)
set_option maxRecDepth 20000 in
theorem sbX9_rounds_X9_does_r1 : SubW wsX9_does_r1 wsX9_rounds := (subW_cons mwX9_rounds_1 (subW_cons mwX9_rounds_4 (subW_cons mwX9_rounds_42 (subW_cons mwX9_rounds_41 (subW_cons mwX9_rounds_25 (subW_cons mwX9_rounds_23 (subW_cons mwX9_rounds_22 (subW_cons mwX9_rounds_21 (subW_cons mwX9_rounds_6 (subW_cons mwX9_rounds_20 (subW_cons mwX9_rounds_19 (subW_cons mwX9_rounds_18 (subW_cons mwX9_rounds_17 (subW_cons mwX9_rounds_16 (subW_cons mwX9_rounds_15 (subW_cons mwX9_rounds_14 (subW_cons mwX9_rounds_13 (subW_cons mwX9_rounds_12 (subW_cons mwX9_rounds_40 (subW_cons mwX9_rounds_39 (subW_cons mwX9_rounds_38 (subW_cons mwX9_rounds_37 (subW_cons mwX9_rounds_36 (subW_cons mwX9_rounds_35 subW_nil))))))))))))))))))))))))
set_option maxRecDepth 20000 in
theorem sbX9_rounds_X9_does_r2 : SubW wsX9_does_r2 wsX9_rounds := (subW_cons mwX9_rounds_34 (subW_cons mwX9_rounds_33 (subW_cons mwX9_rounds_32 subW_nil)))
set_option maxRecDepth 20000 in
theorem sbX9_rounds_X9_does : SubW wsX9_does wsX9_rounds := (subW_cons mwX9_rounds_43 (subW_app (subW_app sbX9_rounds_X9_does_r1 sbX9_rounds_X9_does_r2) sbX9_rounds_X90))
theorem ggX9_rounds_X9_does : GoodIn wsX9_rounds wsX9_does := goodIn_W gw_wsX9_rounds sbX9_rounds_X9_does
theorem gX9_rounds_X9_does : GoodIn wsX9_rounds (wsV RX9 185 RX9 yX9_does wsX9_does) := goodIn_W gw_wsX9_rounds (subW_app (subW_cons mwX9_rounds_46 (subW_cons mwX9_rounds_45 (subW_cons mwX9_rounds_44 (subW_cons mwX9_rounds_6 subW_nil)))) sbX9_rounds_X9_does)
set_option maxRecDepth 20000 in
theorem sbX9_rounds_X9_way : SubW wsX9_way wsX9_rounds := (subW_cons mwX9_rounds_20 (subW_app (subW_cons mwX9_rounds_19 (subW_cons mwX9_rounds_18 (subW_cons mwX9_rounds_17 (subW_cons mwX9_rounds_16 (subW_cons mwX9_rounds_15 (subW_cons mwX9_rounds_14 (subW_cons mwX9_rounds_13 (subW_cons mwX9_rounds_6 (subW_cons mwX9_rounds_12 subW_nil))))))))) sbX9_rounds_X90))
theorem ggX9_rounds_X9_way : GoodIn wsX9_rounds wsX9_way := goodIn_W gw_wsX9_rounds sbX9_rounds_X9_way
theorem gX9_rounds_X9_way : GoodIn wsX9_rounds (wsV RX9 179 RX9 yX9_way wsX9_way) := goodIn_W gw_wsX9_rounds (subW_app (subW_cons mwX9_rounds_23 (subW_cons mwX9_rounds_22 (subW_cons mwX9_rounds_21 (subW_cons mwX9_rounds_6 subW_nil)))) sbX9_rounds_X9_way)
set_option maxRecDepth 20000 in
theorem sbX9_rounds_X9_begins : SubW wsX9_begins wsX9_rounds := (subW_cons mwX9_rounds_37 (subW_app (subW_cons mwX9_rounds_36 (subW_cons mwX9_rounds_18 (subW_cons mwX9_rounds_16 (subW_cons mwX9_rounds_35 (subW_cons mwX9_rounds_34 (subW_cons mwX9_rounds_33 (subW_cons mwX9_rounds_32 subW_nil))))))) sbX9_rounds_X90))
theorem ggX9_rounds_X9_begins : GoodIn wsX9_rounds wsX9_begins := goodIn_W gw_wsX9_rounds sbX9_rounds_X9_begins
theorem gX9_rounds_X9_begins : GoodIn wsX9_rounds (wsV RX9 189 RX9 yX9_begins wsX9_begins) := goodIn_W gw_wsX9_rounds (subW_app (subW_cons mwX9_rounds_40 (subW_cons mwX9_rounds_39 (subW_cons mwX9_rounds_38 (subW_cons mwX9_rounds_6 subW_nil)))) sbX9_rounds_X9_begins)
theorem dX9_rounds_0 : decode cX9_rounds 0 = .ok (.aload_n 0, 1) := by decide +kernel
theorem dX9_rounds_1 : decode cX9_rounds 1 = .ok (.getfield 116, 3) := by decide +kernel
theorem dX9_rounds_4 : decode cX9_rounds 4 = .ok (.ifCond .eq 4, 3) := by decide +kernel
theorem dX9_rounds_7 : decode cX9_rounds 7 = .ok (.return_, 1) := by decide +kernel
theorem dX9_rounds_8 : decode cX9_rounds 8 = .ok (.aload_n 0, 1) := by decide +kernel
theorem dX9_rounds_9 : decode cX9_rounds 9 = .ok (.iconst 1, 1) := by decide +kernel
theorem dX9_rounds_10 : decode cX9_rounds 10 = .ok (.putfield 116, 3) := by decide +kernel
theorem dX9_rounds_13 : decode cX9_rounds 13 = .ok (.aload_n 0, 1) := by decide +kernel
theorem dX9_rounds_14 : decode cX9_rounds 14 = .ok (.invokevirtual 192, 3) := by decide +kernel
theorem dX9_rounds_17 : decode cX9_rounds 17 = .ok (.aload_n 0, 1) := by decide +kernel
theorem dX9_rounds_18 : decode cX9_rounds 18 = .ok (.iconst 0, 1) := by decide +kernel
theorem dX9_rounds_19 : decode cX9_rounds 19 = .ok (.putfield 195, 3) := by decide +kernel
theorem dX9_rounds_22 : decode cX9_rounds 22 = .ok (.aload_n 0, 1) := by decide +kernel
theorem dX9_rounds_23 : decode cX9_rounds 23 = .ok (.iconst 0, 1) := by decide +kernel
theorem dX9_rounds_24 : decode cX9_rounds 24 = .ok (.iconst (-1), 1) := by decide +kernel
theorem dX9_rounds_25 : decode cX9_rounds 25 = .ok (.aload_n 0, 1) := by decide +kernel
theorem dX9_rounds_26 : decode cX9_rounds 26 = .ok (.getfield 164, 3) := by decide +kernel
theorem dX9_rounds_29 : decode cX9_rounds 29 = .ok (.invokevirtual 198, 3) := by decide +kernel
theorem dX9_rounds_32 : decode cX9_rounds 32 = .ok (.aload_n 0, 1) := by decide +kernel
theorem dX9_rounds_33 : decode cX9_rounds 33 = .ok (.aload_n 0, 1) := by decide +kernel
theorem dX9_rounds_34 : decode cX9_rounds 34 = .ok (.getfield 170, 3) := by decide +kernel
theorem dX9_rounds_37 : decode cX9_rounds 37 = .ok (.putfield 201, 3) := by decide +kernel
theorem dX9_rounds_40 : decode cX9_rounds 40 = .ok (.aload_n 0, 1) := by decide +kernel
theorem dX9_rounds_41 : decode cX9_rounds 41 = .ok (.aload_n 0, 1) := by decide +kernel
theorem dX9_rounds_42 : decode cX9_rounds 42 = .ok (.getfield 182, 3) := by decide +kernel
theorem dX9_rounds_45 : decode cX9_rounds 45 = .ok (.putfield 204, 3) := by decide +kernel
theorem dX9_rounds_48 : decode cX9_rounds 48 = .ok (.iconst 0, 1) := by decide +kernel
theorem dX9_rounds_49 : decode cX9_rounds 49 = .ok (.istore_n 1, 1) := by decide +kernel
theorem dX9_rounds_50 : decode cX9_rounds 50 = .ok (.iconst (-1), 1) := by decide +kernel
theorem dX9_rounds_51 : decode cX9_rounds 51 = .ok (.istore_n 2, 1) := by decide +kernel
theorem dX9_rounds_52 : decode cX9_rounds 52 = .ok (.aload_n 0, 1) := by decide +kernel
theorem dX9_rounds_53 : decode cX9_rounds 53 = .ok (.getfield 164, 3) := by decide +kernel
theorem dX9_rounds_56 : decode cX9_rounds 56 = .ok (.istore_n 3, 1) := by decide +kernel
theorem dX9_rounds_57 : decode cX9_rounds 57 = .ok (.aload_n 0, 1) := by decide +kernel
theorem dX9_rounds_58 : decode cX9_rounds 58 = .ok (.getfield 102, 3) := by decide +kernel
theorem dX9_rounds_61 : decode cX9_rounds 61 = .ok (.iload_n 1, 1) := by decide +kernel
theorem dX9_rounds_62 : decode cX9_rounds 62 = .ok (.iaload, 1) := by decide +kernel
theorem dX9_rounds_63 : decode cX9_rounds 63 = .ok (.aload_n 0, 1) := by decide +kernel
theorem dX9_rounds_64 : decode cX9_rounds 64 = .ok (.getfield 201, 3) := by decide +kernel
theorem dX9_rounds_67 : decode cX9_rounds 67 = .ok (.if_icmp .ge 160, 3) := by decide +kernel
theorem dX9_rounds_70 : decode cX9_rounds 70 = .ok (.iconst 0, 1) := by decide +kernel
theorem dX9_rounds_71 : decode cX9_rounds 71 = .ok (.istore 4, 2) := by decide +kernel
theorem dX9_rounds_73 : decode cX9_rounds 73 = .ok (.iconst 0, 1) := by decide +kernel
theorem dX9_rounds_74 : decode cX9_rounds 74 = .ok (.istore 5, 2) := by decide +kernel
theorem dX9_rounds_76 : decode cX9_rounds 76 = .ok (.iload 5, 2) := by decide +kernel
theorem dX9_rounds_78 : decode cX9_rounds 78 = .ok (.ifCond .ne 73, 3) := by decide +kernel
theorem dX9_rounds_81 : decode cX9_rounds 81 = .ok (.aload_n 0, 1) := by decide +kernel
theorem dX9_rounds_82 : decode cX9_rounds 82 = .ok (.iload_n 1, 1) := by decide +kernel
theorem dX9_rounds_83 : decode cX9_rounds 83 = .ok (.iload_n 2, 1) := by decide +kernel
theorem dX9_rounds_84 : decode cX9_rounds 84 = .ok (.iload_n 3, 1) := by decide +kernel
theorem dX9_rounds_85 : decode cX9_rounds 85 = .ok (.iload 4, 2) := by decide +kernel
theorem dX9_rounds_87 : decode cX9_rounds 87 = .ok (.invokevirtual 185, 3) := by decide +kernel
theorem dX9_rounds_90 : decode cX9_rounds 90 = .ok (.istore 6, 2) := by decide +kernel
theorem dX9_rounds_92 : decode cX9_rounds 92 = .ok (.iload 6, 2) := by decide +kernel
theorem dX9_rounds_94 : decode cX9_rounds 94 = .ok (.ifCond .lt 46, 3) := by decide +kernel
theorem dX9_rounds_97 : decode cX9_rounds 97 = .ok (.aload_n 0, 1) := by decide +kernel
theorem dX9_rounds_98 : decode cX9_rounds 98 = .ok (.iload_n 1, 1) := by decide +kernel
theorem dX9_rounds_99 : decode cX9_rounds 99 = .ok (.iconst 1, 1) := by decide +kernel
theorem dX9_rounds_100 : decode cX9_rounds 100 = .ok (.iload 4, 2) := by decide +kernel
theorem dX9_rounds_102 : decode cX9_rounds 102 = .ok (.ishl, 1) := by decide +kernel
theorem dX9_rounds_103 : decode cX9_rounds 103 = .ok (.ior, 1) := by decide +kernel
theorem dX9_rounds_104 : decode cX9_rounds 104 = .ok (.iload 4, 2) := by decide +kernel
theorem dX9_rounds_106 : decode cX9_rounds 106 = .ok (.iload 6, 2) := by decide +kernel
theorem dX9_rounds_108 : decode cX9_rounds 108 = .ok (.invokevirtual 198, 3) := by decide +kernel
theorem dX9_rounds_111 : decode cX9_rounds 111 = .ok (.aload_n 0, 1) := by decide +kernel
theorem dX9_rounds_112 : decode cX9_rounds 112 = .ok (.getfield 170, 3) := by decide +kernel
theorem dX9_rounds_115 : decode cX9_rounds 115 = .ok (.aload_n 0, 1) := by decide +kernel
theorem dX9_rounds_116 : decode cX9_rounds 116 = .ok (.getfield 201, 3) := by decide +kernel
theorem dX9_rounds_119 : decode cX9_rounds 119 = .ok (.if_icmp .ne 18, 3) := by decide +kernel
theorem dX9_rounds_122 : decode cX9_rounds 122 = .ok (.aload_n 0, 1) := by decide +kernel
theorem dX9_rounds_123 : decode cX9_rounds 123 = .ok (.getfield 182, 3) := by decide +kernel
theorem dX9_rounds_126 : decode cX9_rounds 126 = .ok (.aload_n 0, 1) := by decide +kernel
theorem dX9_rounds_127 : decode cX9_rounds 127 = .ok (.getfield 204, 3) := by decide +kernel
theorem dX9_rounds_130 : decode cX9_rounds 130 = .ok (.if_icmp .ne 7, 3) := by decide +kernel
theorem dX9_rounds_133 : decode cX9_rounds 133 = .ok (.iconst 1, 1) := by decide +kernel
theorem dX9_rounds_134 : decode cX9_rounds 134 = .ok (.goto 4, 3) := by decide +kernel
theorem dX9_rounds_137 : decode cX9_rounds 137 = .ok (.iconst 0, 1) := by decide +kernel
theorem dX9_rounds_138 : decode cX9_rounds 138 = .ok (.istore 5, 2) := by decide +kernel
theorem dX9_rounds_140 : decode cX9_rounds 140 = .ok (.iload 5, 2) := by decide +kernel
theorem dX9_rounds_142 : decode cX9_rounds 142 = .ok (.ifCond .ne 6, 3) := by decide +kernel
theorem dX9_rounds_145 : decode cX9_rounds 145 = .ok (.iinc 4 1, 3) := by decide +kernel
theorem dX9_rounds_148 : decode cX9_rounds 148 = .ok (.goto (-72), 3) := by decide +kernel
theorem dX9_rounds_151 : decode cX9_rounds 151 = .ok (.aload_n 0, 1) := by decide +kernel
theorem dX9_rounds_152 : decode cX9_rounds 152 = .ok (.getfield 93, 3) := by decide +kernel
theorem dX9_rounds_155 : decode cX9_rounds 155 = .ok (.aload_n 0, 1) := by decide +kernel
theorem dX9_rounds_156 : decode cX9_rounds 156 = .ok (.getfield 195, 3) := by decide +kernel
theorem dX9_rounds_159 : decode cX9_rounds 159 = .ok (.iload 4, 2) := by decide +kernel
theorem dX9_rounds_161 : decode cX9_rounds 161 = .ok (.iastore, 1) := by decide +kernel
theorem dX9_rounds_162 : decode cX9_rounds 162 = .ok (.aload_n 0, 1) := by decide +kernel
theorem dX9_rounds_163 : decode cX9_rounds 163 = .ok (.getfield 96, 3) := by decide +kernel
theorem dX9_rounds_166 : decode cX9_rounds 166 = .ok (.aload_n 0, 1) := by decide +kernel
theorem dX9_rounds_167 : decode cX9_rounds 167 = .ok (.getfield 195, 3) := by decide +kernel
theorem dX9_rounds_170 : decode cX9_rounds 170 = .ok (.aload_n 0, 1) := by decide +kernel
theorem dX9_rounds_171 : decode cX9_rounds 171 = .ok (.iload 4, 2) := by decide +kernel
theorem dX9_rounds_173 : decode cX9_rounds 173 = .ok (.iload_n 3, 1) := by decide +kernel
theorem dX9_rounds_174 : decode cX9_rounds 174 = .ok (.aload_n 0, 1) := by decide +kernel
theorem dX9_rounds_175 : decode cX9_rounds 175 = .ok (.iload_n 2, 1) := by decide +kernel
theorem dX9_rounds_176 : decode cX9_rounds 176 = .ok (.iload 4, 2) := by decide +kernel
theorem dX9_rounds_178 : decode cX9_rounds 178 = .ok (.invokevirtual 179, 3) := by decide +kernel
theorem dX9_rounds_181 : decode cX9_rounds 181 = .ok (.iadd, 1) := by decide +kernel
theorem dX9_rounds_182 : decode cX9_rounds 182 = .ok (.invokevirtual 189, 3) := by decide +kernel
theorem dX9_rounds_185 : decode cX9_rounds 185 = .ok (.iastore, 1) := by decide +kernel
theorem dX9_rounds_186 : decode cX9_rounds 186 = .ok (.aload_n 0, 1) := by decide +kernel
theorem dX9_rounds_187 : decode cX9_rounds 187 = .ok (.getfield 96, 3) := by decide +kernel
theorem dX9_rounds_190 : decode cX9_rounds 190 = .ok (.aload_n 0, 1) := by decide +kernel
theorem dX9_rounds_191 : decode cX9_rounds 191 = .ok (.getfield 195, 3) := by decide +kernel
theorem dX9_rounds_194 : decode cX9_rounds 194 = .ok (.iaload, 1) := by decide +kernel
theorem dX9_rounds_195 : decode cX9_rounds 195 = .ok (.aload_n 0, 1) := by decide +kernel
theorem dX9_rounds_196 : decode cX9_rounds 196 = .ok (.getfield 62, 3) := by decide +kernel
theorem dX9_rounds_199 : decode cX9_rounds 199 = .ok (.iload 4, 2) := by decide +kernel
theorem dX9_rounds_201 : decode cX9_rounds 201 = .ok (.iaload, 1) := by decide +kernel
theorem dX9_rounds_202 : decode cX9_rounds 202 = .ok (.iadd, 1) := by decide +kernel
theorem dX9_rounds_203 : decode cX9_rounds 203 = .ok (.istore_n 3, 1) := by decide +kernel
theorem dX9_rounds_204 : decode cX9_rounds 204 = .ok (.aload_n 0, 1) := by decide +kernel
theorem dX9_rounds_205 : decode cX9_rounds 205 = .ok (.dup, 1) := by decide +kernel
theorem dX9_rounds_206 : decode cX9_rounds 206 = .ok (.getfield 195, 3) := by decide +kernel
theorem dX9_rounds_209 : decode cX9_rounds 209 = .ok (.iconst 1, 1) := by decide +kernel
theorem dX9_rounds_210 : decode cX9_rounds 210 = .ok (.iadd, 1) := by decide +kernel
theorem dX9_rounds_211 : decode cX9_rounds 211 = .ok (.putfield 195, 3) := by decide +kernel
theorem dX9_rounds_214 : decode cX9_rounds 214 = .ok (.iload_n 1, 1) := by decide +kernel
theorem dX9_rounds_215 : decode cX9_rounds 215 = .ok (.iconst 1, 1) := by decide +kernel
theorem dX9_rounds_216 : decode cX9_rounds 216 = .ok (.iload 4, 2) := by decide +kernel
theorem dX9_rounds_218 : decode cX9_rounds 218 = .ok (.ishl, 1) := by decide +kernel
theorem dX9_rounds_219 : decode cX9_rounds 219 = .ok (.ior, 1) := by decide +kernel
theorem dX9_rounds_220 : decode cX9_rounds 220 = .ok (.istore_n 1, 1) := by decide +kernel
theorem dX9_rounds_221 : decode cX9_rounds 221 = .ok (.iload 4, 2) := by decide +kernel
