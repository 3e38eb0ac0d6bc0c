theorem dX0_init_0 : decode cX0_init 0 = .ok (.aload_n 0, 1) := by decide +kernel
theorem dX0_init_1 : decode cX0_init 1 = .ok (.invokespecial 3, 3) := by decide +kernel
theorem dX0_init_4 : decode cX0_init 4 = .ok (.return_, 1) := by decide +kernel
theorem dX0_lay_0 : decode cX0_lay 0 = .ok (.aload_n 0, 1) := by decide +kernel
theorem dX0_lay_1 : decode cX0_lay 1 = .ok (.iconst 1, 1) := by decide +kernel
theorem dX0_lay_2 : decode cX0_lay 2 = .ok (.putfield 9, 3) := by decide +kernel
theorem dX0_lay_5 : decode cX0_lay 5 = .ok (.aload_n 0, 1) := by decide +kernel
theorem dX0_lay_6 : decode cX0_lay 6 = .ok (.iload_n 1, 1) := by decide +kernel
theorem dX0_lay_7 : decode cX0_lay 7 = .ok (.putfield 15, 3) := by decide +kernel
theorem dX0_lay_10 : decode cX0_lay 10 = .ok (.aload_n 0, 1) := by decide +kernel
theorem dX0_lay_11 : decode cX0_lay 11 = .ok (.iload_n 2, 1) := by decide +kernel
theorem dX0_lay_12 : decode cX0_lay 12 = .ok (.putfield 19, 3) := by decide +kernel
theorem dX0_lay_15 : decode cX0_lay 15 = .ok (.aload_n 0, 1) := by decide +kernel
theorem dX0_lay_16 : decode cX0_lay 16 = .ok (.iload_n 3, 1) := by decide +kernel
theorem dX0_lay_17 : decode cX0_lay 17 = .ok (.putfield 22, 3) := by decide +kernel
theorem dX0_lay_20 : decode cX0_lay 20 = .ok (.aload_n 0, 1) := by decide +kernel
theorem dX0_lay_21 : decode cX0_lay 21 = .ok (.iload 4, 2) := by decide +kernel
theorem dX0_lay_23 : decode cX0_lay 23 = .ok (.putfield 25, 3) := by decide +kernel
theorem dX0_lay_26 : decode cX0_lay 26 = .ok (.return_, 1) := by decide +kernel
theorem dX0_wornIn_0 : decode cX0_wornIn 0 = .ok (.aload_n 0, 1) := by decide +kernel
theorem dX0_wornIn_1 : decode cX0_wornIn 1 = .ok (.getfield 22, 3) := by decide +kernel
theorem dX0_wornIn_4 : decode cX0_wornIn 4 = .ok (.bipush 12, 2) := by decide +kernel
theorem dX0_wornIn_6 : decode cX0_wornIn 6 = .ok (.imul, 1) := by decide +kernel
theorem dX0_wornIn_7 : decode cX0_wornIn 7 = .ok (.iload_n 1, 1) := by decide +kernel
theorem dX0_wornIn_8 : decode cX0_wornIn 8 = .ok (.bipush 12, 2) := by decide +kernel
theorem dX0_wornIn_10 : decode cX0_wornIn 10 = .ok (.irem, 1) := by decide +kernel
theorem dX0_wornIn_11 : decode cX0_wornIn 11 = .ok (.iadd, 1) := by decide +kernel
theorem dX0_wornIn_12 : decode cX0_wornIn 12 = .ok (.istore_n 3, 1) := by decide +kernel
theorem dX0_wornIn_13 : decode cX0_wornIn 13 = .ok (.iload_n 3, 1) := by decide +kernel
theorem dX0_wornIn_14 : decode cX0_wornIn 14 = .ok (.ifCond .lt 15, 3) := by decide +kernel
theorem dX0_wornIn_17 : decode cX0_wornIn 17 = .ok (.iload_n 3, 1) := by decide +kernel
theorem dX0_wornIn_18 : decode cX0_wornIn 18 = .ok (.aload_n 2, 1) := by decide +kernel
theorem dX0_wornIn_19 : decode cX0_wornIn 19 = .ok (.arraylength, 1) := by decide +kernel
theorem dX0_wornIn_20 : decode cX0_wornIn 20 = .ok (.if_icmp .ge 9, 3) := by decide +kernel
theorem dX0_wornIn_23 : decode cX0_wornIn 23 = .ok (.aload_n 2, 1) := by decide +kernel
theorem dX0_wornIn_24 : decode cX0_wornIn 24 = .ok (.iload_n 3, 1) := by decide +kernel
theorem dX0_wornIn_25 : decode cX0_wornIn 25 = .ok (.iaload, 1) := by decide +kernel
theorem dX0_wornIn_26 : decode cX0_wornIn 26 = .ok (.goto 4, 3) := by decide +kernel
theorem dX0_wornIn_29 : decode cX0_wornIn 29 = .ok (.iconst 0, 1) := by decide +kernel
theorem dX0_wornIn_30 : decode cX0_wornIn 30 = .ok (.ireturn, 1) := by decide +kernel
theorem mwX0_leftBehind_0 : (.code yX0_wornIn cX0_wornIn 4 (some .int) : Cond) ∈ wsX0_leftBehind := (List.mem_cons_of_mem _ (List.mem_append_left _ (memL 6 rfl)))
theorem mwX0_leftBehind_1 : (.fieldLink RX0 22 "BuoyTender$Chain" "kind" "I" : Cond) ∈ wsX0_leftBehind := (List.mem_cons_of_mem _ (List.mem_append_left _ (memL 7 rfl)))
set_option maxRecDepth 20000 in
theorem sbX0_leftBehind_X00 : SubW wsX00 wsX0_leftBehind := fun _ h => (List.mem_cons_of_mem _ (List.mem_append_right _ h))
set_option maxRecDepth 20000 in
theorem sbX0_leftBehind_X0_wornIn : SubW wsX0_wornIn wsX0_leftBehind := (subW_cons mwX0_leftBehind_0 (subW_app (subW_cons mwX0_leftBehind_1 subW_nil) sbX0_leftBehind_X00))
set_option maxRecDepth 20000 in
theorem gw_wsX00 : goodW wsX00 := goodW_of (by decide +kernel)
set_option maxRecDepth 20000 in
theorem gw_wsX0_leftBehind : goodW wsX0_leftBehind := (goodW_cons rfl (goodW_app (goodW_of (by decide +kernel)) gw_wsX00))
theorem ggX0_leftBehind_X0_wornIn : GoodIn wsX0_leftBehind wsX0_wornIn := goodIn_W gw_wsX0_leftBehind sbX0_leftBehind_X0_wornIn
theorem mwX0_leftBehind_2 : (.initialized RX0 : Cond) ∈ wsX0_leftBehind := (List.mem_cons_of_mem _ (List.mem_append_left _ (memL 5 rfl)))
theorem mwX0_leftBehind_3 : (.selects RX0 yX0_wornIn yX0_wornIn : Cond) ∈ wsX0_leftBehind := (List.mem_cons_of_mem _ (List.mem_append_left _ (memL 4 rfl)))
theorem mwX0_leftBehind_4 : (.instanceMethod yX0_wornIn : Cond) ∈ wsX0_leftBehind := (List.mem_cons_of_mem _ (List.mem_append_left _ (memL 3 rfl)))
theorem mwX0_leftBehind_5 : (.methodLink RX0 28 yX0_wornIn : Cond) ∈ wsX0_leftBehind := (List.mem_cons_of_mem _ (List.mem_append_left _ (memL 2 rfl)))
theorem gX0_leftBehind_X0_wornIn : GoodIn wsX0_leftBehind (wsV RX0 28 RX0 yX0_wornIn wsX0_wornIn) := goodIn_W gw_wsX0_leftBehind (subW_app (subW_cons mwX0_leftBehind_5 (subW_cons mwX0_leftBehind_4 (subW_cons mwX0_leftBehind_3 (subW_cons mwX0_leftBehind_2 subW_nil)))) sbX0_leftBehind_X0_wornIn)
theorem dX0_leftBehind_0 : decode cX0_leftBehind 0 = .ok (.aload_n 0, 1) := by decide +kernel
theorem dX0_leftBehind_1 : decode cX0_leftBehind 1 = .ok (.getfield 15, 3) := by decide +kernel
theorem dX0_leftBehind_4 : decode cX0_leftBehind 4 = .ok (.istore_n 3, 1) := by decide +kernel
theorem dX0_leftBehind_5 : decode cX0_leftBehind 5 = .ok (.aload_n 0, 1) := by decide +kernel
theorem dX0_leftBehind_6 : decode cX0_leftBehind 6 = .ok (.getfield 25, 3) := by decide +kernel
theorem dX0_leftBehind_9 : decode cX0_leftBehind 9 = .ok (.istore 4, 2) := by decide +kernel
theorem dX0_leftBehind_11 : decode cX0_leftBehind 11 = .ok (.iload 4, 2) := by decide +kernel
theorem dX0_leftBehind_13 : decode cX0_leftBehind 13 = .ok (.iload_n 1, 1) := by decide +kernel
theorem dX0_leftBehind_14 : decode cX0_leftBehind 14 = .ok (.if_icmp .gt 19, 3) := by decide +kernel
theorem dX0_leftBehind_17 : decode cX0_leftBehind 17 = .ok (.iload_n 3, 1) := by decide +kernel
theorem dX0_leftBehind_18 : decode cX0_leftBehind 18 = .ok (.aload_n 0, 1) := by decide +kernel
theorem dX0_leftBehind_19 : decode cX0_leftBehind 19 = .ok (.iload 4, 2) := by decide +kernel
theorem dX0_leftBehind_21 : decode cX0_leftBehind 21 = .ok (.aload_n 2, 1) := by decide +kernel
theorem dX0_leftBehind_22 : decode cX0_leftBehind 22 = .ok (.invokevirtual 28, 3) := by decide +kernel
theorem dX0_leftBehind_25 : decode cX0_leftBehind 25 = .ok (.isub, 1) := by decide +kernel
theorem dX0_leftBehind_26 : decode cX0_leftBehind 26 = .ok (.istore_n 3, 1) := by decide +kernel
theorem dX0_leftBehind_27 : decode cX0_leftBehind 27 = .ok (.iinc 4 1, 3) := by decide +kernel
theorem dX0_leftBehind_30 : decode cX0_leftBehind 30 = .ok (.goto (-19), 3) := by decide +kernel
theorem dX0_leftBehind_33 : decode cX0_leftBehind 33 = .ok (.iload_n 3, 1) := by decide +kernel
theorem dX0_leftBehind_34 : decode cX0_leftBehind 34 = .ok (.ireturn, 1) := by decide +kernel
theorem mwX0_lifeEnds_0 : (.code yX0_wornIn cX0_wornIn 4 (some .int) : Cond) ∈ wsX0_lifeEnds := (List.mem_cons_of_mem _ (List.mem_append_left _ (memL 7 rfl)))
theorem mwX0_lifeEnds_1 : (.fieldLink RX0 22 "BuoyTender$Chain" "kind" "I" : Cond) ∈ wsX0_lifeEnds := (List.mem_cons_of_mem _ (List.mem_append_left _ (memL 8 rfl)))
set_option maxRecDepth 20000 in
theorem sbX0_lifeEnds_X00 : SubW wsX00 wsX0_lifeEnds := fun _ h => (List.mem_cons_of_mem _ (List.mem_append_right _ h))
set_option maxRecDepth 20000 in
theorem sbX0_lifeEnds_X0_wornIn : SubW wsX0_wornIn wsX0_lifeEnds := (subW_cons mwX0_lifeEnds_0 (subW_app (subW_cons mwX0_lifeEnds_1 subW_nil) sbX0_lifeEnds_X00))
set_option maxRecDepth 20000 in
theorem gw_wsX0_lifeEnds : goodW wsX0_lifeEnds := (goodW_cons rfl (goodW_app (goodW_of (by decide +kernel)) gw_wsX00))
theorem ggX0_lifeEnds_X0_wornIn : GoodIn wsX0_lifeEnds wsX0_wornIn := goodIn_W gw_wsX0_lifeEnds sbX0_lifeEnds_X0_wornIn
theorem mwX0_lifeEnds_2 : (.initialized RX0 : Cond) ∈ wsX0_lifeEnds := (List.mem_cons_of_mem _ (List.mem_append_left _ (memL 6 rfl)))
theorem mwX0_lifeEnds_3 : (.selects RX0 yX0_wornIn yX0_wornIn : Cond) ∈ wsX0_lifeEnds := (List.mem_cons_of_mem _ (List.mem_append_left _ (memL 5 rfl)))
theorem mwX0_lifeEnds_4 : (.instanceMethod yX0_wornIn : Cond) ∈ wsX0_lifeEnds := (List.mem_cons_of_mem _ (List.mem_append_left _ (memL 4 rfl)))
theorem mwX0_lifeEnds_5 : (.methodLink RX0 28 yX0_wornIn : Cond) ∈ wsX0_lifeEnds := (List.mem_cons_of_mem _ (List.mem_append_left _ (memL 3 rfl)))
theorem gX0_lifeEnds_X0_wornIn : GoodIn wsX0_lifeEnds (wsV RX0 28 RX0 yX0_wornIn wsX0_wornIn) := goodIn_W gw_wsX0_lifeEnds (subW_app (subW_cons mwX0_lifeEnds_5 (subW_cons mwX0_lifeEnds_4 (subW_cons mwX0_lifeEnds_3 (subW_cons mwX0_lifeEnds_2 subW_nil)))) sbX0_lifeEnds_X0_wornIn)
theorem dX0_lifeEnds_0 : decode cX0_lifeEnds 0 = .ok (.aload_n 0, 1) := by decide +kernel
theorem dX0_lifeEnds_1 : decode cX0_lifeEnds 1 = .ok (.getfield 15, 3) := by decide +kernel
theorem dX0_lifeEnds_4 : decode cX0_lifeEnds 4 = .ok (.istore_n 2, 1) := by decide +kernel
theorem dX0_lifeEnds_5 : decode cX0_lifeEnds 5 = .ok (.iconst 0, 1) := by decide +kernel
theorem dX0_lifeEnds_6 : decode cX0_lifeEnds 6 = .ok (.istore_n 3, 1) := by decide +kernel
theorem dX0_lifeEnds_7 : decode cX0_lifeEnds 7 = .ok (.iload_n 3, 1) := by decide +kernel
theorem dX0_lifeEnds_8 : decode cX0_lifeEnds 8 = .ok (.sipush 400, 3) := by decide +kernel
theorem dX0_lifeEnds_11 : decode cX0_lifeEnds 11 = .ok (.if_icmp .ge 38, 3) := by decide +kernel
theorem dX0_lifeEnds_14 : decode cX0_lifeEnds 14 = .ok (.iload_n 2, 1) := by decide +kernel
theorem dX0_lifeEnds_15 : decode cX0_lifeEnds 15 = .ok (.aload_n 0, 1) := by decide +kernel
theorem dX0_lifeEnds_16 : decode cX0_lifeEnds 16 = .ok (.aload_n 0, 1) := by decide +kernel
theorem dX0_lifeEnds_17 : decode cX0_lifeEnds 17 = .ok (.getfield 25, 3) := by decide +kernel
theorem dX0_lifeEnds_20 : decode cX0_lifeEnds 20 = .ok (.iload_n 3, 1) := by decide +kernel
theorem dX0_lifeEnds_21 : decode cX0_lifeEnds 21 = .ok (.iadd, 1) := by decide +kernel
theorem dX0_lifeEnds_22 : decode cX0_lifeEnds 22 = .ok (.aload_n 1, 1) := by decide +kernel
theorem dX0_lifeEnds_23 : decode cX0_lifeEnds 23 = .ok (.invokevirtual 28, 3) := by decide +kernel
theorem dX0_lifeEnds_26 : decode cX0_lifeEnds 26 = .ok (.isub, 1) := by decide +kernel
theorem dX0_lifeEnds_27 : decode cX0_lifeEnds 27 = .ok (.istore_n 2, 1) := by decide +kernel
theorem dX0_lifeEnds_28 : decode cX0_lifeEnds 28 = .ok (.iload_n 2, 1) := by decide +kernel
theorem dX0_lifeEnds_29 : decode cX0_lifeEnds 29 = .ok (.aload_n 0, 1) := by decide +kernel
theorem dX0_lifeEnds_30 : decode cX0_lifeEnds 30 = .ok (.getfield 19, 3) := by decide +kernel
theorem dX0_lifeEnds_33 : decode cX0_lifeEnds 33 = .ok (.if_icmp .ge 10, 3) := by decide +kernel
theorem dX0_lifeEnds_36 : decode cX0_lifeEnds 36 = .ok (.aload_n 0, 1) := by decide +kernel
theorem dX0_lifeEnds_37 : decode cX0_lifeEnds 37 = .ok (.getfield 25, 3) := by decide +kernel
theorem dX0_lifeEnds_40 : decode cX0_lifeEnds 40 = .ok (.iload_n 3, 1) := by decide +kernel
theorem dX0_lifeEnds_41 : decode cX0_lifeEnds 41 = .ok (.iadd, 1) := by decide +kernel
theorem dX0_lifeEnds_42 : decode cX0_lifeEnds 42 = .ok (.ireturn, 1) := by decide +kernel
theorem dX0_lifeEnds_43 : decode cX0_lifeEnds 43 = .ok (.iinc 3 1, 3) := by decide +kernel
theorem dX0_lifeEnds_46 : decode cX0_lifeEnds 46 = .ok (.goto (-39), 3) := by decide +kernel
theorem dX0_lifeEnds_49 : decode cX0_lifeEnds 49 = .ok (.iconst (-1), 1) := by decide +kernel
theorem dX0_lifeEnds_50 : decode cX0_lifeEnds 50 = .ok (.ireturn, 1) := by decide +kernel
theorem sbX1_init_X1_init_r1 : SubW wsX1_init_r1 wsX1_init := fun _ h => (List.mem_cons_of_mem _ (List.mem_append_left _ (List.mem_append_left _ (List.mem_append_left _ (List.mem_append_left _ (List.mem_append_left _ h))))))
theorem sbX1_init_X1_init_r2 : SubW wsX1_init_r2 wsX1_init := fun _ h => (List.mem_cons_of_mem _ (List.mem_append_left _ (List.mem_append_left _ (List.mem_append_left _ (List.mem_append_left _ (List.mem_append_right _ h))))))
theorem mwX1_init_0 : (.code yX5_init cX5_init 1 none : Cond) ∈ wsX1_init := (sbX1_init_X1_init_r1 _ (memL 19 rfl))
theorem mwX1_init_1 : (.fieldLink RX5 15 "BuoyTender$Sighting" "deepest" "I" : Cond) ∈ wsX1_init := (sbX1_init_X1_init_r1 _ (memL 23 rfl))
theorem mwX1_init_2 : (.fieldLink RX5 9 "BuoyTender$Sighting" "ruledOut" "[J" : Cond) ∈ wsX1_init := (sbX1_init_X1_init_r1 _ (memL 22 rfl))
theorem mwX1_init_3 : (.arrayClass .long : Cond) ∈ wsX1_init := (sbX1_init_X1_init_r1 _ (memL 21 rfl))
theorem mwX1_init_4 : (.code objectInit ⟨#[0xb1]⟩ 1 none : Cond) ∈ wsX1_init := (sbX1_init_X1_init_r1 _ (memL 2 rfl))
theorem mwX1_init_5 : (.instanceMethod objectInit : Cond) ∈ wsX1_init := (sbX1_init_X1_init_r1 _ (memL 1 rfl))
theorem mwX1_init_6 : (.methodLink RX5 3 objectInit : Cond) ∈ wsX1_init := (sbX1_init_X1_init_r1 _ (memL 20 rfl))
set_option maxRecDepth 20000 in
theorem sbX1_init_X50 : SubW wsX50 wsX1_init := fun _ h => (List.mem_cons_of_mem _ (List.mem_append_left _ (List.mem_append_left _ (List.mem_append_left _ (List.mem_append_right _ h)))))
set_option maxRecDepth 20000 in
theorem sbX1_init_X5_init : SubW wsX5_init wsX1_init := (subW_cons mwX1_init_0 (subW_app (subW_cons mwX1_init_6 (subW_cons mwX1_init_5 (subW_cons mwX1_init_4 (subW_cons mwX1_init_3 (subW_cons mwX1_init_2 (subW_cons mwX1_init_1 subW_nil)))))) sbX1_init_X50))
set_option maxRecDepth 20000 in
theorem gw_wsX1_init_r1 : goodW wsX1_init_r1 := (goodW_of (by decide +kernel))
set_option maxRecDepth 20000 in
theorem gw_wsX1_init_r2 : goodW wsX1_init_r2 := (goodW_of (by decide +kernel))
set_option maxRecDepth 20000 in
theorem gw_wsX50 : goodW wsX50 := goodW_of (by decide +kernel)
set_option maxRecDepth 20000 in
theorem gw_wsX10 : goodW wsX10 := goodW_of (by decide +kernel)
set_option maxRecDepth 20000 in
theorem gw_wsX30 : goodW wsX30 := goodW_of (by decide +kernel)
set_option maxRecDepth 20000 in
theorem gw_wsX1_init : goodW wsX1_init := (goodW_cons rfl (goodW_app (goodW_app (goodW_app (goodW_app (goodW_app gw_wsX1_init_r1 gw_wsX1_init_r2) gw_wsX50) gw_wsX10) gw_wsX00) gw_wsX30))
theorem ggX1_init_X5_init : GoodIn wsX1_init wsX5_init := goodIn_W gw_wsX1_init sbX1_init_X5_init
set_option maxRecDepth 20000 in
theorem gX1_init_X5_init_n9 : GoodIn wsX1_init (wsX5_init) := ggX1_init_X5_init
theorem mwX1_init_7 : (.code yX0_init cX0_init 1 none : Cond) ∈ wsX1_init := (sbX1_init_X1_init_r2 _ (memL 1 rfl))
theorem mwX1_init_8 : (.methodLink RX0 3 objectInit : Cond) ∈ wsX1_init := (sbX1_init_X1_init_r2 _ (memL 2 rfl))
set_option maxRecDepth 20000 in
theorem sbX1_init_X0_init : SubW wsX0_init wsX1_init := (subW_cons mwX1_init_7 (subW_cons mwX1_init_8 (subW_cons mwX1_init_5 (subW_cons mwX1_init_4 subW_nil))))
theorem ggX1_init_X0_init : GoodIn wsX1_init wsX0_init := goodIn_W gw_wsX1_init sbX1_init_X0_init
set_option maxRecDepth 20000 in
theorem gX1_init_X0_init_n18 : GoodIn wsX1_init (wsX0_init) := ggX1_init_X0_init
theorem mwX1_init_9 : (.code yX3_init cX3_init 1 none : Cond) ∈ wsX1_init := (sbX1_init_X1_init_r2 _ (memL 4 rfl))
theorem mwX1_init_10 : (.fieldLink RX3 9 "BuoyTender$Rhythm" "steps" "[I" : Cond) ∈ wsX1_init := (sbX1_init_X1_init_r2 _ (memL 7 rfl))
theorem mwX1_init_11 : (.arrayClass .int : Cond) ∈ wsX1_init := (sbX1_init_X1_init_r2 _ (memL 6 rfl))
theorem mwX1_init_12 : (.methodLink RX3 3 objectInit : Cond) ∈ wsX1_init := (sbX1_init_X1_init_r2 _ (memL 5 rfl))
set_option maxRecDepth 20000 in
theorem sbX1_init_X30 : SubW wsX30 wsX1_init := fun _ h => (List.mem_cons_of_mem _ (List.mem_append_right _ h))
set_option maxRecDepth 20000 in
theorem sbX1_init_X3_init : SubW wsX3_init wsX1_init := (subW_cons mwX1_init_9 (subW_app (subW_cons mwX1_init_12 (subW_cons mwX1_init_5 (subW_cons mwX1_init_4 (subW_cons mwX1_init_11 (subW_cons mwX1_init_10 subW_nil))))) sbX1_init_X30))
theorem ggX1_init_X3_init : GoodIn wsX1_init wsX3_init := goodIn_W gw_wsX1_init sbX1_init_X3_init
set_option maxRecDepth 20000 in
theorem gX1_init_X3_init_n25 : GoodIn wsX1_init (wsX3_init) := ggX1_init_X3_init
theorem dX1_init_0 : decode cX1_init 0 = .ok (.aload_n 0, 1) := by decide +kernel
theorem dX1_init_1 : decode cX1_init 1 = .ok (.invokespecial 1, 3) := by decide +kernel
theorem dX1_init_4 : decode cX1_init 4 = .ok (.aload_n 0, 1) := by decide +kernel
theorem dX1_init_5 : decode cX1_init 5 = .ok (.new 7, 3) := by decide +kernel
theorem dX1_init_8 : decode cX1_init 8 = .ok (.dup, 1) := by decide +kernel
theorem dX1_init_9 : decode cX1_init 9 = .ok (.invokespecial 9, 3) := by decide +kernel
theorem dX1_init_12 : decode cX1_init 12 = .ok (.putfield 10, 3) := by decide +kernel
theorem dX1_init_15 : decode cX1_init 15 = .ok (.aload_n 0, 1) := by decide +kernel
theorem dX1_init_16 : decode cX1_init 16 = .ok (.new 16, 3) := by decide +kernel
theorem dX1_init_19 : decode cX1_init 19 = .ok (.dup, 1) := by decide +kernel
theorem dX1_init_20 : decode cX1_init 20 = .ok (.invokespecial 18, 3) := by decide +kernel
theorem dX1_init_23 : decode cX1_init 23 = .ok (.putfield 19, 3) := by decide +kernel
theorem dX1_init_26 : decode cX1_init 26 = .ok (.aload_n 0, 1) := by decide +kernel
theorem dX1_init_27 : decode cX1_init 27 = .ok (.new 23, 3) := by decide +kernel
theorem dX1_init_30 : decode cX1_init 30 = .ok (.dup, 1) := by decide +kernel
theorem dX1_init_31 : decode cX1_init 31 = .ok (.invokespecial 25, 3) := by decide +kernel
theorem dX1_init_34 : decode cX1_init 34 = .ok (.putfield 26, 3) := by decide +kernel
theorem dX1_init_37 : decode cX1_init 37 = .ok (.aload_n 0, 1) := by decide +kernel
theorem dX1_init_38 : decode cX1_init 38 = .ok (.iload_n 1, 1) := by decide +kernel
theorem dX1_init_39 : decode cX1_init 39 = .ok (.putfield 30, 3) := by decide +kernel
theorem dX1_init_42 : decode cX1_init 42 = .ok (.aload_n 0, 1) := by decide +kernel
theorem dX1_init_43 : decode cX1_init 43 = .ok (.iload_n 2, 1) := by decide +kernel
theorem dX1_init_44 : decode cX1_init 44 = .ok (.putfield 34, 3) := by decide +kernel
theorem dX1_init_47 : decode cX1_init 47 = .ok (.aload_n 0, 1) := by decide +kernel
theorem dX1_init_48 : decode cX1_init 48 = .ok (.iload_n 3, 1) := by decide +kernel
theorem dX1_init_49 : decode cX1_init 49 = .ok (.putfield 37, 3) := by decide +kernel
theorem dX1_init_52 : decode cX1_init 52 = .ok (.return_, 1) := by decide +kernel
theorem mwX1_isNear_0 : (.code yX8_squareBetween cX8_squareBetween 4 (some .int) : Cond) ∈ wsX1_isNear := (List.mem_cons_of_mem _ (List.mem_append_left _ (memL 4 rfl)))
set_option maxRecDepth 20000 in
theorem sbX1_isNear_X8_squareBetween : SubW wsX8_squareBetween wsX1_isNear := (subW_cons mwX1_isNear_0 subW_nil)
set_option maxRecDepth 20000 in
theorem gw_wsX1_isNear : goodW wsX1_isNear := (goodW_cons rfl (goodW_app (goodW_of (by decide +kernel)) gw_wsX10))
theorem ggX1_isNear_X8_squareBetween : GoodIn wsX1_isNear wsX8_squareBetween := goodIn_W gw_wsX1_isNear sbX1_isNear_X8_squareBetween
set_option maxRecDepth 20000 in
theorem gX1_isNear_X8_squareBetween_n40 : GoodIn wsX1_isNear (wsX8_squareBetween) := ggX1_isNear_X8_squareBetween
theorem dX1_isNear_0 : decode cX1_isNear 0 = .ok (.aload_n 0, 1) := by decide +kernel
theorem dX1_isNear_1 : decode cX1_isNear 1 = .ok (.getfield 30, 3) := by decide +kernel
theorem dX1_isNear_4 : decode cX1_isNear 4 = .ok (.aload_n 0, 1) := by decide +kernel
theorem dX1_isNear_5 : decode cX1_isNear 5 = .ok (.getfield 34, 3) := by decide +kernel
theorem dX1_isNear_8 : decode cX1_isNear 8 = .ok (.aload_n 1, 1) := by decide +kernel
theorem dX1_isNear_9 : decode cX1_isNear 9 = .ok (.getfield 30, 3) := by decide +kernel
theorem dX1_isNear_12 : decode cX1_isNear 12 = .ok (.aload_n 1, 1) := by decide +kernel
theorem dX1_isNear_13 : decode cX1_isNear 13 = .ok (.getfield 34, 3) := by decide +kernel
theorem dX1_isNear_16 : decode cX1_isNear 16 = .ok (.invokestatic 40, 3) := by decide +kernel
theorem dX1_isNear_19 : decode cX1_isNear 19 = .ok (.iload_n 2, 1) := by decide +kernel
theorem dX1_isNear_20 : decode cX1_isNear 20 = .ok (.if_icmp .gt 7, 3) := by decide +kernel
theorem dX1_isNear_23 : decode cX1_isNear 23 = .ok (.iconst 1, 1) := by decide +kernel
theorem dX1_isNear_24 : decode cX1_isNear 24 = .ok (.goto 4, 3) := by decide +kernel
theorem dX1_isNear_27 : decode cX1_isNear 27 = .ok (.iconst 0, 1) := by decide +kernel
theorem dX1_isNear_28 : decode cX1_isNear 28 = .ok (.ireturn, 1) := by decide +kernel
theorem dX2_init_0 : decode cX2_init 0 = .ok (.aload_n 0, 1) := by decide +kernel
theorem dX2_init_1 : decode cX2_init 1 = .ok (.invokespecial 3, 3) := by decide +kernel
theorem dX2_init_4 : decode cX2_init 4 = .ok (.aload_n 0, 1) := by decide +kernel
theorem dX2_init_5 : decode cX2_init 5 = .ok (.bipush 10, 2) := by decide +kernel
theorem dX2_init_7 : decode cX2_init 7 = .ok (.newarray .int, 2) := by decide +kernel
theorem dX2_init_9 : decode cX2_init 9 = .ok (.putfield 9, 3) := by decide +kernel
theorem dX2_init_12 : decode cX2_init 12 = .ok (.aload_n 0, 1) := by decide +kernel
theorem dX2_init_13 : decode cX2_init 13 = .ok (.bipush 10, 2) := by decide +kernel
theorem dX2_init_15 : decode cX2_init 15 = .ok (.newarray .int, 2) := by decide +kernel
theorem dX2_init_17 : decode cX2_init 17 = .ok (.putfield 15, 3) := by decide +kernel
theorem dX2_init_20 : decode cX2_init 20 = .ok (.aload_n 0, 1) := by decide +kernel
theorem dX2_init_21 : decode cX2_init 21 = .ok (.bipush 10, 2) := by decide +kernel
theorem dX2_init_23 : decode cX2_init 23 = .ok (.newarray .int, 2) := by decide +kernel
theorem dX2_init_25 : decode cX2_init 25 = .ok (.putfield 18, 3) := by decide +kernel
theorem dX2_init_28 : decode cX2_init 28 = .ok (.aload_n 0, 1) := by decide +kernel
theorem dX2_init_29 : decode cX2_init 29 = .ok (.bipush 10, 2) := by decide +kernel
theorem dX2_init_31 : decode cX2_init 31 = .ok (.newarray .int, 2) := by decide +kernel
theorem dX2_init_33 : decode cX2_init 33 = .ok (.putfield 21, 3) := by decide +kernel
theorem dX2_init_36 : decode cX2_init 36 = .ok (.aload_n 0, 1) := by decide +kernel
theorem dX2_init_37 : decode cX2_init 37 = .ok (.bipush 121, 2) := by decide +kernel
theorem dX2_init_39 : decode cX2_init 39 = .ok (.newarray .int, 2) := by decide +kernel
theorem dX2_init_41 : decode cX2_init 41 = .ok (.putfield 24, 3) := by decide +kernel
theorem dX2_init_44 : decode cX2_init 44 = .ok (.aload_n 0, 1) := by decide +kernel
theorem dX2_init_45 : decode cX2_init 45 = .ok (.sipush 240, 3) := by decide +kernel
theorem dX2_init_48 : decode cX2_init 48 = .ok (.newarray .int, 2) := by decide +kernel
theorem dX2_init_50 : decode cX2_init 50 = .ok (.putfield 27, 3) := by decide +kernel
theorem dX2_init_53 : decode cX2_init 53 = .ok (.aload_n 0, 1) := by decide +kernel
theorem dX2_init_54 : decode cX2_init 54 = .ok (.sipush 240, 3) := by decide +kernel
theorem dX2_init_57 : decode cX2_init 57 = .ok (.newarray .int, 2) := by decide +kernel
theorem dX2_init_59 : decode cX2_init 59 = .ok (.putfield 30, 3) := by decide +kernel
theorem dX2_init_62 : decode cX2_init 62 = .ok (.aload_n 0, 1) := by decide +kernel
theorem dX2_init_63 : decode cX2_init 63 = .ok (.sipush 10240, 3) := by decide +kernel
theorem dX2_init_66 : decode cX2_init 66 = .ok (.newarray .int, 2) := by decide +kernel
theorem dX2_init_68 : decode cX2_init 68 = .ok (.putfield 33, 3) := by decide +kernel
theorem dX2_init_71 : decode cX2_init 71 = .ok (.aload_n 0, 1) := by decide +kernel
theorem dX2_init_72 : decode cX2_init 72 = .ok (.sipush 1024, 3) := by decide +kernel
theorem dX2_init_75 : decode cX2_init 75 = .ok (.newarray .int, 2) := by decide +kernel
theorem dX2_init_77 : decode cX2_init 77 = .ok (.putfield 36, 3) := by decide +kernel
theorem dX2_init_80 : decode cX2_init 80 = .ok (.aload_n 0, 1) := by decide +kernel
theorem dX2_init_81 : decode cX2_init 81 = .ok (.bipush 10, 2) := by decide +kernel
theorem dX2_init_83 : decode cX2_init 83 = .ok (.newarray .int, 2) := by decide +kernel
theorem dX2_init_85 : decode cX2_init 85 = .ok (.putfield 39, 3) := by decide +kernel
theorem dX2_init_88 : decode cX2_init 88 = .ok (.aload_n 0, 1) := by decide +kernel
theorem dX2_init_89 : decode cX2_init 89 = .ok (.bipush 10, 2) := by decide +kernel
theorem dX2_init_91 : decode cX2_init 91 = .ok (.newarray .int, 2) := by decide +kernel
theorem dX2_init_93 : decode cX2_init 93 = .ok (.putfield 42, 3) := by decide +kernel
theorem dX2_init_96 : decode cX2_init 96 = .ok (.aload_n 0, 1) := by decide +kernel
theorem dX2_init_97 : decode cX2_init 97 = .ok (.bipush 10, 2) := by decide +kernel
theorem dX2_init_99 : decode cX2_init 99 = .ok (.newarray .int, 2) := by decide +kernel
theorem dX2_init_101 : decode cX2_init 101 = .ok (.putfield 45, 3) := by decide +kernel
theorem dX2_init_104 : decode cX2_init 104 = .ok (.return_, 1) := by decide +kernel
theorem sbX2_plan_X2_plan_r1 : SubW wsX2_plan_r1 wsX2_plan := fun _ h => (List.mem_cons_of_mem _ (List.mem_append_left _ (List.mem_append_left _ (List.mem_append_left _ (List.mem_append_left _ h)))))
theorem sbX2_plan_X2_plan_r2 : SubW wsX2_plan_r2 wsX2_plan := fun _ h => (List.mem_cons_of_mem _ (List.mem_append_left _ (List.mem_append_left _ (List.mem_append_left _ (List.mem_append_right _ (List.mem_append_left _ h))))))
theorem sbX2_plan_X2_plan_r3 : SubW wsX2_plan_r3 wsX2_plan := fun _ h => (List.mem_cons_of_mem _ (List.mem_append_left _ (List.mem_append_left _ (List.mem_append_left _ (List.mem_append_right _ (List.mem_append_right _ (List.mem_append_left _ h)))))))
theorem sbX2_plan_X2_plan_r4 : SubW wsX2_plan_r4 wsX2_plan := fun _ h => (List.mem_cons_of_mem _ (List.mem_append_left _ (List.mem_append_left _ (List.mem_append_left _ (List.mem_append_right _ (List.mem_append_right _ (List.mem_append_right _ (List.mem_append_left _ h))))))))
theorem sbX2_plan_X2_plan_r5 : SubW wsX2_plan_r5 wsX2_plan := fun _ h => (List.mem_cons_of_mem _ (List.mem_append_left _ (List.mem_append_left _ (List.mem_append_left _ (List.mem_append_right _ (List.mem_append_right _ (List.mem_append_right _ (List.mem_append_right _ h))))))))
theorem mwX2_plan_0 : (.code yX2_gather cX2_gather 7 none : Cond) ∈ wsX2_plan := (sbX2_plan_X2_plan_r1 _ (memL 4 rfl))
theorem mwX2_plan_1 : (.fieldLink RX4 25 "BuoyTender$Ship" "mostWind" "I" : Cond) ∈ wsX2_plan := (sbX2_plan_X2_plan_r1 _ (memL 23 rfl))
theorem mwX2_plan_2 : (.fieldLink RX4 15 "BuoyTender$Ship" "winds" "[I" : Cond) ∈ wsX2_plan := (sbX2_plan_X2_plan_r1 _ (memL 22 rfl))
theorem mwX2_plan_3 : (.fieldLink RX4 28 "BuoyTender$Ship" "draught" "I" : Cond) ∈ wsX2_plan := (sbX2_plan_X2_plan_r1 _ (memL 21 rfl))
theorem mwX2_plan_4 : (.fieldLink RX4 9 "BuoyTender$Ship" "tides" "[I" : Cond) ∈ wsX2_plan := (sbX2_plan_X2_plan_r1 _ (memL 20 rfl))
theorem mwX2_plan_5 : (.code yX4_mayBegin cX4_mayBegin 3 (some .boolean) : Cond) ∈ wsX2_plan := (sbX2_plan_X2_plan_r1 _ (memL 19 rfl))
theorem mwX2_plan_6 : (.selects RX4 yX4_mayBegin yX4_mayBegin : Cond) ∈ wsX2_plan := (sbX2_plan_X2_plan_r1 _ (memL 18 rfl))
theorem mwX2_plan_7 : (.initialized RX4 : Cond) ∈ wsX2_plan := (sbX2_plan_X2_plan_r1 _ (memL 17 rfl))
theorem mwX2_plan_8 : (.instanceMethod yX4_mayBegin : Cond) ∈ wsX2_plan := (sbX2_plan_X2_plan_r1 _ (memL 16 rfl))
theorem mwX2_plan_9 : (.fieldLink RX2 27 "BuoyTender$Planner" "opensIn" "[I" : Cond) ∈ wsX2_plan := (sbX2_plan_X2_plan_r1 _ (memL 15 rfl))
theorem mwX2_plan_10 : (.fieldLink RX2 30 "BuoyTender$Planner" "openedIn" "[I" : Cond) ∈ wsX2_plan := (sbX2_plan_X2_plan_r1 _ (memL 14 rfl))
theorem mwX2_plan_11 : (.code yX2_openHours cX2_openHours 7 none : Cond) ∈ wsX2_plan := (sbX2_plan_X2_plan_r1 _ (memL 13 rfl))
theorem mwX2_plan_12 : (.initialized RX2 : Cond) ∈ wsX2_plan := (sbX2_plan_X2_plan_r1 _ (memL 3 rfl))
theorem mwX2_plan_13 : (.selects RX2 yX2_openHours yX2_openHours : Cond) ∈ wsX2_plan := (sbX2_plan_X2_plan_r1 _ (memL 12 rfl))
theorem mwX2_plan_14 : (.instanceMethod yX2_openHours : Cond) ∈ wsX2_plan := (sbX2_plan_X2_plan_r1 _ (memL 11 rfl))
theorem mwX2_plan_15 : (.methodLink RX2 95 yX2_openHours : Cond) ∈ wsX2_plan := (sbX2_plan_X2_plan_r1 _ (memL 10 rfl))
theorem mwX2_plan_16 : (.fieldLink RX2 21 "BuoyTender$Planner" "weights" "[I" : Cond) ∈ wsX2_plan := (sbX2_plan_X2_plan_r1 _ (memL 9 rfl))
theorem mwX2_plan_17 : (.fieldLink RX2 18 "BuoyTender$Planner" "loads" "[I" : Cond) ∈ wsX2_plan := (sbX2_plan_X2_plan_r1 _ (memL 8 rfl))
theorem mwX2_plan_18 : (.fieldLink RX2 15 "BuoyTender$Planner" "minutes" "[I" : Cond) ∈ wsX2_plan := (sbX2_plan_X2_plan_r1 _ (memL 7 rfl))
theorem mwX2_plan_19 : (.fieldLink RX2 9 "BuoyTender$Planner" "numbers" "[I" : Cond) ∈ wsX2_plan := (sbX2_plan_X2_plan_r1 _ (memL 6 rfl))
theorem mwX2_plan_20 : (.fieldLink RX2 76 "BuoyTender$Planner" "count" "I" : Cond) ∈ wsX2_plan := (sbX2_plan_X2_plan_r1 _ (memL 5 rfl))
set_option maxRecDepth 20000 in
theorem sbX2_plan_X20 : SubW wsX20 wsX2_plan := fun _ h => (List.mem_cons_of_mem _ (List.mem_append_left _ (List.mem_append_left _ (List.mem_append_right _ h))))
set_option maxRecDepth 20000 in
theorem sbX2_plan_X10 : SubW wsX10 wsX2_plan := fun _ h => (List.mem_cons_of_mem _ (List.mem_append_left _ (List.mem_append_right _ h)))
set_option maxRecDepth 20000 in
theorem sbX2_plan_X40 : SubW wsX40 wsX2_plan := fun _ h => (List.mem_cons_of_mem _ (List.mem_append_right _ h))
set_option maxRecDepth 20000 in
theorem sbX2_plan_X2_gather : SubW wsX2_gather wsX2_plan := (subW_cons mwX2_plan_0 (subW_app (subW_app (subW_app (subW_cons mwX2_plan_20 (subW_cons mwX2_plan_19 (subW_cons mwX2_plan_18 (subW_cons mwX2_plan_17 (subW_cons mwX2_plan_16 (subW_cons mwX2_plan_15 (subW_cons mwX2_plan_14 (subW_cons mwX2_plan_13 (subW_cons mwX2_plan_12 (subW_cons mwX2_plan_11 (subW_cons mwX2_plan_10 (subW_cons mwX2_plan_9 (subW_cons mwX2_plan_8 (subW_cons mwX2_plan_7 (subW_cons mwX2_plan_6 (subW_cons mwX2_plan_5 (subW_cons mwX2_plan_4 (subW_cons mwX2_plan_3 (subW_cons mwX2_plan_2 (subW_cons mwX2_plan_1 subW_nil)))))))))))))))))))) sbX2_plan_X20) sbX2_plan_X10) sbX2_plan_X40))
set_option maxRecDepth 20000 in
theorem gw_wsX2_plan_r1 : goodW wsX2_plan_r1 := (goodW_of (by decide +kernel))
set_option maxRecDepth 20000 in
theorem gw_wsX2_plan_r2 : goodW wsX2_plan_r2 := (goodW_of (by decide +kernel))
set_option maxRecDepth 20000 in
theorem gw_wsX2_plan_r3 : goodW wsX2_plan_r3 := (goodW_of (by decide +kernel))
set_option maxRecDepth 20000 in
theorem gw_wsX2_plan_r4 : goodW wsX2_plan_r4 := (goodW_of (by decide +kernel))
set_option maxRecDepth 20000 in
theorem gw_wsX2_plan_r5 : goodW wsX2_plan_r5 := (goodW_of (by decide +kernel))
set_option maxRecDepth 20000 in
theorem gw_wsX20 : goodW wsX20 := goodW_of (by decide +kernel)
set_option maxRecDepth 20000 in
theorem gw_wsX40 : goodW wsX40 := goodW_of (by decide +kernel)
set_option maxRecDepth 20000 in
theorem gw_wsX2_plan : goodW wsX2_plan := (goodW_cons rfl (goodW_app (goodW_app (goodW_app (goodW_app gw_wsX2_plan_r1 (goodW_app gw_wsX2_plan_r2 (goodW_app gw_wsX2_plan_r3 (goodW_app gw_wsX2_plan_r4 gw_wsX2_plan_r5)))) gw_wsX20) gw_wsX10) gw_wsX40))
theorem ggX2_plan_X2_gather : GoodIn wsX2_plan wsX2_gather := goodIn_W gw_wsX2_plan sbX2_plan_X2_gather
theorem mwX2_plan_21 : (.selects RX2 yX2_gather yX2_gather : Cond) ∈ wsX2_plan := (sbX2_plan_X2_plan_r1 _ (memL 2 rfl))
theorem mwX2_plan_22 : (.instanceMethod yX2_gather : Cond) ∈ wsX2_plan := (sbX2_plan_X2_plan_r1 _ (memL 1 rfl))
theorem mwX2_plan_23 : (.methodLink RX2 48 yX2_gather : Cond) ∈ wsX2_plan := (sbX2_plan_X2_plan_r1 _ (memL 0 rfl))
theorem gX2_plan_X2_gather : GoodIn wsX2_plan (wsV RX2 48 RX2 yX2_gather wsX2_gather) := goodIn_W gw_wsX2_plan (subW_app (subW_cons mwX2_plan_23 (subW_cons mwX2_plan_22 (subW_cons mwX2_plan_21 (subW_cons mwX2_plan_12 subW_nil)))) sbX2_plan_X2_gather)
theorem mwX2_plan_24 : (.code yX2_measure cX2_measure 7 none : Cond) ∈ wsX2_plan := (sbX2_plan_X2_plan_r2 _ (memL 3 rfl))
theorem mwX2_plan_25 : (.code Lib.Math.max.name Lib.Math.max.code 2 (some .int) : Cond) ∈ wsX2_plan := (sbX2_plan_X2_plan_r2 _ (memL 18 rfl))
theorem mwX2_plan_26 : (.static Lib.Math.max.name : Cond) ∈ wsX2_plan := (sbX2_plan_X2_plan_r2 _ (memL 17 rfl))
theorem mwX2_plan_27 : (.methodLink RX2 121 Lib.Math.max.name : Cond) ∈ wsX2_plan := (sbX2_plan_X2_plan_r2 _ (memL 16 rfl))
theorem mwX2_plan_28 : (.code Lib.Math.abs.name Lib.Math.abs.code 1 (some .int) : Cond) ∈ wsX2_plan := (sbX2_plan_X2_plan_r2 _ (memL 15 rfl))
theorem mwX2_plan_29 : (.initialized "java/lang/Math" : Cond) ∈ wsX2_plan := (sbX2_plan_X2_plan_r2 _ (memL 14 rfl))
theorem mwX2_plan_30 : (.static Lib.Math.abs.name : Cond) ∈ wsX2_plan := (sbX2_plan_X2_plan_r2 _ (memL 13 rfl))
theorem mwX2_plan_31 : (.methodLink RX2 115 Lib.Math.abs.name : Cond) ∈ wsX2_plan := (sbX2_plan_X2_plan_r2 _ (memL 12 rfl))
theorem mwX2_plan_32 : (.code yX2_way cX2_way 4 (some .int) : Cond) ∈ wsX2_plan := (sbX2_plan_X2_plan_r2 _ (memL 11 rfl))
theorem mwX2_plan_33 : (.static yX2_way : Cond) ∈ wsX2_plan := (sbX2_plan_X2_plan_r2 _ (memL 10 rfl))
theorem mwX2_plan_34 : (.methodLink RX2 109 yX2_way : Cond) ∈ wsX2_plan := (sbX2_plan_X2_plan_r2 _ (memL 9 rfl))
theorem mwX2_plan_35 : (.code yX2_markOfJob cX2_markOfJob 4 (some (.object "BuoyTender$Mark")) : Cond) ∈ wsX2_plan := (sbX2_plan_X2_plan_r2 _ (memL 8 rfl))
theorem mwX2_plan_36 : (.selects RX2 yX2_markOfJob yX2_markOfJob : Cond) ∈ wsX2_plan := (sbX2_plan_X2_plan_r2 _ (memL 7 rfl))
theorem mwX2_plan_37 : (.instanceMethod yX2_markOfJob : Cond) ∈ wsX2_plan := (sbX2_plan_X2_plan_r2 _ (memL 6 rfl))
theorem mwX2_plan_38 : (.methodLink RX2 105 yX2_markOfJob : Cond) ∈ wsX2_plan := (sbX2_plan_X2_plan_r2 _ (memL 5 rfl))
theorem mwX2_plan_39 : (.fieldLink RX2 24 "BuoyTender$Planner" "ways" "[I" : Cond) ∈ wsX2_plan := (sbX2_plan_X2_plan_r2 _ (memL 4 rfl))
set_option maxRecDepth 20000 in
theorem sbX2_plan_X2_measure : SubW wsX2_measure wsX2_plan := (subW_cons mwX2_plan_24 (subW_app (subW_app (subW_app (subW_cons mwX2_plan_20 (subW_cons mwX2_plan_39 (subW_cons mwX2_plan_38 (subW_cons mwX2_plan_37 (subW_cons mwX2_plan_36 (subW_cons mwX2_plan_12 (subW_cons mwX2_plan_35 (subW_cons mwX2_plan_19 (subW_cons mwX2_plan_34 (subW_cons mwX2_plan_33 (subW_cons mwX2_plan_32 (subW_cons mwX2_plan_31 (subW_cons mwX2_plan_30 (subW_cons mwX2_plan_29 (subW_cons mwX2_plan_28 (subW_cons mwX2_plan_27 (subW_cons mwX2_plan_26 (subW_cons mwX2_plan_25 subW_nil)))))))))))))))))) sbX2_plan_X20) sbX2_plan_X10) sbX2_plan_X40))
theorem ggX2_plan_X2_measure : GoodIn wsX2_plan wsX2_measure := goodIn_W gw_wsX2_plan sbX2_plan_X2_measure
theorem mwX2_plan_40 : (.selects RX2 yX2_measure yX2_measure : Cond) ∈ wsX2_plan := (sbX2_plan_X2_plan_r2 _ (memL 2 rfl))
theorem mwX2_plan_41 : (.instanceMethod yX2_measure : Cond) ∈ wsX2_plan := (sbX2_plan_X2_plan_r2 _ (memL 1 rfl))
theorem mwX2_plan_42 : (.methodLink RX2 52 yX2_measure : Cond) ∈ wsX2_plan := (sbX2_plan_X2_plan_r2 _ (memL 0 rfl))
theorem gX2_plan_X2_measure : GoodIn wsX2_plan (wsV RX2 52 RX2 yX2_measure wsX2_measure) := goodIn_W gw_wsX2_plan (subW_app (subW_cons mwX2_plan_42 (subW_cons mwX2_plan_41 (subW_cons mwX2_plan_40 (subW_cons mwX2_plan_12 subW_nil)))) sbX2_plan_X2_measure)
theorem mwX2_plan_43 : (.code yX2_findEarliestEnds cX2_findEarliestEnds 7 none : Cond) ∈ wsX2_plan := (sbX2_plan_X2_plan_r2 _ (memL 22 rfl))
theorem mwX2_plan_44 : (.methodLink RX2 153 yX2_without : Cond) ∈ wsX2_plan := (sbX2_plan_X2_plan_r3 _ (memL 16 rfl))
theorem mwX2_plan_45 : (.code yX2_earliestEnd cX2_earliestEnd 7 (some .int) : Cond) ∈ wsX2_plan := (sbX2_plan_X2_plan_r3 _ (memL 15 rfl))
theorem mwX2_plan_46 : (.selects RX2 yX2_earliestEnd yX2_earliestEnd : Cond) ∈ wsX2_plan := (sbX2_plan_X2_plan_r3 _ (memL 14 rfl))
theorem mwX2_plan_47 : (.instanceMethod yX2_earliestEnd : Cond) ∈ wsX2_plan := (sbX2_plan_X2_plan_r3 _ (memL 13 rfl))
theorem mwX2_plan_48 : (.methodLink RX2 146 yX2_earliestEnd : Cond) ∈ wsX2_plan := (sbX2_plan_X2_plan_r3 _ (memL 12 rfl))
theorem mwX2_plan_49 : (.code yX2_isIn cX2_isIn 2 (some .boolean) : Cond) ∈ wsX2_plan := (sbX2_plan_X2_plan_r3 _ (memL 11 rfl))
theorem mwX2_plan_50 : (.static yX2_isIn : Cond) ∈ wsX2_plan := (sbX2_plan_X2_plan_r3 _ (memL 10 rfl))
theorem mwX2_plan_51 : (.methodLink RX2 128 yX2_isIn : Cond) ∈ wsX2_plan := (sbX2_plan_X2_plan_r3 _ (memL 9 rfl))
theorem mwX2_plan_52 : (.code yX2_sumOver cX2_sumOver 5 (some .int) : Cond) ∈ wsX2_plan := (sbX2_plan_X2_plan_r3 _ (memL 8 rfl))
theorem mwX2_plan_53 : (.selects RX2 yX2_sumOver yX2_sumOver : Cond) ∈ wsX2_plan := (sbX2_plan_X2_plan_r3 _ (memL 7 rfl))
theorem mwX2_plan_54 : (.instanceMethod yX2_sumOver : Cond) ∈ wsX2_plan := (sbX2_plan_X2_plan_r3 _ (memL 6 rfl))
theorem mwX2_plan_55 : (.methodLink RX2 139 yX2_sumOver : Cond) ∈ wsX2_plan := (sbX2_plan_X2_plan_r3 _ (memL 5 rfl))
theorem mwX2_plan_56 : (.code Lib.Math.min.name Lib.Math.min.code 2 (some .int) : Cond) ∈ wsX2_plan := (sbX2_plan_X2_plan_r3 _ (memL 4 rfl))
theorem mwX2_plan_57 : (.static Lib.Math.min.name : Cond) ∈ wsX2_plan := (sbX2_plan_X2_plan_r3 _ (memL 3 rfl))
theorem mwX2_plan_58 : (.methodLink RX2 133 Lib.Math.min.name : Cond) ∈ wsX2_plan := (sbX2_plan_X2_plan_r3 _ (memL 2 rfl))
theorem mwX2_plan_59 : (.fieldLink RX2 33 "BuoyTender$Planner" "ends" "[I" : Cond) ∈ wsX2_plan := (sbX2_plan_X2_plan_r3 _ (memL 1 rfl))
theorem mwX2_plan_60 : (.constant RX2 131 (1000000) : Cond) ∈ wsX2_plan := (sbX2_plan_X2_plan_r3 _ (memL 0 rfl))
theorem mwX2_plan_61 : (.fieldLink RX2 36 "BuoyTender$Planner" "backs" "[I" : Cond) ∈ wsX2_plan := (sbX2_plan_X2_plan_r2 _ (memL 23 rfl))
set_option maxRecDepth 20000 in
theorem sbX2_plan_X2_findEarliestEnds_r1 : SubW wsX2_findEarliestEnds_r1 wsX2_plan := (subW_cons mwX2_plan_61 (subW_cons mwX2_plan_20 (subW_cons mwX2_plan_60 (subW_cons mwX2_plan_17 (subW_cons mwX2_plan_59 (subW_cons mwX2_plan_39 (subW_cons mwX2_plan_58 (subW_cons mwX2_plan_57 (subW_cons mwX2_plan_29 (subW_cons mwX2_plan_56 (subW_cons mwX2_plan_55 (subW_cons mwX2_plan_54 (subW_cons mwX2_plan_53 (subW_cons mwX2_plan_12 (subW_cons mwX2_plan_52 (subW_cons mwX2_plan_51 (subW_cons mwX2_plan_50 (subW_cons mwX2_plan_49 (subW_cons mwX2_plan_48 (subW_cons mwX2_plan_47 (subW_cons mwX2_plan_46 (subW_cons mwX2_plan_45 (subW_cons mwX2_plan_18 (subW_cons mwX2_plan_44 subW_nil))))))))))))))))))))))))
theorem mwX2_plan_62 : (.code yX2_beginFrom cX2_beginFrom 5 (some .int) : Cond) ∈ wsX2_plan := (sbX2_plan_X2_plan_r3 _ (memL 22 rfl))
theorem mwX2_plan_63 : (.selects RX2 yX2_beginFrom yX2_beginFrom : Cond) ∈ wsX2_plan := (sbX2_plan_X2_plan_r3 _ (memL 21 rfl))
theorem mwX2_plan_64 : (.instanceMethod yX2_beginFrom : Cond) ∈ wsX2_plan := (sbX2_plan_X2_plan_r3 _ (memL 20 rfl))
theorem mwX2_plan_65 : (.methodLink RX2 156 yX2_beginFrom : Cond) ∈ wsX2_plan := (sbX2_plan_X2_plan_r3 _ (memL 19 rfl))
theorem mwX2_plan_66 : (.code yX2_without cX2_without 2 (some .int) : Cond) ∈ wsX2_plan := (sbX2_plan_X2_plan_r3 _ (memL 18 rfl))
theorem mwX2_plan_67 : (.static yX2_without : Cond) ∈ wsX2_plan := (sbX2_plan_X2_plan_r3 _ (memL 17 rfl))
set_option maxRecDepth 20000 in
theorem sbX2_plan_X2_findEarliestEnds_r2 : SubW wsX2_findEarliestEnds_r2 wsX2_plan := (subW_cons mwX2_plan_67 (subW_cons mwX2_plan_66 (subW_cons mwX2_plan_65 (subW_cons mwX2_plan_64 (subW_cons mwX2_plan_63 (subW_cons mwX2_plan_62 (subW_cons mwX2_plan_9 subW_nil)))))))
set_option maxRecDepth 20000 in
theorem sbX2_plan_X2_findEarliestEnds : SubW wsX2_findEarliestEnds wsX2_plan := (subW_cons mwX2_plan_43 (subW_app (subW_app (subW_app sbX2_plan_X2_findEarliestEnds_r1 sbX2_plan_X2_findEarliestEnds_r2) sbX2_plan_X20) sbX2_plan_X40))
theorem ggX2_plan_X2_findEarliestEnds : GoodIn wsX2_plan wsX2_findEarliestEnds := goodIn_W gw_wsX2_plan sbX2_plan_X2_findEarliestEnds
theorem mwX2_plan_68 : (.selects RX2 yX2_findEarliestEnds yX2_findEarliestEnds : Cond) ∈ wsX2_plan := (sbX2_plan_X2_plan_r2 _ (memL 21 rfl))
theorem mwX2_plan_69 : (.instanceMethod yX2_findEarliestEnds : Cond) ∈ wsX2_plan := (sbX2_plan_X2_plan_r2 _ (memL 20 rfl))
theorem mwX2_plan_70 : (.methodLink RX2 56 yX2_findEarliestEnds : Cond) ∈ wsX2_plan := (sbX2_plan_X2_plan_r2 _ (memL 19 rfl))
theorem gX2_plan_X2_findEarliestEnds : GoodIn wsX2_plan (wsV RX2 56 RX2 yX2_findEarliestEnds wsX2_findEarliestEnds) := goodIn_W gw_wsX2_plan (subW_app (subW_cons mwX2_plan_70 (subW_cons mwX2_plan_69 (subW_cons mwX2_plan_68 (subW_cons mwX2_plan_12 subW_nil)))) sbX2_plan_X2_findEarliestEnds)
theorem mwX2_plan_71 : (.code yX2_chooseBest cX2_chooseBest 3 none : Cond) ∈ wsX2_plan := (sbX2_plan_X2_plan_r4 _ (memL 2 rfl))
theorem mwX2_plan_72 : (.fieldLink RX2 162 "BuoyTender$Planner" "bestBack" "I" : Cond) ∈ wsX2_plan := (sbX2_plan_X2_plan_r4 _ (memL 4 rfl))
theorem mwX2_plan_73 : (.fieldLink RX2 159 "BuoyTender$Planner" "bestWeight" "I" : Cond) ∈ wsX2_plan := (sbX2_plan_X2_plan_r4 _ (memL 3 rfl))
set_option maxRecDepth 20000 in
theorem sbX2_plan_X2_chooseBest : SubW wsX2_chooseBest wsX2_plan := (subW_cons mwX2_plan_71 (subW_app (subW_cons mwX2_plan_73 (subW_cons mwX2_plan_61 (subW_cons mwX2_plan_72 (subW_cons mwX2_plan_20 (subW_cons mwX2_plan_60 (subW_cons mwX2_plan_16 (subW_cons mwX2_plan_55 (subW_cons mwX2_plan_54 (subW_cons mwX2_plan_53 (subW_cons mwX2_plan_12 (subW_cons mwX2_plan_52 (subW_cons mwX2_plan_51 (subW_cons mwX2_plan_50 (subW_cons mwX2_plan_49 subW_nil)))))))))))))) sbX2_plan_X20))
theorem ggX2_plan_X2_chooseBest : GoodIn wsX2_plan wsX2_chooseBest := goodIn_W gw_wsX2_plan sbX2_plan_X2_chooseBest
theorem mwX2_plan_74 : (.selects RX2 yX2_chooseBest yX2_chooseBest : Cond) ∈ wsX2_plan := (sbX2_plan_X2_plan_r4 _ (memL 1 rfl))
theorem mwX2_plan_75 : (.instanceMethod yX2_chooseBest : Cond) ∈ wsX2_plan := (sbX2_plan_X2_plan_r4 _ (memL 0 rfl))
theorem mwX2_plan_76 : (.methodLink RX2 60 yX2_chooseBest : Cond) ∈ wsX2_plan := (sbX2_plan_X2_plan_r3 _ (memL 23 rfl))
theorem gX2_plan_X2_chooseBest : GoodIn wsX2_plan (wsV RX2 60 RX2 yX2_chooseBest wsX2_chooseBest) := goodIn_W gw_wsX2_plan (subW_app (subW_cons mwX2_plan_76 (subW_cons mwX2_plan_75 (subW_cons mwX2_plan_74 (subW_cons mwX2_plan_12 subW_nil)))) sbX2_plan_X2_chooseBest)
theorem mwX2_plan_77 : (.code yX2_findLatestEnds cX2_findLatestEnds 3 none : Cond) ∈ wsX2_plan := (sbX2_plan_X2_plan_r4 _ (memL 8 rfl))
theorem mwX2_plan_78 : (.selects RX2 yX2_beginUpTo yX2_beginUpTo : Cond) ∈ wsX2_plan := (sbX2_plan_X2_plan_r4 _ (memL 16 rfl))
theorem mwX2_plan_79 : (.instanceMethod yX2_beginUpTo : Cond) ∈ wsX2_plan := (sbX2_plan_X2_plan_r4 _ (memL 15 rfl))
theorem mwX2_plan_80 : (.methodLink RX2 168 yX2_beginUpTo : Cond) ∈ wsX2_plan := (sbX2_plan_X2_plan_r4 _ (memL 14 rfl))
theorem mwX2_plan_81 : (.code yX2_latestEnd cX2_latestEnd 6 (some .int) : Cond) ∈ wsX2_plan := (sbX2_plan_X2_plan_r4 _ (memL 13 rfl))
theorem mwX2_plan_82 : (.selects RX2 yX2_latestEnd yX2_latestEnd : Cond) ∈ wsX2_plan := (sbX2_plan_X2_plan_r4 _ (memL 12 rfl))
theorem mwX2_plan_83 : (.instanceMethod yX2_latestEnd : Cond) ∈ wsX2_plan := (sbX2_plan_X2_plan_r4 _ (memL 11 rfl))
theorem mwX2_plan_84 : (.methodLink RX2 165 yX2_latestEnd : Cond) ∈ wsX2_plan := (sbX2_plan_X2_plan_r4 _ (memL 10 rfl))
theorem mwX2_plan_85 : (.constant RX2 132 (-1000000) : Cond) ∈ wsX2_plan := (sbX2_plan_X2_plan_r4 _ (memL 9 rfl))
set_option maxRecDepth 20000 in
theorem sbX2_plan_X2_findLatestEnds_r1 : SubW wsX2_findLatestEnds_r1 wsX2_plan := (subW_cons mwX2_plan_20 (subW_cons mwX2_plan_59 (subW_cons mwX2_plan_85 (subW_cons mwX2_plan_51 (subW_cons mwX2_plan_50 (subW_cons mwX2_plan_12 (subW_cons mwX2_plan_49 (subW_cons mwX2_plan_84 (subW_cons mwX2_plan_83 (subW_cons mwX2_plan_82 (subW_cons mwX2_plan_81 (subW_cons mwX2_plan_72 (subW_cons mwX2_plan_39 (subW_cons mwX2_plan_18 (subW_cons mwX2_plan_27 (subW_cons mwX2_plan_26 (subW_cons mwX2_plan_29 (subW_cons mwX2_plan_25 (subW_cons mwX2_plan_44 (subW_cons mwX2_plan_67 (subW_cons mwX2_plan_66 (subW_cons mwX2_plan_80 (subW_cons mwX2_plan_79 (subW_cons mwX2_plan_78 subW_nil))))))))))))))))))))))))
theorem mwX2_plan_86 : (.code yX2_beginUpTo cX2_beginUpTo 6 (some .int) : Cond) ∈ wsX2_plan := (sbX2_plan_X2_plan_r4 _ (memL 17 rfl))
set_option maxRecDepth 20000 in
theorem sbX2_plan_X2_findLatestEnds_r2 : SubW wsX2_findLatestEnds_r2 wsX2_plan := (subW_cons mwX2_plan_86 (subW_cons mwX2_plan_58 (subW_cons mwX2_plan_57 (subW_cons mwX2_plan_56 (subW_cons mwX2_plan_10 subW_nil)))))
set_option maxRecDepth 20000 in
theorem sbX2_plan_X2_findLatestEnds : SubW wsX2_findLatestEnds wsX2_plan := (subW_cons mwX2_plan_77 (subW_app (subW_app sbX2_plan_X2_findLatestEnds_r1 sbX2_plan_X2_findLatestEnds_r2) sbX2_plan_X20))
theorem ggX2_plan_X2_findLatestEnds : GoodIn wsX2_plan wsX2_findLatestEnds := goodIn_W gw_wsX2_plan sbX2_plan_X2_findLatestEnds
theorem mwX2_plan_87 : (.selects RX2 yX2_findLatestEnds yX2_findLatestEnds : Cond) ∈ wsX2_plan := (sbX2_plan_X2_plan_r4 _ (memL 7 rfl))
theorem mwX2_plan_88 : (.instanceMethod yX2_findLatestEnds : Cond) ∈ wsX2_plan := (sbX2_plan_X2_plan_r4 _ (memL 6 rfl))
theorem mwX2_plan_89 : (.methodLink RX2 63 yX2_findLatestEnds : Cond) ∈ wsX2_plan := (sbX2_plan_X2_plan_r4 _ (memL 5 rfl))
theorem gX2_plan_X2_findLatestEnds : GoodIn wsX2_plan (wsV RX2 63 RX2 yX2_findLatestEnds wsX2_findLatestEnds) := goodIn_W gw_wsX2_plan (subW_app (subW_cons mwX2_plan_89 (subW_cons mwX2_plan_88 (subW_cons mwX2_plan_87 (subW_cons mwX2_plan_12 subW_nil)))) sbX2_plan_X2_findLatestEnds)
theorem mwX2_plan_90 : (.code yX2_chooseOrder cX2_chooseOrder 4 none : Cond) ∈ wsX2_plan := (sbX2_plan_X2_plan_r4 _ (memL 21 rfl))
theorem mwX2_plan_91 : (.code yX2_tryFirstOrder cX2_tryFirstOrder 9 (some .int) : Cond) ∈ wsX2_plan := (sbX2_plan_X2_plan_r5 _ (memL 8 rfl))
theorem mwX2_plan_92 : (.selects RX2 yX2_tryFirstOrder yX2_tryFirstOrder : Cond) ∈ wsX2_plan := (sbX2_plan_X2_plan_r5 _ (memL 7 rfl))
theorem mwX2_plan_93 : (.instanceMethod yX2_tryFirstOrder : Cond) ∈ wsX2_plan := (sbX2_plan_X2_plan_r5 _ (memL 6 rfl))
theorem mwX2_plan_94 : (.methodLink RX2 171 yX2_tryFirstOrder : Cond) ∈ wsX2_plan := (sbX2_plan_X2_plan_r5 _ (memL 5 rfl))
theorem mwX2_plan_95 : (.initialized "java/lang/System" : Cond) ∈ wsX2_plan := (sbX2_plan_X2_plan_r5 _ (memL 4 rfl))
theorem mwX2_plan_96 : (.static arraycopyName : Cond) ∈ wsX2_plan := (sbX2_plan_X2_plan_r5 _ (memL 3 rfl))
theorem mwX2_plan_97 : (.native arraycopyName : Cond) ∈ wsX2_plan := (sbX2_plan_X2_plan_r5 _ (memL 2 rfl))
theorem mwX2_plan_98 : (.methodLink RX2 179 arraycopyName : Cond) ∈ wsX2_plan := (sbX2_plan_X2_plan_r5 _ (memL 1 rfl))
theorem mwX2_plan_99 : (.fieldLink RX2 42 "BuoyTender$Planner" "order" "[I" : Cond) ∈ wsX2_plan := (sbX2_plan_X2_plan_r5 _ (memL 0 rfl))
theorem mwX2_plan_100 : (.fieldLink RX2 39 "BuoyTender$Planner" "tried" "[I" : Cond) ∈ wsX2_plan := (sbX2_plan_X2_plan_r4 _ (memL 23 rfl))
theorem mwX2_plan_101 : (.fieldLink RX2 72 "BuoyTender$Planner" "length" "I" : Cond) ∈ wsX2_plan := (sbX2_plan_X2_plan_r4 _ (memL 22 rfl))
set_option maxRecDepth 20000 in
theorem sbX2_plan_X2_chooseOrder_r1 : SubW wsX2_chooseOrder_r1 wsX2_plan := (subW_cons mwX2_plan_101 (subW_cons mwX2_plan_20 (subW_cons mwX2_plan_61 (subW_cons mwX2_plan_72 (subW_cons mwX2_plan_16 (subW_cons mwX2_plan_73 (subW_cons mwX2_plan_100 (subW_cons mwX2_plan_99 (subW_cons mwX2_plan_98 (subW_cons mwX2_plan_97 (subW_cons mwX2_plan_96 (subW_cons mwX2_plan_95 (subW_cons mwX2_plan_55 (subW_cons mwX2_plan_54 (subW_cons mwX2_plan_53 (subW_cons mwX2_plan_12 (subW_cons mwX2_plan_52 (subW_cons mwX2_plan_51 (subW_cons mwX2_plan_50 (subW_cons mwX2_plan_49 (subW_cons mwX2_plan_94 (subW_cons mwX2_plan_93 (subW_cons mwX2_plan_92 (subW_cons mwX2_plan_91 subW_nil))))))))))))))))))))))))
theorem mwX2_plan_102 : (.code yX2_isTriedFirst cX2_isTriedFirst 3 (some .boolean) : Cond) ∈ wsX2_plan := (sbX2_plan_X2_plan_r5 _ (memL 16 rfl))
theorem mwX2_plan_103 : (.selects RX2 yX2_isTriedFirst yX2_isTriedFirst : Cond) ∈ wsX2_plan := (sbX2_plan_X2_plan_r5 _ (memL 15 rfl))
theorem mwX2_plan_104 : (.instanceMethod yX2_isTriedFirst : Cond) ∈ wsX2_plan := (sbX2_plan_X2_plan_r5 _ (memL 14 rfl))
theorem mwX2_plan_105 : (.methodLink RX2 175 yX2_isTriedFirst : Cond) ∈ wsX2_plan := (sbX2_plan_X2_plan_r5 _ (memL 13 rfl))
theorem mwX2_plan_106 : (.code yX2_lowestNext cX2_lowestNext 6 (some .int) : Cond) ∈ wsX2_plan := (sbX2_plan_X2_plan_r5 _ (memL 12 rfl))
theorem mwX2_plan_107 : (.selects RX2 yX2_lowestNext yX2_lowestNext : Cond) ∈ wsX2_plan := (sbX2_plan_X2_plan_r5 _ (memL 11 rfl))
theorem mwX2_plan_108 : (.instanceMethod yX2_lowestNext : Cond) ∈ wsX2_plan := (sbX2_plan_X2_plan_r5 _ (memL 10 rfl))
theorem mwX2_plan_109 : (.methodLink RX2 185 yX2_lowestNext : Cond) ∈ wsX2_plan := (sbX2_plan_X2_plan_r5 _ (memL 9 rfl))
set_option maxRecDepth 20000 in
theorem sbX2_plan_X2_chooseOrder_r2 : SubW wsX2_chooseOrder_r2 wsX2_plan := (subW_cons mwX2_plan_39 (subW_cons mwX2_plan_18 (subW_cons mwX2_plan_109 (subW_cons mwX2_plan_108 (subW_cons mwX2_plan_107 (subW_cons mwX2_plan_106 (subW_cons mwX2_plan_59 (subW_cons mwX2_plan_65 (subW_cons mwX2_plan_64 (subW_cons mwX2_plan_63 (subW_cons mwX2_plan_62 (subW_cons mwX2_plan_60 (subW_cons mwX2_plan_9 (subW_cons mwX2_plan_44 (subW_cons mwX2_plan_67 (subW_cons mwX2_plan_66 (subW_cons mwX2_plan_105 (subW_cons mwX2_plan_104 (subW_cons mwX2_plan_103 (subW_cons mwX2_plan_102 subW_nil))))))))))))))))))))
set_option maxRecDepth 20000 in
theorem sbX2_plan_X2_chooseOrder : SubW wsX2_chooseOrder wsX2_plan := (subW_cons mwX2_plan_90 (subW_app (subW_app (subW_app sbX2_plan_X2_chooseOrder_r1 sbX2_plan_X2_chooseOrder_r2) sbX2_plan_X20) sbX2_plan_X40))
theorem ggX2_plan_X2_chooseOrder : GoodIn wsX2_plan wsX2_chooseOrder := goodIn_W gw_wsX2_plan sbX2_plan_X2_chooseOrder
theorem mwX2_plan_110 : (.selects RX2 yX2_chooseOrder yX2_chooseOrder : Cond) ∈ wsX2_plan := (sbX2_plan_X2_plan_r4 _ (memL 20 rfl))
theorem mwX2_plan_111 : (.instanceMethod yX2_chooseOrder : Cond) ∈ wsX2_plan := (sbX2_plan_X2_plan_r4 _ (memL 19 rfl))
theorem mwX2_plan_112 : (.methodLink RX2 66 yX2_chooseOrder : Cond) ∈ wsX2_plan := (sbX2_plan_X2_plan_r4 _ (memL 18 rfl))
theorem gX2_plan_X2_chooseOrder : GoodIn wsX2_plan (wsV RX2 66 RX2 yX2_chooseOrder wsX2_chooseOrder) := goodIn_W gw_wsX2_plan (subW_app (subW_cons mwX2_plan_112 (subW_cons mwX2_plan_111 (subW_cons mwX2_plan_110 (subW_cons mwX2_plan_12 subW_nil)))) sbX2_plan_X2_chooseOrder)
theorem mwX2_plan_113 : (.code yX2_timeOrder cX2_timeOrder 6 none : Cond) ∈ wsX2_plan := (sbX2_plan_X2_plan_r5 _ (memL 20 rfl))
theorem mwX2_plan_114 : (.fieldLink RX2 45 "BuoyTender$Planner" "begins" "[I" : Cond) ∈ wsX2_plan := (sbX2_plan_X2_plan_r5 _ (memL 21 rfl))
set_option maxRecDepth 20000 in
theorem sbX2_plan_X2_timeOrder : SubW wsX2_timeOrder wsX2_plan := (subW_cons mwX2_plan_113 (subW_app (subW_app (subW_cons mwX2_plan_101 (subW_cons mwX2_plan_99 (subW_cons mwX2_plan_114 (subW_cons mwX2_plan_39 (subW_cons mwX2_plan_18 (subW_cons mwX2_plan_65 (subW_cons mwX2_plan_64 (subW_cons mwX2_plan_63 (subW_cons mwX2_plan_12 (subW_cons mwX2_plan_62 (subW_cons mwX2_plan_60 (subW_cons mwX2_plan_9 subW_nil)))))))))))) sbX2_plan_X40) sbX2_plan_X20))
theorem ggX2_plan_X2_timeOrder : GoodIn wsX2_plan wsX2_timeOrder := goodIn_W gw_wsX2_plan sbX2_plan_X2_timeOrder
theorem mwX2_plan_115 : (.selects RX2 yX2_timeOrder yX2_timeOrder : Cond) ∈ wsX2_plan := (sbX2_plan_X2_plan_r5 _ (memL 19 rfl))
theorem mwX2_plan_116 : (.instanceMethod yX2_timeOrder : Cond) ∈ wsX2_plan := (sbX2_plan_X2_plan_r5 _ (memL 18 rfl))
theorem mwX2_plan_117 : (.methodLink RX2 69 yX2_timeOrder : Cond) ∈ wsX2_plan := (sbX2_plan_X2_plan_r5 _ (memL 17 rfl))
theorem gX2_plan_X2_timeOrder : GoodIn wsX2_plan (wsV RX2 69 RX2 yX2_timeOrder wsX2_timeOrder) := goodIn_W gw_wsX2_plan (subW_app (subW_cons mwX2_plan_117 (subW_cons mwX2_plan_116 (subW_cons mwX2_plan_115 (subW_cons mwX2_plan_12 subW_nil)))) sbX2_plan_X2_timeOrder)
theorem dX2_plan_0 : decode cX2_plan 0 = .ok (.aload_n 0, 1) := by decide +kernel
theorem dX2_plan_1 : decode cX2_plan 1 = .ok (.aload_n 1, 1) := by decide +kernel
theorem dX2_plan_2 : decode cX2_plan 2 = .ok (.aload_n 2, 1) := by decide +kernel
theorem dX2_plan_3 : decode cX2_plan 3 = .ok (.aload_n 3, 1) := by decide +kernel
theorem dX2_plan_4 : decode cX2_plan 4 = .ok (.invokevirtual 48, 3) := by decide +kernel
theorem dX2_plan_7 : decode cX2_plan 7 = .ok (.aload_n 0, 1) := by decide +kernel
theorem dX2_plan_8 : decode cX2_plan 8 = .ok (.aload_n 1, 1) := by decide +kernel
theorem dX2_plan_9 : decode cX2_plan 9 = .ok (.aload_n 3, 1) := by decide +kernel
theorem dX2_plan_10 : decode cX2_plan 10 = .ok (.invokevirtual 52, 3) := by decide +kernel
theorem dX2_plan_13 : decode cX2_plan 13 = .ok (.aload_n 0, 1) := by decide +kernel
theorem dX2_plan_14 : decode cX2_plan 14 = .ok (.aload_n 3, 1) := by decide +kernel
theorem dX2_plan_15 : decode cX2_plan 15 = .ok (.invokevirtual 56, 3) := by decide +kernel
theorem dX2_plan_18 : decode cX2_plan 18 = .ok (.aload_n 0, 1) := by decide +kernel
theorem dX2_plan_19 : decode cX2_plan 19 = .ok (.invokevirtual 60, 3) := by decide +kernel
theorem dX2_plan_22 : decode cX2_plan 22 = .ok (.aload_n 0, 1) := by decide +kernel
theorem dX2_plan_23 : decode cX2_plan 23 = .ok (.invokevirtual 63, 3) := by decide +kernel
theorem dX2_plan_26 : decode cX2_plan 26 = .ok (.aload_n 0, 1) := by decide +kernel
theorem dX2_plan_27 : decode cX2_plan 27 = .ok (.aload_n 3, 1) := by decide +kernel
theorem dX2_plan_28 : decode cX2_plan 28 = .ok (.invokevirtual 66, 3) := by decide +kernel
theorem dX2_plan_31 : decode cX2_plan 31 = .ok (.aload_n 0, 1) := by decide +kernel
theorem dX2_plan_32 : decode cX2_plan 32 = .ok (.aload_n 3, 1) := by decide +kernel
theorem dX2_plan_33 : decode cX2_plan 33 = .ok (.invokevirtual 69, 3) := by decide +kernel
theorem dX2_plan_36 : decode cX2_plan 36 = .ok (.return_, 1) := by decide +kernel
theorem dX2_loadDone_0 : decode cX2_loadDone 0 = .ok (.iconst 0, 1) := by decide +kernel
theorem dX2_loadDone_1 : decode cX2_loadDone 1 = .ok (.istore_n 1, 1) := by decide +kernel
theorem dX2_loadDone_2 : decode cX2_loadDone 2 = .ok (.iconst 0, 1) := by decide +kernel
theorem dX2_loadDone_3 : decode cX2_loadDone 3 = .ok (.istore_n 2, 1) := by decide +kernel
theorem dX2_loadDone_4 : decode cX2_loadDone 4 = .ok (.iload_n 2, 1) := by decide +kernel
theorem dX2_loadDone_5 : decode cX2_loadDone 5 = .ok (.aload_n 0, 1) := by decide +kernel
theorem dX2_loadDone_6 : decode cX2_loadDone 6 = .ok (.getfield 72, 3) := by decide +kernel
theorem dX2_loadDone_9 : decode cX2_loadDone 9 = .ok (.if_icmp .ge 23, 3) := by decide +kernel
theorem dX2_loadDone_12 : decode cX2_loadDone 12 = .ok (.iload_n 1, 1) := by decide +kernel
theorem dX2_loadDone_13 : decode cX2_loadDone 13 = .ok (.aload_n 0, 1) := by decide +kernel
theorem dX2_loadDone_14 : decode cX2_loadDone 14 = .ok (.getfield 18, 3) := by decide +kernel
theorem dX2_loadDone_17 : decode cX2_loadDone 17 = .ok (.aload_n 0, 1) := by decide +kernel
theorem dX2_loadDone_18 : decode cX2_loadDone 18 = .ok (.getfield 42, 3) := by decide +kernel
theorem dX2_loadDone_21 : decode cX2_loadDone 21 = .ok (.iload_n 2, 1) := by decide +kernel
theorem dX2_loadDone_22 : decode cX2_loadDone 22 = .ok (.iaload, 1) := by decide +kernel
theorem dX2_loadDone_23 : decode cX2_loadDone 23 = .ok (.iaload, 1) := by decide +kernel
theorem dX2_loadDone_24 : decode cX2_loadDone 24 = .ok (.iadd, 1) := by decide +kernel
theorem dX2_loadDone_25 : decode cX2_loadDone 25 = .ok (.istore_n 1, 1) := by decide +kernel
theorem dX2_loadDone_26 : decode cX2_loadDone 26 = .ok (.iinc 2 1, 3) := by decide +kernel
theorem dX2_loadDone_29 : decode cX2_loadDone 29 = .ok (.goto (-25), 3) := by decide +kernel
theorem dX2_loadDone_32 : decode cX2_loadDone 32 = .ok (.iload_n 1, 1) := by decide +kernel
theorem dX2_loadDone_33 : decode cX2_loadDone 33 = .ok (.ireturn, 1) := by decide +kernel
theorem dX2_step_0 : decode cX2_step 0 = .ok (.iload_n 1, 1) := by decide +kernel
theorem dX2_step_1 : decode cX2_step 1 = .ok (.bipush 100, 2) := by decide +kernel
theorem dX2_step_3 : decode cX2_step 3 = .ok (.if_icmp .lt 29, 3) := by decide +kernel
theorem dX2_step_6 : decode cX2_step 6 = .ok (.iload_n 1, 1) := by decide +kernel
theorem dX2_step_7 : decode cX2_step 7 = .ok (.bipush 100, 2) := by decide +kernel
theorem dX2_step_9 : decode cX2_step 9 = .ok (.aload_n 0, 1) := by decide +kernel
theorem dX2_step_10 : decode cX2_step 10 = .ok (.getfield 72, 3) := by decide +kernel
theorem dX2_step_13 : decode cX2_step 13 = .ok (.iadd, 1) := by decide +kernel
theorem dX2_step_14 : decode cX2_step 14 = .ok (.if_icmp .ge 18, 3) := by decide +kernel
theorem dX2_step_17 : decode cX2_step 17 = .ok (.aload_n 0, 1) := by decide +kernel
theorem dX2_step_18 : decode cX2_step 18 = .ok (.getfield 9, 3) := by decide +kernel
theorem dX2_step_21 : decode cX2_step 21 = .ok (.aload_n 0, 1) := by decide +kernel
theorem dX2_step_22 : decode cX2_step 22 = .ok (.getfield 42, 3) := by decide +kernel
theorem dX2_step_25 : decode cX2_step 25 = .ok (.iload_n 1, 1) := by decide +kernel
theorem dX2_step_26 : decode cX2_step 26 = .ok (.bipush 100, 2) := by decide +kernel
theorem dX2_step_28 : decode cX2_step 28 = .ok (.isub, 1) := by decide +kernel
theorem dX2_step_29 : decode cX2_step 29 = .ok (.iaload, 1) := by decide +kernel
theorem dX2_step_30 : decode cX2_step 30 = .ok (.iaload, 1) := by decide +kernel
theorem dX2_step_31 : decode cX2_step 31 = .ok (.ireturn, 1) := by decide +kernel
theorem dX2_step_32 : decode cX2_step 32 = .ok (.iload_n 1, 1) := by decide +kernel
theorem dX2_step_33 : decode cX2_step 33 = .ok (.sipush 200, 3) := by decide +kernel
theorem dX2_step_36 : decode cX2_step 36 = .ok (.if_icmp .lt 26, 3) := by decide +kernel
theorem dX2_step_39 : decode cX2_step 39 = .ok (.iload_n 1, 1) := by decide +kernel
theorem dX2_step_40 : decode cX2_step 40 = .ok (.sipush 200, 3) := by decide +kernel
theorem dX2_step_43 : decode cX2_step 43 = .ok (.aload_n 0, 1) := by decide +kernel
theorem dX2_step_44 : decode cX2_step 44 = .ok (.getfield 72, 3) := by decide +kernel
theorem dX2_step_47 : decode cX2_step 47 = .ok (.iadd, 1) := by decide +kernel
theorem dX2_step_48 : decode cX2_step 48 = .ok (.if_icmp .ge 14, 3) := by decide +kernel
theorem dX2_step_51 : decode cX2_step 51 = .ok (.aload_n 0, 1) := by decide +kernel
theorem dX2_step_52 : decode cX2_step 52 = .ok (.getfield 45, 3) := by decide +kernel
theorem dX2_step_55 : decode cX2_step 55 = .ok (.iload_n 1, 1) := by decide +kernel
theorem dX2_step_56 : decode cX2_step 56 = .ok (.sipush 200, 3) := by decide +kernel
theorem dX2_step_59 : decode cX2_step 59 = .ok (.isub, 1) := by decide +kernel
theorem dX2_step_60 : decode cX2_step 60 = .ok (.iaload, 1) := by decide +kernel
theorem dX2_step_61 : decode cX2_step 61 = .ok (.ireturn, 1) := by decide +kernel
theorem dX2_step_62 : decode cX2_step 62 = .ok (.iconst (-1), 1) := by decide +kernel
theorem dX2_step_63 : decode cX2_step 63 = .ok (.ireturn, 1) := by decide +kernel
theorem mwX2_gather_0 : (.code yX2_openHours cX2_openHours 7 none : Cond) ∈ wsX2_gather := (List.mem_cons_of_mem _ (List.mem_append_left _ (List.mem_append_left _ (List.mem_append_left _ (memL 9 rfl)))))
theorem mwX2_gather_1 : (.fieldLink RX4 25 "BuoyTender$Ship" "mostWind" "I" : Cond) ∈ wsX2_gather := (List.mem_cons_of_mem _ (List.mem_append_left _ (List.mem_append_left _ (List.mem_append_left _ (memL 19 rfl)))))
theorem mwX2_gather_2 : (.fieldLink RX4 15 "BuoyTender$Ship" "winds" "[I" : Cond) ∈ wsX2_gather := (List.mem_cons_of_mem _ (List.mem_append_left _ (List.mem_append_left _ (List.mem_append_left _ (memL 18 rfl)))))
theorem mwX2_gather_3 : (.fieldLink RX4 28 "BuoyTender$Ship" "draught" "I" : Cond) ∈ wsX2_gather := (List.mem_cons_of_mem _ (List.mem_append_left _ (List.mem_append_left _ (List.mem_append_left _ (memL 17 rfl)))))
theorem mwX2_gather_4 : (.fieldLink RX4 9 "BuoyTender$Ship" "tides" "[I" : Cond) ∈ wsX2_gather := (List.mem_cons_of_mem _ (List.mem_append_left _ (List.mem_append_left _ (List.mem_append_left _ (memL 16 rfl)))))
theorem mwX2_gather_5 : (.code yX4_mayBegin cX4_mayBegin 3 (some .boolean) : Cond) ∈ wsX2_gather := (List.mem_cons_of_mem _ (List.mem_append_left _ (List.mem_append_left _ (List.mem_append_left _ (memL 15 rfl)))))
theorem mwX2_gather_6 : (.selects RX4 yX4_mayBegin yX4_mayBegin : Cond) ∈ wsX2_gather := (List.mem_cons_of_mem _ (List.mem_append_left _ (List.mem_append_left _ (List.mem_append_left _ (memL 14 rfl)))))
theorem mwX2_gather_7 : (.initialized RX4 : Cond) ∈ wsX2_gather := (List.mem_cons_of_mem _ (List.mem_append_left _ (List.mem_append_left _ (List.mem_append_left _ (memL 13 rfl)))))
theorem mwX2_gather_8 : (.instanceMethod yX4_mayBegin : Cond) ∈ wsX2_gather := (List.mem_cons_of_mem _ (List.mem_append_left _ (List.mem_append_left _ (List.mem_append_left _ (memL 12 rfl)))))
theorem mwX2_gather_9 : (.fieldLink RX2 27 "BuoyTender$Planner" "opensIn" "[I" : Cond) ∈ wsX2_gather := (List.mem_cons_of_mem _ (List.mem_append_left _ (List.mem_append_left _ (List.mem_append_left _ (memL 11 rfl)))))
theorem mwX2_gather_10 : (.fieldLink RX2 30 "BuoyTender$Planner" "openedIn" "[I" : Cond) ∈ wsX2_gather := (List.mem_cons_of_mem _ (List.mem_append_left _ (List.mem_append_left _ (List.mem_append_left _ (memL 10 rfl)))))
set_option maxRecDepth 20000 in
theorem sbX2_gather_X20 : SubW wsX20 wsX2_gather := fun _ h => (List.mem_cons_of_mem _ (List.mem_append_left _ (List.mem_append_left _ (List.mem_append_right _ h))))
set_option maxRecDepth 20000 in
theorem sbX2_gather_X40 : SubW wsX40 wsX2_gather := fun _ h => (List.mem_cons_of_mem _ (List.mem_append_right _ h))
set_option maxRecDepth 20000 in
theorem sbX2_gather_X2_openHours : SubW wsX2_openHours wsX2_gather := (subW_cons mwX2_gather_0 (subW_app (subW_app (subW_cons mwX2_gather_10 (subW_cons mwX2_gather_9 (subW_cons mwX2_gather_8 (subW_cons mwX2_gather_7 (subW_cons mwX2_gather_6 (subW_cons mwX2_gather_5 (subW_cons mwX2_gather_4 (subW_cons mwX2_gather_3 (subW_cons mwX2_gather_2 (subW_cons mwX2_gather_1 subW_nil)))))))))) sbX2_gather_X20) sbX2_gather_X40))
set_option maxRecDepth 20000 in
theorem gw_wsX2_gather : goodW wsX2_gather := (goodW_cons rfl (goodW_app (goodW_app (goodW_app (goodW_of (by decide +kernel)) gw_wsX20) gw_wsX10) gw_wsX40))
theorem ggX2_gather_X2_openHours : GoodIn wsX2_gather wsX2_openHours := goodIn_W gw_wsX2_gather sbX2_gather_X2_openHours
theorem mwX2_gather_11 : (.initialized RX2 : Cond) ∈ wsX2_gather := (List.mem_cons_of_mem _ (List.mem_append_left _ (List.mem_append_left _ (List.mem_append_left _ (memL 8 rfl)))))
theorem mwX2_gather_12 : (.selects RX2 yX2_openHours yX2_openHours : Cond) ∈ wsX2_gather := (List.mem_cons_of_mem _ (List.mem_append_left _ (List.mem_append_left _ (List.mem_append_left _ (memL 7 rfl)))))
theorem mwX2_gather_13 : (.instanceMethod yX2_openHours : Cond) ∈ wsX2_gather := (List.mem_cons_of_mem _ (List.mem_append_left _ (List.mem_append_left _ (List.mem_append_left _ (memL 6 rfl)))))
theorem mwX2_gather_14 : (.methodLink RX2 95 yX2_openHours : Cond) ∈ wsX2_gather := (List.mem_cons_of_mem _ (List.mem_append_left _ (List.mem_append_left _ (List.mem_append_left _ (memL 5 rfl)))))
theorem gX2_gather_X2_openHours : GoodIn wsX2_gather (wsV RX2 95 RX2 yX2_openHours wsX2_openHours) := goodIn_W gw_wsX2_gather (subW_app (subW_cons mwX2_gather_14 (subW_cons mwX2_gather_13 (subW_cons mwX2_gather_12 (subW_cons mwX2_gather_11 subW_nil)))) sbX2_gather_X2_openHours)
theorem dX2_gather_0 : decode cX2_gather 0 = .ok (.aload_n 0, 1) := by decide +kernel
theorem dX2_gather_1 : decode cX2_gather 1 = .ok (.iconst 0, 1) := by decide +kernel
theorem dX2_gather_2 : decode cX2_gather 2 = .ok (.putfield 76, 3) := by decide +kernel
theorem dX2_gather_5 : decode cX2_gather 5 = .ok (.iconst 0, 1) := by decide +kernel
theorem dX2_gather_6 : decode cX2_gather 6 = .ok (.istore 4, 2) := by decide +kernel
theorem dX2_gather_8 : decode cX2_gather 8 = .ok (.iload 4, 2) := by decide +kernel
theorem dX2_gather_10 : decode cX2_gather 10 = .ok (.bipush 10, 2) := by decide +kernel
theorem dX2_gather_12 : decode cX2_gather 12 = .ok (.if_icmp .ge 143, 3) := by decide +kernel
theorem dX2_gather_15 : decode cX2_gather 15 = .ok (.iload 4, 2) := by decide +kernel
theorem dX2_gather_17 : decode cX2_gather 17 = .ok (.aload_n 1, 1) := by decide +kernel
theorem dX2_gather_18 : decode cX2_gather 18 = .ok (.arraylength, 1) := by decide +kernel
theorem dX2_gather_19 : decode cX2_gather 19 = .ok (.if_icmp .ge 136, 3) := by decide +kernel
theorem dX2_gather_22 : decode cX2_gather 22 = .ok (.aload_n 1, 1) := by decide +kernel
theorem dX2_gather_23 : decode cX2_gather 23 = .ok (.iload 4, 2) := by decide +kernel
theorem dX2_gather_25 : decode cX2_gather 25 = .ok (.aaload, 1) := by decide +kernel
theorem dX2_gather_26 : decode cX2_gather 26 = .ok (.astore 5, 2) := by decide +kernel
theorem dX2_gather_28 : decode cX2_gather 28 = .ok (.aload 5, 2) := by decide +kernel
theorem dX2_gather_30 : decode cX2_gather 30 = .ok (.ifnull 119, 3) := by decide +kernel
theorem dX2_gather_33 : decode cX2_gather 33 = .ok (.aload 5, 2) := by decide +kernel
theorem dX2_gather_35 : decode cX2_gather 35 = .ok (.getfield 79, 3) := by decide +kernel
theorem dX2_gather_38 : decode cX2_gather 38 = .ok (.ifCond .le 111, 3) := by decide +kernel
theorem dX2_gather_41 : decode cX2_gather 41 = .ok (.aload_n 0, 1) := by decide +kernel
theorem dX2_gather_42 : decode cX2_gather 42 = .ok (.getfield 9, 3) := by decide +kernel
theorem dX2_gather_45 : decode cX2_gather 45 = .ok (.aload_n 0, 1) := by decide +kernel
theorem dX2_gather_46 : decode cX2_gather 46 = .ok (.getfield 76, 3) := by decide +kernel
theorem dX2_gather_49 : decode cX2_gather 49 = .ok (.iload 4, 2) := by decide +kernel
theorem dX2_gather_51 : decode cX2_gather 51 = .ok (.iastore, 1) := by decide +kernel
theorem dX2_gather_52 : decode cX2_gather 52 = .ok (.aload_n 0, 1) := by decide +kernel
theorem dX2_gather_53 : decode cX2_gather 53 = .ok (.getfield 15, 3) := by decide +kernel
theorem dX2_gather_56 : decode cX2_gather 56 = .ok (.aload_n 0, 1) := by decide +kernel
theorem dX2_gather_57 : decode cX2_gather 57 = .ok (.getfield 76, 3) := by decide +kernel
theorem dX2_gather_60 : decode cX2_gather 60 = .ok (.aload 5, 2) := by decide +kernel
theorem dX2_gather_62 : decode cX2_gather 62 = .ok (.getfield 84, 3) := by decide +kernel
theorem dX2_gather_65 : decode cX2_gather 65 = .ok (.iastore, 1) := by decide +kernel
theorem dX2_gather_66 : decode cX2_gather 66 = .ok (.aload_n 0, 1) := by decide +kernel
theorem dX2_gather_67 : decode cX2_gather 67 = .ok (.getfield 18, 3) := by decide +kernel
theorem dX2_gather_70 : decode cX2_gather 70 = .ok (.aload_n 0, 1) := by decide +kernel
theorem dX2_gather_71 : decode cX2_gather 71 = .ok (.getfield 76, 3) := by decide +kernel
theorem dX2_gather_74 : decode cX2_gather 74 = .ok (.aload 5, 2) := by decide +kernel
theorem dX2_gather_76 : decode cX2_gather 76 = .ok (.getfield 86, 3) := by decide +kernel
theorem dX2_gather_79 : decode cX2_gather 79 = .ok (.iastore, 1) := by decide +kernel
theorem dX2_gather_80 : decode cX2_gather 80 = .ok (.aload_n 0, 1) := by decide +kernel
theorem dX2_gather_81 : decode cX2_gather 81 = .ok (.getfield 21, 3) := by decide +kernel
theorem dX2_gather_84 : decode cX2_gather 84 = .ok (.aload_n 0, 1) := by decide +kernel
theorem dX2_gather_85 : decode cX2_gather 85 = .ok (.getfield 76, 3) := by decide +kernel
theorem dX2_gather_88 : decode cX2_gather 88 = .ok (.aload 5, 2) := by decide +kernel
theorem dX2_gather_90 : decode cX2_gather 90 = .ok (.getfield 79, 3) := by decide +kernel
theorem dX2_gather_93 : decode cX2_gather 93 = .ok (.iastore, 1) := by decide +kernel
theorem dX2_gather_94 : decode cX2_gather 94 = .ok (.aload 5, 2) := by decide +kernel
theorem dX2_gather_96 : decode cX2_gather 96 = .ok (.getfield 89, 3) := by decide +kernel
theorem dX2_gather_99 : decode cX2_gather 99 = .ok (.bipush 40, 2) := by decide +kernel
theorem dX2_gather_101 : decode cX2_gather 101 = .ok (.imul, 1) := by decide +kernel
theorem dX2_gather_102 : decode cX2_gather 102 = .ok (.aload 5, 2) := by decide +kernel
theorem dX2_gather_104 : decode cX2_gather 104 = .ok (.getfield 92, 3) := by decide +kernel
theorem dX2_gather_107 : decode cX2_gather 107 = .ok (.iadd, 1) := by decide +kernel
theorem dX2_gather_108 : decode cX2_gather 108 = .ok (.istore 6, 2) := by decide +kernel
theorem dX2_gather_110 : decode cX2_gather 110 = .ok (.aload_n 0, 1) := by decide +kernel
theorem dX2_gather_111 : decode cX2_gather 111 = .ok (.aload_n 0, 1) := by decide +kernel
theorem dX2_gather_112 : decode cX2_gather 112 = .ok (.getfield 76, 3) := by decide +kernel
theorem dX2_gather_115 : decode cX2_gather 115 = .ok (.iload 6, 2) := by decide +kernel
theorem dX2_gather_117 : decode cX2_gather 117 = .ok (.ifCond .lt 17, 3) := by decide +kernel
theorem dX2_gather_120 : decode cX2_gather 120 = .ok (.iload 6, 2) := by decide +kernel
theorem dX2_gather_122 : decode cX2_gather 122 = .ok (.aload_n 2, 1) := by decide +kernel
theorem dX2_gather_123 : decode cX2_gather 123 = .ok (.arraylength, 1) := by decide +kernel
theorem dX2_gather_124 : decode cX2_gather 124 = .ok (.if_icmp .ge 10, 3) := by decide +kernel
theorem dX2_gather_127 : decode cX2_gather 127 = .ok (.aload_n 2, 1) := by decide +kernel
theorem dX2_gather_128 : decode cX2_gather 128 = .ok (.iload 6, 2) := by decide +kernel
theorem dX2_gather_130 : decode cX2_gather 130 = .ok (.iaload, 1) := by decide +kernel
theorem dX2_gather_131 : decode cX2_gather 131 = .ok (.goto 4, 3) := by decide +kernel
theorem dX2_gather_134 : decode cX2_gather 134 = .ok (.iconst 0, 1) := by decide +kernel
theorem dX2_gather_135 : decode cX2_gather 135 = .ok (.aload_n 3, 1) := by decide +kernel
theorem dX2_gather_136 : decode cX2_gather 136 = .ok (.invokevirtual 95, 3) := by decide +kernel
theorem dX2_gather_139 : decode cX2_gather 139 = .ok (.aload_n 0, 1) := by decide +kernel
theorem dX2_gather_140 : decode cX2_gather 140 = .ok (.dup, 1) := by decide +kernel
theorem dX2_gather_141 : decode cX2_gather 141 = .ok (.getfield 76, 3) := by decide +kernel
theorem dX2_gather_144 : decode cX2_gather 144 = .ok (.iconst 1, 1) := by decide +kernel
theorem dX2_gather_145 : decode cX2_gather 145 = .ok (.iadd, 1) := by decide +kernel
theorem dX2_gather_146 : decode cX2_gather 146 = .ok (.putfield 76, 3) := by decide +kernel
theorem dX2_gather_149 : decode cX2_gather 149 = .ok (.iinc 4 1, 3) := by decide +kernel
theorem dX2_gather_152 : decode cX2_gather 152 = .ok (.goto (-144), 3) := by decide +kernel
theorem dX2_gather_155 : decode cX2_gather 155 = .ok (.return_, 1) := by decide +kernel
theorem mwX2_openHours_0 : (.code yX4_mayBegin cX4_mayBegin 3 (some .boolean) : Cond) ∈ wsX2_openHours := (List.mem_cons_of_mem _ (List.mem_append_left _ (List.mem_append_left _ (memL 5 rfl))))
theorem mwX2_openHours_1 : (.fieldLink RX4 25 "BuoyTender$Ship" "mostWind" "I" : Cond) ∈ wsX2_openHours := (List.mem_cons_of_mem _ (List.mem_append_left _ (List.mem_append_left _ (memL 9 rfl))))
theorem mwX2_openHours_2 : (.fieldLink RX4 15 "BuoyTender$Ship" "winds" "[I" : Cond) ∈ wsX2_openHours := (List.mem_cons_of_mem _ (List.mem_append_left _ (List.mem_append_left _ (memL 8 rfl))))
theorem mwX2_openHours_3 : (.fieldLink RX4 28 "BuoyTender$Ship" "draught" "I" : Cond) ∈ wsX2_openHours := (List.mem_cons_of_mem _ (List.mem_append_left _ (List.mem_append_left _ (memL 7 rfl))))
theorem mwX2_openHours_4 : (.fieldLink RX4 9 "BuoyTender$Ship" "tides" "[I" : Cond) ∈ wsX2_openHours := (List.mem_cons_of_mem _ (List.mem_append_left _ (List.mem_append_left _ (memL 6 rfl))))
set_option maxRecDepth 20000 in
theorem sbX2_openHours_X40 : SubW wsX40 wsX2_openHours := fun _ h => (List.mem_cons_of_mem _ (List.mem_append_right _ h))
set_option maxRecDepth 20000 in
theorem sbX2_openHours_X4_mayBegin : SubW wsX4_mayBegin wsX2_openHours := (subW_cons mwX2_openHours_0 (subW_app (subW_cons mwX2_openHours_4 (subW_cons mwX2_openHours_3 (subW_cons mwX2_openHours_2 (subW_cons mwX2_openHours_1 subW_nil)))) sbX2_openHours_X40))
set_option maxRecDepth 20000 in
theorem gw_wsX2_openHours : goodW wsX2_openHours := (goodW_cons rfl (goodW_app (goodW_app (goodW_of (by decide +kernel)) gw_wsX20) gw_wsX40))
theorem ggX2_openHours_X4_mayBegin : GoodIn wsX2_openHours wsX4_mayBegin := goodIn_W gw_wsX2_openHours sbX2_openHours_X4_mayBegin
set_option maxRecDepth 20000 in
theorem gX2_openHours_X4_mayBegin_n99 : GoodIn wsX2_openHours (wsX4_mayBegin) := ggX2_openHours_X4_mayBegin
theorem dX2_openHours_0 : decode cX2_openHours 0 = .ok (.iconst (-1), 1) := by decide +kernel
theorem dX2_openHours_1 : decode cX2_openHours 1 = .ok (.istore 4, 2) := by decide +kernel
theorem dX2_openHours_3 : decode cX2_openHours 3 = .ok (.iconst 0, 1) := by decide +kernel
theorem dX2_openHours_4 : decode cX2_openHours 4 = .ok (.istore 5, 2) := by decide +kernel
theorem dX2_openHours_6 : decode cX2_openHours 6 = .ok (.iload 5, 2) := by decide +kernel
theorem dX2_openHours_8 : decode cX2_openHours 8 = .ok (.bipush 24, 2) := by decide +kernel
theorem dX2_openHours_10 : decode cX2_openHours 10 = .ok (.if_icmp .ge 42, 3) := by decide +kernel
theorem dX2_openHours_13 : decode cX2_openHours 13 = .ok (.aload_n 3, 1) := by decide +kernel
theorem dX2_openHours_14 : decode cX2_openHours 14 = .ok (.iload_n 2, 1) := by decide +kernel
theorem dX2_openHours_15 : decode cX2_openHours 15 = .ok (.iload 5, 2) := by decide +kernel
theorem dX2_openHours_17 : decode cX2_openHours 17 = .ok (.invokevirtual 99, 3) := by decide +kernel
theorem dX2_openHours_20 : decode cX2_openHours 20 = .ok (.ifCond .eq 8, 3) := by decide +kernel
theorem dX2_openHours_23 : decode cX2_openHours 23 = .ok (.iload 5, 2) := by decide +kernel
theorem dX2_openHours_25 : decode cX2_openHours 25 = .ok (.goto 5, 3) := by decide +kernel
theorem dX2_openHours_28 : decode cX2_openHours 28 = .ok (.iload 4, 2) := by decide +kernel
theorem dX2_openHours_30 : decode cX2_openHours 30 = .ok (.istore 4, 2) := by decide +kernel
theorem dX2_openHours_32 : decode cX2_openHours 32 = .ok (.aload_n 0, 1) := by decide +kernel
theorem dX2_openHours_33 : decode cX2_openHours 33 = .ok (.getfield 30, 3) := by decide +kernel
theorem dX2_openHours_36 : decode cX2_openHours 36 = .ok (.iload_n 1, 1) := by decide +kernel
theorem dX2_openHours_37 : decode cX2_openHours 37 = .ok (.bipush 24, 2) := by decide +kernel
theorem dX2_openHours_39 : decode cX2_openHours 39 = .ok (.imul, 1) := by decide +kernel
theorem dX2_openHours_40 : decode cX2_openHours 40 = .ok (.iload 5, 2) := by decide +kernel
theorem dX2_openHours_42 : decode cX2_openHours 42 = .ok (.iadd, 1) := by decide +kernel
theorem dX2_openHours_43 : decode cX2_openHours 43 = .ok (.iload 4, 2) := by decide +kernel
theorem dX2_openHours_45 : decode cX2_openHours 45 = .ok (.iastore, 1) := by decide +kernel
theorem dX2_openHours_46 : decode cX2_openHours 46 = .ok (.iinc 5 1, 3) := by decide +kernel
theorem dX2_openHours_49 : decode cX2_openHours 49 = .ok (.goto (-43), 3) := by decide +kernel
theorem dX2_openHours_52 : decode cX2_openHours 52 = .ok (.iconst (-1), 1) := by decide +kernel
theorem dX2_openHours_53 : decode cX2_openHours 53 = .ok (.istore 5, 2) := by decide +kernel
theorem dX2_openHours_55 : decode cX2_openHours 55 = .ok (.bipush 23, 2) := by decide +kernel
theorem dX2_openHours_57 : decode cX2_openHours 57 = .ok (.istore 6, 2) := by decide +kernel
theorem dX2_openHours_59 : decode cX2_openHours 59 = .ok (.iload 6, 2) := by decide +kernel
theorem dX2_openHours_61 : decode cX2_openHours 61 = .ok (.ifCond .lt 42, 3) := by decide +kernel
theorem dX2_openHours_64 : decode cX2_openHours 64 = .ok (.aload_n 3, 1) := by decide +kernel
theorem dX2_openHours_65 : decode cX2_openHours 65 = .ok (.iload_n 2, 1) := by decide +kernel
theorem dX2_openHours_66 : decode cX2_openHours 66 = .ok (.iload 6, 2) := by decide +kernel
theorem dX2_openHours_68 : decode cX2_openHours 68 = .ok (.invokevirtual 99, 3) := by decide +kernel
theorem dX2_openHours_71 : decode cX2_openHours 71 = .ok (.ifCond .eq 8, 3) := by decide +kernel
theorem dX2_openHours_74 : decode cX2_openHours 74 = .ok (.iload 6, 2) := by decide +kernel
theorem dX2_openHours_76 : decode cX2_openHours 76 = .ok (.goto 5, 3) := by decide +kernel
theorem dX2_openHours_79 : decode cX2_openHours 79 = .ok (.iload 5, 2) := by decide +kernel
theorem dX2_openHours_81 : decode cX2_openHours 81 = .ok (.istore 5, 2) := by decide +kernel
theorem dX2_openHours_83 : decode cX2_openHours 83 = .ok (.aload_n 0, 1) := by decide +kernel
theorem dX2_openHours_84 : decode cX2_openHours 84 = .ok (.getfield 27, 3) := by decide +kernel
theorem dX2_openHours_87 : decode cX2_openHours 87 = .ok (.iload_n 1, 1) := by decide +kernel
theorem dX2_openHours_88 : decode cX2_openHours 88 = .ok (.bipush 24, 2) := by decide +kernel
theorem dX2_openHours_90 : decode cX2_openHours 90 = .ok (.imul, 1) := by decide +kernel
theorem dX2_openHours_91 : decode cX2_openHours 91 = .ok (.iload 6, 2) := by decide +kernel
theorem dX2_openHours_93 : decode cX2_openHours 93 = .ok (.iadd, 1) := by decide +kernel
theorem dX2_openHours_94 : decode cX2_openHours 94 = .ok (.iload 5, 2) := by decide +kernel
theorem dX2_openHours_96 : decode cX2_openHours 96 = .ok (.iastore, 1) := by decide +kernel
theorem dX2_openHours_97 : decode cX2_openHours 97 = .ok (.iinc 6 (-1), 3) := by decide +kernel
theorem dX2_openHours_100 : decode cX2_openHours 100 = .ok (.goto (-41), 3) := by decide +kernel
theorem dX2_openHours_103 : decode cX2_openHours 103 = .ok (.return_, 1) := by decide +kernel
theorem mwX2_measure_0 : (.code yX2_markOfJob cX2_markOfJob 4 (some (.object "BuoyTender$Mark")) : Cond) ∈ wsX2_measure := (List.mem_cons_of_mem _ (List.mem_append_left _ (List.mem_append_left _ (List.mem_append_left _ (memL 6 rfl)))))
theorem mwX2_measure_1 : (.fieldLink RX2 9 "BuoyTender$Planner" "numbers" "[I" : Cond) ∈ wsX2_measure := (List.mem_cons_of_mem _ (List.mem_append_left _ (List.mem_append_left _ (List.mem_append_left _ (memL 7 rfl)))))
set_option maxRecDepth 20000 in
theorem sbX2_measure_X20 : SubW wsX20 wsX2_measure := fun _ h => (List.mem_cons_of_mem _ (List.mem_append_left _ (List.mem_append_left _ (List.mem_append_right _ h))))
set_option maxRecDepth 20000 in
theorem sbX2_measure_X2_markOfJob : SubW wsX2_markOfJob wsX2_measure := (subW_cons mwX2_measure_0 (subW_app (subW_cons mwX2_measure_1 subW_nil) sbX2_measure_X20))
set_option maxRecDepth 20000 in
theorem gw_wsX2_measure : goodW wsX2_measure := (goodW_cons rfl (goodW_app (goodW_app (goodW_app (goodW_of (by decide +kernel)) gw_wsX20) gw_wsX10) gw_wsX40))
theorem ggX2_measure_X2_markOfJob : GoodIn wsX2_measure wsX2_markOfJob := goodIn_W gw_wsX2_measure sbX2_measure_X2_markOfJob
theorem mwX2_measure_2 : (.initialized RX2 : Cond) ∈ wsX2_measure := (List.mem_cons_of_mem _ (List.mem_append_left _ (List.mem_append_left _ (List.mem_append_left _ (memL 5 rfl)))))
theorem mwX2_measure_3 : (.selects RX2 yX2_markOfJob yX2_markOfJob : Cond) ∈ wsX2_measure := (List.mem_cons_of_mem _ (List.mem_append_left _ (List.mem_append_left _ (List.mem_append_left _ (memL 4 rfl)))))
theorem mwX2_measure_4 : (.instanceMethod yX2_markOfJob : Cond) ∈ wsX2_measure := (List.mem_cons_of_mem _ (List.mem_append_left _ (List.mem_append_left _ (List.mem_append_left _ (memL 3 rfl)))))
theorem mwX2_measure_5 : (.methodLink RX2 105 yX2_markOfJob : Cond) ∈ wsX2_measure := (List.mem_cons_of_mem _ (List.mem_append_left _ (List.mem_append_left _ (List.mem_append_left _ (memL 2 rfl)))))
theorem gX2_measure_X2_markOfJob : GoodIn wsX2_measure (wsV RX2 105 RX2 yX2_markOfJob wsX2_markOfJob) := goodIn_W gw_wsX2_measure (subW_app (subW_cons mwX2_measure_5 (subW_cons mwX2_measure_4 (subW_cons mwX2_measure_3 (subW_cons mwX2_measure_2 subW_nil)))) sbX2_measure_X2_markOfJob)
theorem mwX2_measure_6 : (.code yX2_way cX2_way 4 (some .int) : Cond) ∈ wsX2_measure := (List.mem_cons_of_mem _ (List.mem_append_left _ (List.mem_append_left _ (List.mem_append_left _ (memL 10 rfl)))))
theorem mwX2_measure_7 : (.code Lib.Math.max.name Lib.Math.max.code 2 (some .int) : Cond) ∈ wsX2_measure := (List.mem_cons_of_mem _ (List.mem_append_left _ (List.mem_append_left _ (List.mem_append_left _ (memL 17 rfl)))))
theorem mwX2_measure_8 : (.static Lib.Math.max.name : Cond) ∈ wsX2_measure := (List.mem_cons_of_mem _ (List.mem_append_left _ (List.mem_append_left _ (List.mem_append_left _ (memL 16 rfl)))))
theorem mwX2_measure_9 : (.methodLink RX2 121 Lib.Math.max.name : Cond) ∈ wsX2_measure := (List.mem_cons_of_mem _ (List.mem_append_left _ (List.mem_append_left _ (List.mem_append_left _ (memL 15 rfl)))))
theorem mwX2_measure_10 : (.code Lib.Math.abs.name Lib.Math.abs.code 1 (some .int) : Cond) ∈ wsX2_measure := (List.mem_cons_of_mem _ (List.mem_append_left _ (List.mem_append_left _ (List.mem_append_left _ (memL 14 rfl)))))
theorem mwX2_measure_11 : (.initialized "java/lang/Math" : Cond) ∈ wsX2_measure := (List.mem_cons_of_mem _ (List.mem_append_left _ (List.mem_append_left _ (List.mem_append_left _ (memL 13 rfl)))))
theorem mwX2_measure_12 : (.static Lib.Math.abs.name : Cond) ∈ wsX2_measure := (List.mem_cons_of_mem _ (List.mem_append_left _ (List.mem_append_left _ (List.mem_append_left _ (memL 12 rfl)))))
theorem mwX2_measure_13 : (.methodLink RX2 115 Lib.Math.abs.name : Cond) ∈ wsX2_measure := (List.mem_cons_of_mem _ (List.mem_append_left _ (List.mem_append_left _ (List.mem_append_left _ (memL 11 rfl)))))
set_option maxRecDepth 20000 in
theorem sbX2_measure_X10 : SubW wsX10 wsX2_measure := fun _ h => (List.mem_cons_of_mem _ (List.mem_append_left _ (List.mem_append_right _ h)))
set_option maxRecDepth 20000 in
theorem sbX2_measure_X40 : SubW wsX40 wsX2_measure := fun _ h => (List.mem_cons_of_mem _ (List.mem_append_right _ h))
set_option maxRecDepth 20000 in
theorem sbX2_measure_X2_way : SubW wsX2_way wsX2_measure := (subW_cons mwX2_measure_6 (subW_app (subW_app (subW_cons mwX2_measure_13 (subW_cons mwX2_measure_12 (subW_cons mwX2_measure_11 (subW_cons mwX2_measure_10 (subW_cons mwX2_measure_9 (subW_cons mwX2_measure_8 (subW_cons mwX2_measure_7 subW_nil))))))) sbX2_measure_X10) sbX2_measure_X40))
theorem ggX2_measure_X2_way : GoodIn wsX2_measure wsX2_way := goodIn_W gw_wsX2_measure sbX2_measure_X2_way
theorem mwX2_measure_14 : (.static yX2_way : Cond) ∈ wsX2_measure := (List.mem_cons_of_mem _ (List.mem_append_left _ (List.mem_append_left _ (List.mem_append_left _ (memL 9 rfl)))))
theorem mwX2_measure_15 : (.methodLink RX2 109 yX2_way : Cond) ∈ wsX2_measure := (List.mem_cons_of_mem _ (List.mem_append_left _ (List.mem_append_left _ (List.mem_append_left _ (memL 8 rfl)))))
theorem gX2_measure_X2_way : GoodIn wsX2_measure (va_wsS RX2 109 yX2_way wsX2_way) := goodIn_W gw_wsX2_measure (subW_app (subW_cons mwX2_measure_15 (subW_cons mwX2_measure_14 (subW_cons mwX2_measure_2 subW_nil))) sbX2_measure_X2_way)
theorem dX2_measure_0 : decode cX2_measure 0 = .ok (.iconst 0, 1) := by decide +kernel
theorem dX2_measure_1 : decode cX2_measure 1 = .ok (.istore_n 3, 1) := by decide +kernel
theorem dX2_measure_2 : decode cX2_measure 2 = .ok (.iload_n 3, 1) := by decide +kernel
theorem dX2_measure_3 : decode cX2_measure 3 = .ok (.aload_n 0, 1) := by decide +kernel
theorem dX2_measure_4 : decode cX2_measure 4 = .ok (.getfield 76, 3) := by decide +kernel
theorem dX2_measure_7 : decode cX2_measure 7 = .ok (.if_icmp .ge 134, 3) := by decide +kernel
theorem dX2_measure_10 : decode cX2_measure 10 = .ok (.aload_n 0, 1) := by decide +kernel
theorem dX2_measure_11 : decode cX2_measure 11 = .ok (.aload_n 1, 1) := by decide +kernel
theorem dX2_measure_12 : decode cX2_measure 12 = .ok (.iload_n 3, 1) := by decide +kernel
theorem dX2_measure_13 : decode cX2_measure 13 = .ok (.invokevirtual 105, 3) := by decide +kernel
theorem dX2_measure_16 : decode cX2_measure 16 = .ok (.astore 4, 2) := by decide +kernel
theorem dX2_measure_18 : decode cX2_measure 18 = .ok (.iconst 0, 1) := by decide +kernel
theorem dX2_measure_19 : decode cX2_measure 19 = .ok (.istore 5, 2) := by decide +kernel
theorem dX2_measure_21 : decode cX2_measure 21 = .ok (.iload 5, 2) := by decide +kernel
theorem dX2_measure_23 : decode cX2_measure 23 = .ok (.aload_n 0, 1) := by decide +kernel
theorem dX2_measure_24 : decode cX2_measure 24 = .ok (.getfield 76, 3) := by decide +kernel
theorem dX2_measure_27 : decode cX2_measure 27 = .ok (.if_icmp .ge 56, 3) := by decide +kernel
theorem dX2_measure_30 : decode cX2_measure 30 = .ok (.aload_n 0, 1) := by decide +kernel
theorem dX2_measure_31 : decode cX2_measure 31 = .ok (.aload_n 1, 1) := by decide +kernel
theorem dX2_measure_32 : decode cX2_measure 32 = .ok (.iload 5, 2) := by decide +kernel
theorem dX2_measure_34 : decode cX2_measure 34 = .ok (.invokevirtual 105, 3) := by decide +kernel
theorem dX2_measure_37 : decode cX2_measure 37 = .ok (.astore 6, 2) := by decide +kernel
theorem dX2_measure_39 : decode cX2_measure 39 = .ok (.aload 4, 2) := by decide +kernel
theorem dX2_measure_41 : decode cX2_measure 41 = .ok (.ifnull 36, 3) := by decide +kernel
theorem dX2_measure_44 : decode cX2_measure 44 = .ok (.aload 6, 2) := by decide +kernel
theorem dX2_measure_46 : decode cX2_measure 46 = .ok (.ifnull 31, 3) := by decide +kernel
theorem dX2_measure_49 : decode cX2_measure 49 = .ok (.aload_n 0, 1) := by decide +kernel
theorem dX2_measure_50 : decode cX2_measure 50 = .ok (.getfield 24, 3) := by decide +kernel
theorem dX2_measure_53 : decode cX2_measure 53 = .ok (.iload_n 3, 1) := by decide +kernel
theorem dX2_measure_54 : decode cX2_measure 54 = .ok (.bipush 11, 2) := by decide +kernel
theorem dX2_measure_56 : decode cX2_measure 56 = .ok (.imul, 1) := by decide +kernel
theorem dX2_measure_57 : decode cX2_measure 57 = .ok (.iload 5, 2) := by decide +kernel
theorem dX2_measure_59 : decode cX2_measure 59 = .ok (.iadd, 1) := by decide +kernel
theorem dX2_measure_60 : decode cX2_measure 60 = .ok (.aload 4, 2) := by decide +kernel
theorem dX2_measure_62 : decode cX2_measure 62 = .ok (.aload 6, 2) := by decide +kernel
theorem dX2_measure_64 : decode cX2_measure 64 = .ok (.getfield 92, 3) := by decide +kernel
theorem dX2_measure_67 : decode cX2_measure 67 = .ok (.aload 6, 2) := by decide +kernel
theorem dX2_measure_69 : decode cX2_measure 69 = .ok (.getfield 89, 3) := by decide +kernel
theorem dX2_measure_72 : decode cX2_measure 72 = .ok (.aload_n 2, 1) := by decide +kernel
theorem dX2_measure_73 : decode cX2_measure 73 = .ok (.invokestatic 109, 3) := by decide +kernel
theorem dX2_measure_76 : decode cX2_measure 76 = .ok (.iastore, 1) := by decide +kernel
theorem dX2_measure_77 : decode cX2_measure 77 = .ok (.iinc 5 1, 3) := by decide +kernel
theorem dX2_measure_80 : decode cX2_measure 80 = .ok (.goto (-59), 3) := by decide +kernel
theorem dX2_measure_83 : decode cX2_measure 83 = .ok (.aload 4, 2) := by decide +kernel
theorem dX2_measure_85 : decode cX2_measure 85 = .ok (.ifnull 50, 3) := by decide +kernel
theorem dX2_measure_88 : decode cX2_measure 88 = .ok (.aload_n 0, 1) := by decide +kernel
theorem dX2_measure_89 : decode cX2_measure 89 = .ok (.getfield 24, 3) := by decide +kernel
theorem dX2_measure_92 : decode cX2_measure 92 = .ok (.iload_n 3, 1) := by decide +kernel
theorem dX2_measure_93 : decode cX2_measure 93 = .ok (.bipush 11, 2) := by decide +kernel
theorem dX2_measure_95 : decode cX2_measure 95 = .ok (.imul, 1) := by decide +kernel
theorem dX2_measure_96 : decode cX2_measure 96 = .ok (.bipush 10, 2) := by decide +kernel
theorem dX2_measure_98 : decode cX2_measure 98 = .ok (.iadd, 1) := by decide +kernel
theorem dX2_measure_99 : decode cX2_measure 99 = .ok (.aload 4, 2) := by decide +kernel
theorem dX2_measure_101 : decode cX2_measure 101 = .ok (.aload_n 2, 1) := by decide +kernel
theorem dX2_measure_102 : decode cX2_measure 102 = .ok (.getfield 113, 3) := by decide +kernel
theorem dX2_measure_105 : decode cX2_measure 105 = .ok (.aload_n 2, 1) := by decide +kernel
theorem dX2_measure_106 : decode cX2_measure 106 = .ok (.getfield 114, 3) := by decide +kernel
theorem dX2_measure_109 : decode cX2_measure 109 = .ok (.aload_n 2, 1) := by decide +kernel
theorem dX2_measure_110 : decode cX2_measure 110 = .ok (.invokestatic 109, 3) := by decide +kernel
theorem dX2_measure_113 : decode cX2_measure 113 = .ok (.iastore, 1) := by decide +kernel
theorem dX2_measure_114 : decode cX2_measure 114 = .ok (.aload_n 0, 1) := by decide +kernel
theorem dX2_measure_115 : decode cX2_measure 115 = .ok (.getfield 24, 3) := by decide +kernel
theorem dX2_measure_118 : decode cX2_measure 118 = .ok (.bipush 110, 2) := by decide +kernel
theorem dX2_measure_120 : decode cX2_measure 120 = .ok (.iload_n 3, 1) := by decide +kernel
theorem dX2_measure_121 : decode cX2_measure 121 = .ok (.iadd, 1) := by decide +kernel
theorem dX2_measure_122 : decode cX2_measure 122 = .ok (.aload_n 0, 1) := by decide +kernel
theorem dX2_measure_123 : decode cX2_measure 123 = .ok (.getfield 24, 3) := by decide +kernel
theorem dX2_measure_126 : decode cX2_measure 126 = .ok (.iload_n 3, 1) := by decide +kernel
theorem dX2_measure_127 : decode cX2_measure 127 = .ok (.bipush 11, 2) := by decide +kernel
theorem dX2_measure_129 : decode cX2_measure 129 = .ok (.imul, 1) := by decide +kernel
theorem dX2_measure_130 : decode cX2_measure 130 = .ok (.bipush 10, 2) := by decide +kernel
theorem dX2_measure_132 : decode cX2_measure 132 = .ok (.iadd, 1) := by decide +kernel
theorem dX2_measure_133 : decode cX2_measure 133 = .ok (.iaload, 1) := by decide +kernel
theorem dX2_measure_134 : decode cX2_measure 134 = .ok (.iastore, 1) := by decide +kernel
theorem dX2_measure_135 : decode cX2_measure 135 = .ok (.iinc 3 1, 3) := by decide +kernel
theorem dX2_measure_138 : decode cX2_measure 138 = .ok (.goto (-136), 3) := by decide +kernel
theorem dX2_measure_141 : decode cX2_measure 141 = .ok (.return_, 1) := by decide +kernel
theorem dX2_markOfJob_0 : decode cX2_markOfJob 0 = .ok (.aload_n 0, 1) := by decide +kernel
theorem dX2_markOfJob_1 : decode cX2_markOfJob 1 = .ok (.getfield 9, 3) := by decide +kernel
theorem dX2_markOfJob_4 : decode cX2_markOfJob 4 = .ok (.iload_n 2, 1) := by decide +kernel
theorem dX2_markOfJob_5 : decode cX2_markOfJob 5 = .ok (.iaload, 1) := by decide +kernel
theorem dX2_markOfJob_6 : decode cX2_markOfJob 6 = .ok (.istore_n 3, 1) := by decide +kernel
theorem dX2_markOfJob_7 : decode cX2_markOfJob 7 = .ok (.iload_n 3, 1) := by decide +kernel
theorem dX2_markOfJob_8 : decode cX2_markOfJob 8 = .ok (.ifCond .lt 15, 3) := by decide +kernel
theorem dX2_markOfJob_11 : decode cX2_markOfJob 11 = .ok (.iload_n 3, 1) := by decide +kernel
theorem dX2_markOfJob_12 : decode cX2_markOfJob 12 = .ok (.aload_n 1, 1) := by decide +kernel
theorem dX2_markOfJob_13 : decode cX2_markOfJob 13 = .ok (.arraylength, 1) := by decide +kernel
theorem dX2_markOfJob_14 : decode cX2_markOfJob 14 = .ok (.if_icmp .ge 9, 3) := by decide +kernel
theorem dX2_markOfJob_17 : decode cX2_markOfJob 17 = .ok (.aload_n 1, 1) := by decide +kernel
theorem dX2_markOfJob_18 : decode cX2_markOfJob 18 = .ok (.iload_n 3, 1) := by decide +kernel
theorem dX2_markOfJob_19 : decode cX2_markOfJob 19 = .ok (.aaload, 1) := by decide +kernel
theorem dX2_markOfJob_20 : decode cX2_markOfJob 20 = .ok (.goto 4, 3) := by decide +kernel
theorem dX2_markOfJob_23 : decode cX2_markOfJob 23 = .ok (.aconst_null, 1) := by decide +kernel
theorem dX2_markOfJob_24 : decode cX2_markOfJob 24 = .ok (.areturn, 1) := by decide +kernel
theorem dX2_way_0 : decode cX2_way 0 = .ok (.aload_n 0, 1) := by decide +kernel
theorem dX2_way_1 : decode cX2_way 1 = .ok (.getfield 92, 3) := by decide +kernel
theorem dX2_way_4 : decode cX2_way 4 = .ok (.iload_n 1, 1) := by decide +kernel
theorem dX2_way_5 : decode cX2_way 5 = .ok (.isub, 1) := by decide +kernel
theorem dX2_way_6 : decode cX2_way 6 = .ok (.invokestatic 115, 3) := by decide +kernel
theorem dX2_way_9 : decode cX2_way 9 = .ok (.aload_n 0, 1) := by decide +kernel
theorem dX2_way_10 : decode cX2_way 10 = .ok (.getfield 89, 3) := by decide +kernel
theorem dX2_way_13 : decode cX2_way 13 = .ok (.iload_n 2, 1) := by decide +kernel
theorem dX2_way_14 : decode cX2_way 14 = .ok (.isub, 1) := by decide +kernel
theorem dX2_way_15 : decode cX2_way 15 = .ok (.invokestatic 115, 3) := by decide +kernel
theorem dX2_way_18 : decode cX2_way 18 = .ok (.invokestatic 121, 3) := by decide +kernel
theorem dX2_way_21 : decode cX2_way 21 = .ok (.aload_n 3, 1) := by decide +kernel
theorem dX2_way_22 : decode cX2_way 22 = .ok (.getfield 125, 3) := by decide +kernel
theorem dX2_way_25 : decode cX2_way 25 = .ok (.imul, 1) := by decide +kernel
theorem dX2_way_26 : decode cX2_way 26 = .ok (.ireturn, 1) := by decide +kernel
theorem dX2_isIn_0 : decode cX2_isIn 0 = .ok (.iload_n 1, 1) := by decide +kernel
theorem dX2_isIn_1 : decode cX2_isIn 1 = .ok (.iload_n 0, 1) := by decide +kernel
theorem dX2_isIn_2 : decode cX2_isIn 2 = .ok (.ishr, 1) := by decide +kernel
theorem dX2_isIn_3 : decode cX2_isIn 3 = .ok (.iconst 1, 1) := by decide +kernel
theorem dX2_isIn_4 : decode cX2_isIn 4 = .ok (.iand, 1) := by decide +kernel
theorem dX2_isIn_5 : decode cX2_isIn 5 = .ok (.iconst 1, 1) := by decide +kernel
theorem dX2_isIn_6 : decode cX2_isIn 6 = .ok (.if_icmp .ne 7, 3) := by decide +kernel
theorem dX2_isIn_9 : decode cX2_isIn 9 = .ok (.iconst 1, 1) := by decide +kernel
theorem dX2_isIn_10 : decode cX2_isIn 10 = .ok (.goto 4, 3) := by decide +kernel
theorem dX2_isIn_13 : decode cX2_isIn 13 = .ok (.iconst 0, 1) := by decide +kernel
theorem dX2_isIn_14 : decode cX2_isIn 14 = .ok (.ireturn, 1) := by decide +kernel
theorem dX2_without_0 : decode cX2_without 0 = .ok (.iload_n 1, 1) := by decide +kernel
theorem dX2_without_1 : decode cX2_without 1 = .ok (.iconst 1, 1) := by decide +kernel
theorem dX2_without_2 : decode cX2_without 2 = .ok (.iload_n 0, 1) := by decide +kernel
theorem dX2_without_3 : decode cX2_without 3 = .ok (.ishl, 1) := by decide +kernel
theorem dX2_without_4 : decode cX2_without 4 = .ok (.iconst (-1), 1) := by decide +kernel
theorem dX2_without_5 : decode cX2_without 5 = .ok (.ixor, 1) := by decide +kernel
theorem dX2_without_6 : decode cX2_without 6 = .ok (.iand, 1) := by decide +kernel
theorem dX2_without_7 : decode cX2_without 7 = .ok (.ireturn, 1) := by decide +kernel
theorem mwX2_sumOver_0 : (.code yX2_isIn cX2_isIn 2 (some .boolean) : Cond) ∈ wsX2_sumOver := (List.mem_cons_of_mem _ (List.mem_append_left _ (memL 4 rfl)))
set_option maxRecDepth 20000 in
theorem sbX2_sumOver_X2_isIn : SubW wsX2_isIn wsX2_sumOver := (subW_cons mwX2_sumOver_0 subW_nil)
set_option maxRecDepth 20000 in
theorem gw_wsX2_sumOver : goodW wsX2_sumOver := (goodW_cons rfl (goodW_app (goodW_of (by decide +kernel)) gw_wsX20))
theorem ggX2_sumOver_X2_isIn : GoodIn wsX2_sumOver wsX2_isIn := goodIn_W gw_wsX2_sumOver sbX2_sumOver_X2_isIn
theorem mwX2_sumOver_1 : (.initialized RX2 : Cond) ∈ wsX2_sumOver := (List.mem_cons_of_mem _ (List.mem_append_left _ (memL 3 rfl)))
theorem mwX2_sumOver_2 : (.static yX2_isIn : Cond) ∈ wsX2_sumOver := (List.mem_cons_of_mem _ (List.mem_append_left _ (memL 2 rfl)))
theorem mwX2_sumOver_3 : (.methodLink RX2 128 yX2_isIn : Cond) ∈ wsX2_sumOver := (List.mem_cons_of_mem _ (List.mem_append_left _ (memL 1 rfl)))
theorem gX2_sumOver_X2_isIn : GoodIn wsX2_sumOver (va_wsS RX2 128 yX2_isIn wsX2_isIn) := goodIn_W gw_wsX2_sumOver (subW_app (subW_cons mwX2_sumOver_3 (subW_cons mwX2_sumOver_2 (subW_cons mwX2_sumOver_1 subW_nil))) sbX2_sumOver_X2_isIn)
theorem dX2_sumOver_0 : decode cX2_sumOver 0 = .ok (.iconst 0, 1) := by decide +kernel
theorem dX2_sumOver_1 : decode cX2_sumOver 1 = .ok (.istore_n 3, 1) := by decide +kernel
theorem dX2_sumOver_2 : decode cX2_sumOver 2 = .ok (.iconst 0, 1) := by decide +kernel
theorem dX2_sumOver_3 : decode cX2_sumOver 3 = .ok (.istore 4, 2) := by decide +kernel
theorem dX2_sumOver_5 : decode cX2_sumOver 5 = .ok (.iload 4, 2) := by decide +kernel
theorem dX2_sumOver_7 : decode cX2_sumOver 7 = .ok (.aload_n 0, 1) := by decide +kernel
theorem dX2_sumOver_8 : decode cX2_sumOver 8 = .ok (.getfield 76, 3) := by decide +kernel
theorem dX2_sumOver_11 : decode cX2_sumOver 11 = .ok (.if_icmp .ge 36, 3) := by decide +kernel
theorem dX2_sumOver_14 : decode cX2_sumOver 14 = .ok (.iload 4, 2) := by decide +kernel
theorem dX2_sumOver_16 : decode cX2_sumOver 16 = .ok (.aload_n 2, 1) := by decide +kernel
theorem dX2_sumOver_17 : decode cX2_sumOver 17 = .ok (.arraylength, 1) := by decide +kernel
theorem dX2_sumOver_18 : decode cX2_sumOver 18 = .ok (.if_icmp .ge 29, 3) := by decide +kernel
theorem dX2_sumOver_21 : decode cX2_sumOver 21 = .ok (.iload_n 3, 1) := by decide +kernel
theorem dX2_sumOver_22 : decode cX2_sumOver 22 = .ok (.iload 4, 2) := by decide +kernel
theorem dX2_sumOver_24 : decode cX2_sumOver 24 = .ok (.iload_n 1, 1) := by decide +kernel
theorem dX2_sumOver_25 : decode cX2_sumOver 25 = .ok (.invokestatic 128, 3) := by decide +kernel
theorem dX2_sumOver_28 : decode cX2_sumOver 28 = .ok (.ifCond .eq 10, 3) := by decide +kernel
theorem dX2_sumOver_31 : decode cX2_sumOver 31 = .ok (.aload_n 2, 1) := by decide +kernel
theorem dX2_sumOver_32 : decode cX2_sumOver 32 = .ok (.iload 4, 2) := by decide +kernel
theorem dX2_sumOver_34 : decode cX2_sumOver 34 = .ok (.iaload, 1) := by decide +kernel
theorem dX2_sumOver_35 : decode cX2_sumOver 35 = .ok (.goto 4, 3) := by decide +kernel
theorem dX2_sumOver_38 : decode cX2_sumOver 38 = .ok (.iconst 0, 1) := by decide +kernel
theorem dX2_sumOver_39 : decode cX2_sumOver 39 = .ok (.iadd, 1) := by decide +kernel
theorem dX2_sumOver_40 : decode cX2_sumOver 40 = .ok (.istore_n 3, 1) := by decide +kernel
theorem dX2_sumOver_41 : decode cX2_sumOver 41 = .ok (.iinc 4 1, 3) := by decide +kernel
theorem dX2_sumOver_44 : decode cX2_sumOver 44 = .ok (.goto (-39), 3) := by decide +kernel
theorem dX2_sumOver_47 : decode cX2_sumOver 47 = .ok (.iload_n 3, 1) := by decide +kernel
theorem dX2_sumOver_48 : decode cX2_sumOver 48 = .ok (.ireturn, 1) := by decide +kernel
theorem dX2_beginFrom_0 : decode cX2_beginFrom 0 = .ok (.iload_n 2, 1) := by decide +kernel
theorem dX2_beginFrom_1 : decode cX2_beginFrom 1 = .ok (.ifCond .lt 10, 3) := by decide +kernel
theorem dX2_beginFrom_4 : decode cX2_beginFrom 4 = .ok (.iload_n 2, 1) := by decide +kernel
theorem dX2_beginFrom_5 : decode cX2_beginFrom 5 = .ok (.sipush 1440, 3) := by decide +kernel
theorem dX2_beginFrom_8 : decode cX2_beginFrom 8 = .ok (.if_icmp .lt 6, 3) := by decide +kernel
theorem dX2_beginFrom_11 : decode cX2_beginFrom 11 = .ok (.ldc 131, 2) := by decide +kernel
theorem dX2_beginFrom_13 : decode cX2_beginFrom 13 = .ok (.ireturn, 1) := by decide +kernel
theorem dX2_beginFrom_14 : decode cX2_beginFrom 14 = .ok (.iload_n 2, 1) := by decide +kernel
theorem dX2_beginFrom_15 : decode cX2_beginFrom 15 = .ok (.bipush 60, 2) := by decide +kernel
theorem dX2_beginFrom_17 : decode cX2_beginFrom 17 = .ok (.idiv, 1) := by decide +kernel
theorem dX2_beginFrom_18 : decode cX2_beginFrom 18 = .ok (.istore_n 3, 1) := by decide +kernel
theorem dX2_beginFrom_19 : decode cX2_beginFrom 19 = .ok (.aload_n 0, 1) := by decide +kernel
theorem dX2_beginFrom_20 : decode cX2_beginFrom 20 = .ok (.getfield 27, 3) := by decide +kernel
theorem dX2_beginFrom_23 : decode cX2_beginFrom 23 = .ok (.iload_n 1, 1) := by decide +kernel
theorem dX2_beginFrom_24 : decode cX2_beginFrom 24 = .ok (.bipush 24, 2) := by decide +kernel
theorem dX2_beginFrom_26 : decode cX2_beginFrom 26 = .ok (.imul, 1) := by decide +kernel
theorem dX2_beginFrom_27 : decode cX2_beginFrom 27 = .ok (.iload_n 3, 1) := by decide +kernel
theorem dX2_beginFrom_28 : decode cX2_beginFrom 28 = .ok (.iadd, 1) := by decide +kernel
theorem dX2_beginFrom_29 : decode cX2_beginFrom 29 = .ok (.iaload, 1) := by decide +kernel
theorem dX2_beginFrom_30 : decode cX2_beginFrom 30 = .ok (.istore 4, 2) := by decide +kernel
theorem dX2_beginFrom_32 : decode cX2_beginFrom 32 = .ok (.iload 4, 2) := by decide +kernel
theorem dX2_beginFrom_34 : decode cX2_beginFrom 34 = .ok (.iconst (-1), 1) := by decide +kernel
theorem dX2_beginFrom_35 : decode cX2_beginFrom 35 = .ok (.if_icmp .ne 6, 3) := by decide +kernel
theorem dX2_beginFrom_38 : decode cX2_beginFrom 38 = .ok (.ldc 131, 2) := by decide +kernel
theorem dX2_beginFrom_40 : decode cX2_beginFrom 40 = .ok (.ireturn, 1) := by decide +kernel
theorem dX2_beginFrom_41 : decode cX2_beginFrom 41 = .ok (.iload 4, 2) := by decide +kernel
theorem dX2_beginFrom_43 : decode cX2_beginFrom 43 = .ok (.iload_n 3, 1) := by decide +kernel
theorem dX2_beginFrom_44 : decode cX2_beginFrom 44 = .ok (.if_icmp .ne 7, 3) := by decide +kernel
theorem dX2_beginFrom_47 : decode cX2_beginFrom 47 = .ok (.iload_n 2, 1) := by decide +kernel
theorem dX2_beginFrom_48 : decode cX2_beginFrom 48 = .ok (.goto 8, 3) := by decide +kernel
theorem dX2_beginFrom_51 : decode cX2_beginFrom 51 = .ok (.iload 4, 2) := by decide +kernel
theorem dX2_beginFrom_53 : decode cX2_beginFrom 53 = .ok (.bipush 60, 2) := by decide +kernel
theorem dX2_beginFrom_55 : decode cX2_beginFrom 55 = .ok (.imul, 1) := by decide +kernel
theorem dX2_beginFrom_56 : decode cX2_beginFrom 56 = .ok (.ireturn, 1) := by decide +kernel
theorem dX2_beginUpTo_0 : decode cX2_beginUpTo 0 = .ok (.iload_n 2, 1) := by decide +kernel
theorem dX2_beginUpTo_1 : decode cX2_beginUpTo 1 = .ok (.ifCond .ge 6, 3) := by decide +kernel
theorem dX2_beginUpTo_4 : decode cX2_beginUpTo 4 = .ok (.ldc 132, 2) := by decide +kernel
theorem dX2_beginUpTo_6 : decode cX2_beginUpTo 6 = .ok (.ireturn, 1) := by decide +kernel
theorem dX2_beginUpTo_7 : decode cX2_beginUpTo 7 = .ok (.iload_n 2, 1) := by decide +kernel
theorem dX2_beginUpTo_8 : decode cX2_beginUpTo 8 = .ok (.sipush 1439, 3) := by decide +kernel
theorem dX2_beginUpTo_11 : decode cX2_beginUpTo 11 = .ok (.invokestatic 133, 3) := by decide +kernel
theorem dX2_beginUpTo_14 : decode cX2_beginUpTo 14 = .ok (.istore_n 3, 1) := by decide +kernel
theorem dX2_beginUpTo_15 : decode cX2_beginUpTo 15 = .ok (.iload_n 3, 1) := by decide +kernel
theorem dX2_beginUpTo_16 : decode cX2_beginUpTo 16 = .ok (.bipush 60, 2) := by decide +kernel
theorem dX2_beginUpTo_18 : decode cX2_beginUpTo 18 = .ok (.idiv, 1) := by decide +kernel
theorem dX2_beginUpTo_19 : decode cX2_beginUpTo 19 = .ok (.istore 4, 2) := by decide +kernel
theorem dX2_beginUpTo_21 : decode cX2_beginUpTo 21 = .ok (.aload_n 0, 1) := by decide +kernel
theorem dX2_beginUpTo_22 : decode cX2_beginUpTo 22 = .ok (.getfield 30, 3) := by decide +kernel
theorem dX2_beginUpTo_25 : decode cX2_beginUpTo 25 = .ok (.iload_n 1, 1) := by decide +kernel
theorem dX2_beginUpTo_26 : decode cX2_beginUpTo 26 = .ok (.bipush 24, 2) := by decide +kernel
theorem dX2_beginUpTo_28 : decode cX2_beginUpTo 28 = .ok (.imul, 1) := by decide +kernel
theorem dX2_beginUpTo_29 : decode cX2_beginUpTo 29 = .ok (.iload 4, 2) := by decide +kernel
theorem dX2_beginUpTo_31 : decode cX2_beginUpTo 31 = .ok (.iadd, 1) := by decide +kernel
theorem dX2_beginUpTo_32 : decode cX2_beginUpTo 32 = .ok (.iaload, 1) := by decide +kernel
theorem dX2_beginUpTo_33 : decode cX2_beginUpTo 33 = .ok (.istore 5, 2) := by decide +kernel
theorem dX2_beginUpTo_35 : decode cX2_beginUpTo 35 = .ok (.iload 5, 2) := by decide +kernel
theorem dX2_beginUpTo_37 : decode cX2_beginUpTo 37 = .ok (.iconst (-1), 1) := by decide +kernel
theorem dX2_beginUpTo_38 : decode cX2_beginUpTo 38 = .ok (.if_icmp .ne 6, 3) := by decide +kernel
theorem dX2_beginUpTo_41 : decode cX2_beginUpTo 41 = .ok (.ldc 132, 2) := by decide +kernel
theorem dX2_beginUpTo_43 : decode cX2_beginUpTo 43 = .ok (.ireturn, 1) := by decide +kernel
theorem dX2_beginUpTo_44 : decode cX2_beginUpTo 44 = .ok (.iload 5, 2) := by decide +kernel
theorem dX2_beginUpTo_46 : decode cX2_beginUpTo 46 = .ok (.iload 4, 2) := by decide +kernel
theorem dX2_beginUpTo_48 : decode cX2_beginUpTo 48 = .ok (.if_icmp .ne 7, 3) := by decide +kernel
theorem dX2_beginUpTo_51 : decode cX2_beginUpTo 51 = .ok (.iload_n 3, 1) := by decide +kernel
theorem dX2_beginUpTo_52 : decode cX2_beginUpTo 52 = .ok (.goto 13, 3) := by decide +kernel
theorem dX2_beginUpTo_55 : decode cX2_beginUpTo 55 = .ok (.iload 5, 2) := by decide +kernel
theorem dX2_beginUpTo_57 : decode cX2_beginUpTo 57 = .ok (.bipush 60, 2) := by decide +kernel
theorem dX2_beginUpTo_59 : decode cX2_beginUpTo 59 = .ok (.imul, 1) := by decide +kernel
theorem dX2_beginUpTo_60 : decode cX2_beginUpTo 60 = .ok (.bipush 60, 2) := by decide +kernel
theorem dX2_beginUpTo_62 : decode cX2_beginUpTo 62 = .ok (.iadd, 1) := by decide +kernel
theorem dX2_beginUpTo_63 : decode cX2_beginUpTo 63 = .ok (.iconst 1, 1) := by decide +kernel
theorem dX2_beginUpTo_64 : decode cX2_beginUpTo 64 = .ok (.isub, 1) := by decide +kernel
theorem dX2_beginUpTo_65 : decode cX2_beginUpTo 65 = .ok (.ireturn, 1) := by decide +kernel
theorem sbX2_findEarliestEnds_X2_findEarliestEnds_r1 : SubW wsX2_findEarliestEnds_r1 wsX2_findEarliestEnds := fun _ h => (List.mem_cons_of_mem _ (List.mem_append_left _ (List.mem_append_left _ (List.mem_append_left _ h))))
theorem sbX2_findEarliestEnds_X2_findEarliestEnds_r2 : SubW wsX2_findEarliestEnds_r2 wsX2_findEarliestEnds := fun _ h => (List.mem_cons_of_mem _ (List.mem_append_left _ (List.mem_append_left _ (List.mem_append_right _ h))))
theorem mwX2_findEarliestEnds_0 : (.code yX2_sumOver cX2_sumOver 5 (some .int) : Cond) ∈ wsX2_findEarliestEnds := (sbX2_findEarliestEnds_X2_findEarliestEnds_r1 _ (memL 14 rfl))
theorem mwX2_findEarliestEnds_1 : (.code yX2_isIn cX2_isIn 2 (some .boolean) : Cond) ∈ wsX2_findEarliestEnds := (sbX2_findEarliestEnds_X2_findEarliestEnds_r1 _ (memL 17 rfl))
theorem mwX2_findEarliestEnds_2 : (.initialized RX2 : Cond) ∈ wsX2_findEarliestEnds := (sbX2_findEarliestEnds_X2_findEarliestEnds_r1 _ (memL 13 rfl))
theorem mwX2_findEarliestEnds_3 : (.static yX2_isIn : Cond) ∈ wsX2_findEarliestEnds := (sbX2_findEarliestEnds_X2_findEarliestEnds_r1 _ (memL 16 rfl))
theorem mwX2_findEarliestEnds_4 : (.methodLink RX2 128 yX2_isIn : Cond) ∈ wsX2_findEarliestEnds := (sbX2_findEarliestEnds_X2_findEarliestEnds_r1 _ (memL 15 rfl))
theorem mwX2_findEarliestEnds_5 : (.fieldLink RX2 76 "BuoyTender$Planner" "count" "I" : Cond) ∈ wsX2_findEarliestEnds := (sbX2_findEarliestEnds_X2_findEarliestEnds_r1 _ (memL 1 rfl))
set_option maxRecDepth 20000 in
theorem sbX2_findEarliestEnds_X20 : SubW wsX20 wsX2_findEarliestEnds := fun _ h => (List.mem_cons_of_mem _ (List.mem_append_left _ (List.mem_append_right _ h)))
set_option maxRecDepth 20000 in
theorem sbX2_findEarliestEnds_X2_sumOver : SubW wsX2_sumOver wsX2_findEarliestEnds := (subW_cons mwX2_findEarliestEnds_0 (subW_app (subW_cons mwX2_findEarliestEnds_5 (subW_cons mwX2_findEarliestEnds_4 (subW_cons mwX2_findEarliestEnds_3 (subW_cons mwX2_findEarliestEnds_2 (subW_cons mwX2_findEarliestEnds_1 subW_nil))))) sbX2_findEarliestEnds_X20))
set_option maxRecDepth 20000 in
theorem gw_wsX2_findEarliestEnds_r1 : goodW wsX2_findEarliestEnds_r1 := (goodW_of (by decide +kernel))
set_option maxRecDepth 20000 in
theorem gw_wsX2_findEarliestEnds_r2 : goodW wsX2_findEarliestEnds_r2 := (goodW_of (by decide +kernel))
set_option maxRecDepth 20000 in
theorem gw_wsX2_findEarliestEnds : goodW wsX2_findEarliestEnds := (goodW_cons rfl (goodW_app (goodW_app (goodW_app gw_wsX2_findEarliestEnds_r1 gw_wsX2_findEarliestEnds_r2) gw_wsX20) gw_wsX40))
theorem ggX2_findEarliestEnds_X2_sumOver : GoodIn wsX2_findEarliestEnds wsX2_sumOver := goodIn_W gw_wsX2_findEarliestEnds sbX2_findEarliestEnds_X2_sumOver
theorem mwX2_findEarliestEnds_6 : (.selects RX2 yX2_sumOver yX2_sumOver : Cond) ∈ wsX2_findEarliestEnds := (sbX2_findEarliestEnds_X2_findEarliestEnds_r1 _ (memL 12 rfl))
theorem mwX2_findEarliestEnds_7 : (.instanceMethod yX2_sumOver : Cond) ∈ wsX2_findEarliestEnds := (sbX2_findEarliestEnds_X2_findEarliestEnds_r1 _ (memL 11 rfl))
theorem mwX2_findEarliestEnds_8 : (.methodLink RX2 139 yX2_sumOver : Cond) ∈ wsX2_findEarliestEnds := (sbX2_findEarliestEnds_X2_findEarliestEnds_r1 _ (memL 10 rfl))
theorem gX2_findEarliestEnds_X2_sumOver : GoodIn wsX2_findEarliestEnds (wsV RX2 139 RX2 yX2_sumOver wsX2_sumOver) := goodIn_W gw_wsX2_findEarliestEnds (subW_app (subW_cons mwX2_findEarliestEnds_8 (subW_cons mwX2_findEarliestEnds_7 (subW_cons mwX2_findEarliestEnds_6 (subW_cons mwX2_findEarliestEnds_2 subW_nil)))) sbX2_findEarliestEnds_X2_sumOver)
set_option maxRecDepth 20000 in
theorem sbX2_findEarliestEnds_X2_isIn : SubW wsX2_isIn wsX2_findEarliestEnds := (subW_cons mwX2_findEarliestEnds_1 subW_nil)
theorem ggX2_findEarliestEnds_X2_isIn : GoodIn wsX2_findEarliestEnds wsX2_isIn := goodIn_W gw_wsX2_findEarliestEnds sbX2_findEarliestEnds_X2_isIn
theorem gX2_findEarliestEnds_X2_isIn : GoodIn wsX2_findEarliestEnds (va_wsS RX2 128 yX2_isIn wsX2_isIn) := goodIn_W gw_wsX2_findEarliestEnds (subW_app (subW_cons mwX2_findEarliestEnds_4 (subW_cons mwX2_findEarliestEnds_3 (subW_cons mwX2_findEarliestEnds_2 subW_nil))) sbX2_findEarliestEnds_X2_isIn)
theorem mwX2_findEarliestEnds_9 : (.code yX2_earliestEnd cX2_earliestEnd 7 (some .int) : Cond) ∈ wsX2_findEarliestEnds := (sbX2_findEarliestEnds_X2_findEarliestEnds_r1 _ (memL 21 rfl))
theorem mwX2_findEarliestEnds_10 : (.fieldLink RX2 27 "BuoyTender$Planner" "opensIn" "[I" : Cond) ∈ wsX2_findEarliestEnds := (sbX2_findEarliestEnds_X2_findEarliestEnds_r2 _ (memL 6 rfl))
theorem mwX2_findEarliestEnds_11 : (.code yX2_beginFrom cX2_beginFrom 5 (some .int) : Cond) ∈ wsX2_findEarliestEnds := (sbX2_findEarliestEnds_X2_findEarliestEnds_r2 _ (memL 5 rfl))
theorem mwX2_findEarliestEnds_12 : (.selects RX2 yX2_beginFrom yX2_beginFrom : Cond) ∈ wsX2_findEarliestEnds := (sbX2_findEarliestEnds_X2_findEarliestEnds_r2 _ (memL 4 rfl))
theorem mwX2_findEarliestEnds_13 : (.instanceMethod yX2_beginFrom : Cond) ∈ wsX2_findEarliestEnds := (sbX2_findEarliestEnds_X2_findEarliestEnds_r2 _ (memL 3 rfl))
theorem mwX2_findEarliestEnds_14 : (.methodLink RX2 156 yX2_beginFrom : Cond) ∈ wsX2_findEarliestEnds := (sbX2_findEarliestEnds_X2_findEarliestEnds_r2 _ (memL 2 rfl))
theorem mwX2_findEarliestEnds_15 : (.code yX2_without cX2_without 2 (some .int) : Cond) ∈ wsX2_findEarliestEnds := (sbX2_findEarliestEnds_X2_findEarliestEnds_r2 _ (memL 1 rfl))
theorem mwX2_findEarliestEnds_16 : (.static yX2_without : Cond) ∈ wsX2_findEarliestEnds := (sbX2_findEarliestEnds_X2_findEarliestEnds_r2 _ (memL 0 rfl))
theorem mwX2_findEarliestEnds_17 : (.methodLink RX2 153 yX2_without : Cond) ∈ wsX2_findEarliestEnds := (sbX2_findEarliestEnds_X2_findEarliestEnds_r1 _ (memL 23 rfl))
theorem mwX2_findEarliestEnds_18 : (.fieldLink RX2 15 "BuoyTender$Planner" "minutes" "[I" : Cond) ∈ wsX2_findEarliestEnds := (sbX2_findEarliestEnds_X2_findEarliestEnds_r1 _ (memL 22 rfl))
theorem mwX2_findEarliestEnds_19 : (.code Lib.Math.min.name Lib.Math.min.code 2 (some .int) : Cond) ∈ wsX2_findEarliestEnds := (sbX2_findEarliestEnds_X2_findEarliestEnds_r1 _ (memL 9 rfl))
theorem mwX2_findEarliestEnds_20 : (.initialized "java/lang/Math" : Cond) ∈ wsX2_findEarliestEnds := (sbX2_findEarliestEnds_X2_findEarliestEnds_r1 _ (memL 8 rfl))
theorem mwX2_findEarliestEnds_21 : (.static Lib.Math.min.name : Cond) ∈ wsX2_findEarliestEnds := (sbX2_findEarliestEnds_X2_findEarliestEnds_r1 _ (memL 7 rfl))
theorem mwX2_findEarliestEnds_22 : (.methodLink RX2 133 Lib.Math.min.name : Cond) ∈ wsX2_findEarliestEnds := (sbX2_findEarliestEnds_X2_findEarliestEnds_r1 _ (memL 6 rfl))
theorem mwX2_findEarliestEnds_23 : (.fieldLink RX2 33 "BuoyTender$Planner" "ends" "[I" : Cond) ∈ wsX2_findEarliestEnds := (sbX2_findEarliestEnds_X2_findEarliestEnds_r1 _ (memL 4 rfl))
theorem mwX2_findEarliestEnds_24 : (.constant RX2 131 (1000000) : Cond) ∈ wsX2_findEarliestEnds := (sbX2_findEarliestEnds_X2_findEarliestEnds_r1 _ (memL 2 rfl))
theorem mwX2_findEarliestEnds_25 : (.fieldLink RX2 24 "BuoyTender$Planner" "ways" "[I" : Cond) ∈ wsX2_findEarliestEnds := (sbX2_findEarliestEnds_X2_findEarliestEnds_r1 _ (memL 5 rfl))
set_option maxRecDepth 20000 in
theorem sbX2_findEarliestEnds_X40 : SubW wsX40 wsX2_findEarliestEnds := fun _ h => (List.mem_cons_of_mem _ (List.mem_append_right _ h))
set_option maxRecDepth 20000 in
theorem sbX2_findEarliestEnds_X2_earliestEnd : SubW wsX2_earliestEnd wsX2_findEarliestEnds := (subW_cons mwX2_findEarliestEnds_9 (subW_app (subW_app (subW_cons mwX2_findEarliestEnds_25 (subW_cons mwX2_findEarliestEnds_24 (subW_cons mwX2_findEarliestEnds_5 (subW_cons mwX2_findEarliestEnds_23 (subW_cons mwX2_findEarliestEnds_22 (subW_cons mwX2_findEarliestEnds_21 (subW_cons mwX2_findEarliestEnds_20 (subW_cons mwX2_findEarliestEnds_19 (subW_cons mwX2_findEarliestEnds_18 (subW_cons mwX2_findEarliestEnds_17 (subW_cons mwX2_findEarliestEnds_16 (subW_cons mwX2_findEarliestEnds_2 (subW_cons mwX2_findEarliestEnds_15 (subW_cons mwX2_findEarliestEnds_4 (subW_cons mwX2_findEarliestEnds_3 (subW_cons mwX2_findEarliestEnds_1 (subW_cons mwX2_findEarliestEnds_14 (subW_cons mwX2_findEarliestEnds_13 (subW_cons mwX2_findEarliestEnds_12 (subW_cons mwX2_findEarliestEnds_11 (subW_cons mwX2_findEarliestEnds_10 subW_nil))))))))))))))))))))) sbX2_findEarliestEnds_X40) sbX2_findEarliestEnds_X20))
theorem ggX2_findEarliestEnds_X2_earliestEnd : GoodIn wsX2_findEarliestEnds wsX2_earliestEnd := goodIn_W gw_wsX2_findEarliestEnds sbX2_findEarliestEnds_X2_earliestEnd
theorem mwX2_findEarliestEnds_26 : (.selects RX2 yX2_earliestEnd yX2_earliestEnd : Cond) ∈ wsX2_findEarliestEnds := (sbX2_findEarliestEnds_X2_findEarliestEnds_r1 _ (memL 20 rfl))
theorem mwX2_findEarliestEnds_27 : (.instanceMethod yX2_earliestEnd : Cond) ∈ wsX2_findEarliestEnds := (sbX2_findEarliestEnds_X2_findEarliestEnds_r1 _ (memL 19 rfl))
theorem mwX2_findEarliestEnds_28 : (.methodLink RX2 146 yX2_earliestEnd : Cond) ∈ wsX2_findEarliestEnds := (sbX2_findEarliestEnds_X2_findEarliestEnds_r1 _ (memL 18 rfl))
theorem gX2_findEarliestEnds_X2_earliestEnd : GoodIn wsX2_findEarliestEnds (wsV RX2 146 RX2 yX2_earliestEnd wsX2_earliestEnd) := goodIn_W gw_wsX2_findEarliestEnds (subW_app (subW_cons mwX2_findEarliestEnds_28 (subW_cons mwX2_findEarliestEnds_27 (subW_cons mwX2_findEarliestEnds_26 (subW_cons mwX2_findEarliestEnds_2 subW_nil)))) sbX2_findEarliestEnds_X2_earliestEnd)
theorem dX2_findEarliestEnds_0 : decode cX2_findEarliestEnds 0 = .ok (.aload_n 0, 1) := by decide +kernel
theorem dX2_findEarliestEnds_1 : decode cX2_findEarliestEnds 1 = .ok (.getfield 36, 3) := by decide +kernel
theorem dX2_findEarliestEnds_4 : decode cX2_findEarliestEnds 4 = .ok (.iconst 0, 1) := by decide +kernel
theorem dX2_findEarliestEnds_5 : decode cX2_findEarliestEnds 5 = .ok (.aload_n 1, 1) := by decide +kernel
theorem dX2_findEarliestEnds_6 : decode cX2_findEarliestEnds 6 = .ok (.getfield 136, 3) := by decide +kernel
theorem dX2_findEarliestEnds_9 : decode cX2_findEarliestEnds 9 = .ok (.iastore, 1) := by decide +kernel
theorem dX2_findEarliestEnds_10 : decode cX2_findEarliestEnds 10 = .ok (.iconst 1, 1) := by decide +kernel
theorem dX2_findEarliestEnds_11 : decode cX2_findEarliestEnds 11 = .ok (.istore_n 2, 1) := by decide +kernel
theorem dX2_findEarliestEnds_12 : decode cX2_findEarliestEnds 12 = .ok (.iload_n 2, 1) := by decide +kernel
theorem dX2_findEarliestEnds_13 : decode cX2_findEarliestEnds 13 = .ok (.iconst 1, 1) := by decide +kernel
theorem dX2_findEarliestEnds_14 : decode cX2_findEarliestEnds 14 = .ok (.aload_n 0, 1) := by decide +kernel
theorem dX2_findEarliestEnds_15 : decode cX2_findEarliestEnds 15 = .ok (.getfield 76, 3) := by decide +kernel
theorem dX2_findEarliestEnds_18 : decode cX2_findEarliestEnds 18 = .ok (.ishl, 1) := by decide +kernel
theorem dX2_findEarliestEnds_19 : decode cX2_findEarliestEnds 19 = .ok (.if_icmp .ge 137, 3) := by decide +kernel
theorem dX2_findEarliestEnds_22 : decode cX2_findEarliestEnds 22 = .ok (.ldc 131, 2) := by decide +kernel
theorem dX2_findEarliestEnds_24 : decode cX2_findEarliestEnds 24 = .ok (.istore_n 3, 1) := by decide +kernel
theorem dX2_findEarliestEnds_25 : decode cX2_findEarliestEnds 25 = .ok (.aload_n 0, 1) := by decide +kernel
theorem dX2_findEarliestEnds_26 : decode cX2_findEarliestEnds 26 = .ok (.iload_n 2, 1) := by decide +kernel
theorem dX2_findEarliestEnds_27 : decode cX2_findEarliestEnds 27 = .ok (.aload_n 0, 1) := by decide +kernel
theorem dX2_findEarliestEnds_28 : decode cX2_findEarliestEnds 28 = .ok (.getfield 18, 3) := by decide +kernel
theorem dX2_findEarliestEnds_31 : decode cX2_findEarliestEnds 31 = .ok (.invokevirtual 139, 3) := by decide +kernel
theorem dX2_findEarliestEnds_34 : decode cX2_findEarliestEnds 34 = .ok (.aload_n 1, 1) := by decide +kernel
theorem dX2_findEarliestEnds_35 : decode cX2_findEarliestEnds 35 = .ok (.getfield 143, 3) := by decide +kernel
theorem dX2_findEarliestEnds_38 : decode cX2_findEarliestEnds 38 = .ok (.if_icmp .gt 7, 3) := by decide +kernel
theorem dX2_findEarliestEnds_41 : decode cX2_findEarliestEnds 41 = .ok (.iconst 1, 1) := by decide +kernel
theorem dX2_findEarliestEnds_42 : decode cX2_findEarliestEnds 42 = .ok (.goto 4, 3) := by decide +kernel
theorem dX2_findEarliestEnds_45 : decode cX2_findEarliestEnds 45 = .ok (.iconst 0, 1) := by decide +kernel
theorem dX2_findEarliestEnds_46 : decode cX2_findEarliestEnds 46 = .ok (.istore 4, 2) := by decide +kernel
theorem dX2_findEarliestEnds_48 : decode cX2_findEarliestEnds 48 = .ok (.iconst 0, 1) := by decide +kernel
theorem dX2_findEarliestEnds_49 : decode cX2_findEarliestEnds 49 = .ok (.istore 5, 2) := by decide +kernel
theorem dX2_findEarliestEnds_51 : decode cX2_findEarliestEnds 51 = .ok (.iload 5, 2) := by decide +kernel
theorem dX2_findEarliestEnds_53 : decode cX2_findEarliestEnds 53 = .ok (.aload_n 0, 1) := by decide +kernel
theorem dX2_findEarliestEnds_54 : decode cX2_findEarliestEnds 54 = .ok (.getfield 76, 3) := by decide +kernel
theorem dX2_findEarliestEnds_57 : decode cX2_findEarliestEnds 57 = .ok (.if_icmp .ge 73, 3) := by decide +kernel
theorem dX2_findEarliestEnds_60 : decode cX2_findEarliestEnds 60 = .ok (.iload 4, 2) := by decide +kernel
theorem dX2_findEarliestEnds_62 : decode cX2_findEarliestEnds 62 = .ok (.ifCond .eq 23, 3) := by decide +kernel
theorem dX2_findEarliestEnds_65 : decode cX2_findEarliestEnds 65 = .ok (.iload 5, 2) := by decide +kernel
theorem dX2_findEarliestEnds_67 : decode cX2_findEarliestEnds 67 = .ok (.iload_n 2, 1) := by decide +kernel
theorem dX2_findEarliestEnds_68 : decode cX2_findEarliestEnds 68 = .ok (.invokestatic 128, 3) := by decide +kernel
theorem dX2_findEarliestEnds_71 : decode cX2_findEarliestEnds 71 = .ok (.ifCond .eq 14, 3) := by decide +kernel
theorem dX2_findEarliestEnds_74 : decode cX2_findEarliestEnds 74 = .ok (.aload_n 0, 1) := by decide +kernel
theorem dX2_findEarliestEnds_75 : decode cX2_findEarliestEnds 75 = .ok (.iload_n 2, 1) := by decide +kernel
theorem dX2_findEarliestEnds_76 : decode cX2_findEarliestEnds 76 = .ok (.iload 5, 2) := by decide +kernel
theorem dX2_findEarliestEnds_78 : decode cX2_findEarliestEnds 78 = .ok (.aload_n 1, 1) := by decide +kernel
theorem dX2_findEarliestEnds_79 : decode cX2_findEarliestEnds 79 = .ok (.invokevirtual 146, 3) := by decide +kernel
theorem dX2_findEarliestEnds_82 : decode cX2_findEarliestEnds 82 = .ok (.goto 5, 3) := by decide +kernel
theorem dX2_findEarliestEnds_85 : decode cX2_findEarliestEnds 85 = .ok (.ldc 131, 2) := by decide +kernel
theorem dX2_findEarliestEnds_87 : decode cX2_findEarliestEnds 87 = .ok (.istore 6, 2) := by decide +kernel
theorem dX2_findEarliestEnds_89 : decode cX2_findEarliestEnds 89 = .ok (.aload_n 0, 1) := by decide +kernel
theorem dX2_findEarliestEnds_90 : decode cX2_findEarliestEnds 90 = .ok (.getfield 33, 3) := by decide +kernel
theorem dX2_findEarliestEnds_93 : decode cX2_findEarliestEnds 93 = .ok (.iload_n 2, 1) := by decide +kernel
theorem dX2_findEarliestEnds_94 : decode cX2_findEarliestEnds 94 = .ok (.bipush 10, 2) := by decide +kernel
theorem dX2_findEarliestEnds_96 : decode cX2_findEarliestEnds 96 = .ok (.imul, 1) := by decide +kernel
theorem dX2_findEarliestEnds_97 : decode cX2_findEarliestEnds 97 = .ok (.iload 5, 2) := by decide +kernel
theorem dX2_findEarliestEnds_99 : decode cX2_findEarliestEnds 99 = .ok (.iadd, 1) := by decide +kernel
theorem dX2_findEarliestEnds_100 : decode cX2_findEarliestEnds 100 = .ok (.iload 6, 2) := by decide +kernel
theorem dX2_findEarliestEnds_102 : decode cX2_findEarliestEnds 102 = .ok (.iastore, 1) := by decide +kernel
theorem dX2_findEarliestEnds_103 : decode cX2_findEarliestEnds 103 = .ok (.iload_n 3, 1) := by decide +kernel
theorem dX2_findEarliestEnds_104 : decode cX2_findEarliestEnds 104 = .ok (.iload 6, 2) := by decide +kernel
theorem dX2_findEarliestEnds_106 : decode cX2_findEarliestEnds 106 = .ok (.aload_n 0, 1) := by decide +kernel
theorem dX2_findEarliestEnds_107 : decode cX2_findEarliestEnds 107 = .ok (.getfield 24, 3) := by decide +kernel
theorem dX2_findEarliestEnds_110 : decode cX2_findEarliestEnds 110 = .ok (.iload 5, 2) := by decide +kernel
theorem dX2_findEarliestEnds_112 : decode cX2_findEarliestEnds 112 = .ok (.bipush 11, 2) := by decide +kernel
theorem dX2_findEarliestEnds_114 : decode cX2_findEarliestEnds 114 = .ok (.imul, 1) := by decide +kernel
theorem dX2_findEarliestEnds_115 : decode cX2_findEarliestEnds 115 = .ok (.bipush 10, 2) := by decide +kernel
theorem dX2_findEarliestEnds_117 : decode cX2_findEarliestEnds 117 = .ok (.iadd, 1) := by decide +kernel
theorem dX2_findEarliestEnds_118 : decode cX2_findEarliestEnds 118 = .ok (.iaload, 1) := by decide +kernel
theorem dX2_findEarliestEnds_119 : decode cX2_findEarliestEnds 119 = .ok (.iadd, 1) := by decide +kernel
theorem dX2_findEarliestEnds_120 : decode cX2_findEarliestEnds 120 = .ok (.invokestatic 133, 3) := by decide +kernel
theorem dX2_findEarliestEnds_123 : decode cX2_findEarliestEnds 123 = .ok (.istore_n 3, 1) := by decide +kernel
theorem dX2_findEarliestEnds_124 : decode cX2_findEarliestEnds 124 = .ok (.iinc 5 1, 3) := by decide +kernel
theorem dX2_findEarliestEnds_127 : decode cX2_findEarliestEnds 127 = .ok (.goto (-76), 3) := by decide +kernel
theorem dX2_findEarliestEnds_130 : decode cX2_findEarliestEnds 130 = .ok (.aload_n 0, 1) := by decide +kernel
theorem dX2_findEarliestEnds_131 : decode cX2_findEarliestEnds 131 = .ok (.getfield 36, 3) := by decide +kernel
theorem dX2_findEarliestEnds_134 : decode cX2_findEarliestEnds 134 = .ok (.iload_n 2, 1) := by decide +kernel
theorem dX2_findEarliestEnds_135 : decode cX2_findEarliestEnds 135 = .ok (.iload_n 3, 1) := by decide +kernel
theorem dX2_findEarliestEnds_136 : decode cX2_findEarliestEnds 136 = .ok (.aload_n 1, 1) := by decide +kernel
theorem dX2_findEarliestEnds_137 : decode cX2_findEarliestEnds 137 = .ok (.getfield 150, 3) := by decide +kernel
theorem dX2_findEarliestEnds_140 : decode cX2_findEarliestEnds 140 = .ok (.if_icmp .gt 7, 3) := by decide +kernel
theorem dX2_findEarliestEnds_143 : decode cX2_findEarliestEnds 143 = .ok (.iload_n 3, 1) := by decide +kernel
theorem dX2_findEarliestEnds_144 : decode cX2_findEarliestEnds 144 = .ok (.goto 5, 3) := by decide +kernel
theorem dX2_findEarliestEnds_147 : decode cX2_findEarliestEnds 147 = .ok (.ldc 131, 2) := by decide +kernel
theorem dX2_findEarliestEnds_149 : decode cX2_findEarliestEnds 149 = .ok (.iastore, 1) := by decide +kernel
theorem dX2_findEarliestEnds_150 : decode cX2_findEarliestEnds 150 = .ok (.iinc 2 1, 3) := by decide +kernel
theorem dX2_findEarliestEnds_153 : decode cX2_findEarliestEnds 153 = .ok (.goto (-141), 3) := by decide +kernel
theorem dX2_findEarliestEnds_156 : decode cX2_findEarliestEnds 156 = .ok (.return_, 1) := by decide +kernel
theorem mwX2_earliestEnd_0 : (.code yX2_without cX2_without 2 (some .int) : Cond) ∈ wsX2_earliestEnd := (List.mem_cons_of_mem _ (List.mem_append_left _ (List.mem_append_left _ (memL 12 rfl))))
set_option maxRecDepth 20000 in
theorem sbX2_earliestEnd_X2_without : SubW wsX2_without wsX2_earliestEnd := (subW_cons mwX2_earliestEnd_0 subW_nil)
set_option maxRecDepth 20000 in
theorem gw_wsX2_earliestEnd : goodW wsX2_earliestEnd := (goodW_cons rfl (goodW_app (goodW_app (goodW_of (by decide +kernel)) gw_wsX40) gw_wsX20))
theorem ggX2_earliestEnd_X2_without : GoodIn wsX2_earliestEnd wsX2_without := goodIn_W gw_wsX2_earliestEnd sbX2_earliestEnd_X2_without
theorem mwX2_earliestEnd_1 : (.initialized RX2 : Cond) ∈ wsX2_earliestEnd := (List.mem_cons_of_mem _ (List.mem_append_left _ (List.mem_append_left _ (memL 11 rfl))))
theorem mwX2_earliestEnd_2 : (.static yX2_without : Cond) ∈ wsX2_earliestEnd := (List.mem_cons_of_mem _ (List.mem_append_left _ (List.mem_append_left _ (memL 10 rfl))))
theorem mwX2_earliestEnd_3 : (.methodLink RX2 153 yX2_without : Cond) ∈ wsX2_earliestEnd := (List.mem_cons_of_mem _ (List.mem_append_left _ (List.mem_append_left _ (memL 9 rfl))))
theorem gX2_earliestEnd_X2_without : GoodIn wsX2_earliestEnd (va_wsS RX2 153 yX2_without wsX2_without) := goodIn_W gw_wsX2_earliestEnd (subW_app (subW_cons mwX2_earliestEnd_3 (subW_cons mwX2_earliestEnd_2 (subW_cons mwX2_earliestEnd_1 subW_nil))) sbX2_earliestEnd_X2_without)
theorem mwX2_earliestEnd_4 : (.code yX2_isIn cX2_isIn 2 (some .boolean) : Cond) ∈ wsX2_earliestEnd := (List.mem_cons_of_mem _ (List.mem_append_left _ (List.mem_append_left _ (memL 15 rfl))))
set_option maxRecDepth 20000 in
theorem sbX2_earliestEnd_X2_isIn : SubW wsX2_isIn wsX2_earliestEnd := (subW_cons mwX2_earliestEnd_4 subW_nil)
theorem ggX2_earliestEnd_X2_isIn : GoodIn wsX2_earliestEnd wsX2_isIn := goodIn_W gw_wsX2_earliestEnd sbX2_earliestEnd_X2_isIn
theorem mwX2_earliestEnd_5 : (.static yX2_isIn : Cond) ∈ wsX2_earliestEnd := (List.mem_cons_of_mem _ (List.mem_append_left _ (List.mem_append_left _ (memL 14 rfl))))
theorem mwX2_earliestEnd_6 : (.methodLink RX2 128 yX2_isIn : Cond) ∈ wsX2_earliestEnd := (List.mem_cons_of_mem _ (List.mem_append_left _ (List.mem_append_left _ (memL 13 rfl))))
theorem gX2_earliestEnd_X2_isIn : GoodIn wsX2_earliestEnd (va_wsS RX2 128 yX2_isIn wsX2_isIn) := goodIn_W gw_wsX2_earliestEnd (subW_app (subW_cons mwX2_earliestEnd_6 (subW_cons mwX2_earliestEnd_5 (subW_cons mwX2_earliestEnd_1 subW_nil))) sbX2_earliestEnd_X2_isIn)
theorem mwX2_earliestEnd_7 : (.code yX2_beginFrom cX2_beginFrom 5 (some .int) : Cond) ∈ wsX2_earliestEnd := (List.mem_cons_of_mem _ (List.mem_append_left _ (List.mem_append_left _ (memL 19 rfl))))
theorem mwX2_earliestEnd_8 : (.fieldLink RX2 27 "BuoyTender$Planner" "opensIn" "[I" : Cond) ∈ wsX2_earliestEnd := (List.mem_cons_of_mem _ (List.mem_append_left _ (List.mem_append_left _ (memL 20 rfl))))
theorem mwX2_earliestEnd_9 : (.constant RX2 131 (1000000) : Cond) ∈ wsX2_earliestEnd := (List.mem_cons_of_mem _ (List.mem_append_left _ (List.mem_append_left _ (memL 1 rfl))))
set_option maxRecDepth 20000 in
theorem sbX2_earliestEnd_X20 : SubW wsX20 wsX2_earliestEnd := fun _ h => (List.mem_cons_of_mem _ (List.mem_append_right _ h))
set_option maxRecDepth 20000 in
theorem sbX2_earliestEnd_X2_beginFrom : SubW wsX2_beginFrom wsX2_earliestEnd := (subW_cons mwX2_earliestEnd_7 (subW_app (subW_cons mwX2_earliestEnd_9 (subW_cons mwX2_earliestEnd_8 subW_nil)) sbX2_earliestEnd_X20))
theorem ggX2_earliestEnd_X2_beginFrom : GoodIn wsX2_earliestEnd wsX2_beginFrom := goodIn_W gw_wsX2_earliestEnd sbX2_earliestEnd_X2_beginFrom
theorem mwX2_earliestEnd_10 : (.selects RX2 yX2_beginFrom yX2_beginFrom : Cond) ∈ wsX2_earliestEnd := (List.mem_cons_of_mem _ (List.mem_append_left _ (List.mem_append_left _ (memL 18 rfl))))
theorem mwX2_earliestEnd_11 : (.instanceMethod yX2_beginFrom : Cond) ∈ wsX2_earliestEnd := (List.mem_cons_of_mem _ (List.mem_append_left _ (List.mem_append_left _ (memL 17 rfl))))
theorem mwX2_earliestEnd_12 : (.methodLink RX2 156 yX2_beginFrom : Cond) ∈ wsX2_earliestEnd := (List.mem_cons_of_mem _ (List.mem_append_left _ (List.mem_append_left _ (memL 16 rfl))))
theorem gX2_earliestEnd_X2_beginFrom : GoodIn wsX2_earliestEnd (wsV RX2 156 RX2 yX2_beginFrom wsX2_beginFrom) := goodIn_W gw_wsX2_earliestEnd (subW_app (subW_cons mwX2_earliestEnd_12 (subW_cons mwX2_earliestEnd_11 (subW_cons mwX2_earliestEnd_10 (subW_cons mwX2_earliestEnd_1 subW_nil)))) sbX2_earliestEnd_X2_beginFrom)
theorem dX2_earliestEnd_0 : decode cX2_earliestEnd 0 = .ok (.iload_n 2, 1) := by decide +kernel
theorem dX2_earliestEnd_1 : decode cX2_earliestEnd 1 = .ok (.iload_n 1, 1) := by decide +kernel
theorem dX2_earliestEnd_2 : decode cX2_earliestEnd 2 = .ok (.invokestatic 153, 3) := by decide +kernel
theorem dX2_earliestEnd_5 : decode cX2_earliestEnd 5 = .ok (.istore 4, 2) := by decide +kernel
theorem dX2_earliestEnd_7 : decode cX2_earliestEnd 7 = .ok (.iload 4, 2) := by decide +kernel
theorem dX2_earliestEnd_9 : decode cX2_earliestEnd 9 = .ok (.ifCond .ne 20, 3) := by decide +kernel
theorem dX2_earliestEnd_12 : decode cX2_earliestEnd 12 = .ok (.aload_n 3, 1) := by decide +kernel
theorem dX2_earliestEnd_13 : decode cX2_earliestEnd 13 = .ok (.getfield 136, 3) := by decide +kernel
theorem dX2_earliestEnd_16 : decode cX2_earliestEnd 16 = .ok (.aload_n 0, 1) := by decide +kernel
theorem dX2_earliestEnd_17 : decode cX2_earliestEnd 17 = .ok (.getfield 24, 3) := by decide +kernel
theorem dX2_earliestEnd_20 : decode cX2_earliestEnd 20 = .ok (.bipush 110, 2) := by decide +kernel
theorem dX2_earliestEnd_22 : decode cX2_earliestEnd 22 = .ok (.iload_n 2, 1) := by decide +kernel
theorem dX2_earliestEnd_23 : decode cX2_earliestEnd 23 = .ok (.iadd, 1) := by decide +kernel
theorem dX2_earliestEnd_24 : decode cX2_earliestEnd 24 = .ok (.iaload, 1) := by decide +kernel
theorem dX2_earliestEnd_25 : decode cX2_earliestEnd 25 = .ok (.iadd, 1) := by decide +kernel
theorem dX2_earliestEnd_26 : decode cX2_earliestEnd 26 = .ok (.goto 5, 3) := by decide +kernel
theorem dX2_earliestEnd_29 : decode cX2_earliestEnd 29 = .ok (.ldc 131, 2) := by decide +kernel
theorem dX2_earliestEnd_31 : decode cX2_earliestEnd 31 = .ok (.istore 5, 2) := by decide +kernel
theorem dX2_earliestEnd_33 : decode cX2_earliestEnd 33 = .ok (.iconst 0, 1) := by decide +kernel
theorem dX2_earliestEnd_34 : decode cX2_earliestEnd 34 = .ok (.istore 6, 2) := by decide +kernel
theorem dX2_earliestEnd_36 : decode cX2_earliestEnd 36 = .ok (.iload 6, 2) := by decide +kernel
theorem dX2_earliestEnd_38 : decode cX2_earliestEnd 38 = .ok (.aload_n 0, 1) := by decide +kernel
theorem dX2_earliestEnd_39 : decode cX2_earliestEnd 39 = .ok (.getfield 76, 3) := by decide +kernel
theorem dX2_earliestEnd_42 : decode cX2_earliestEnd 42 = .ok (.if_icmp .ge 52, 3) := by decide +kernel
theorem dX2_earliestEnd_45 : decode cX2_earliestEnd 45 = .ok (.iload 6, 2) := by decide +kernel
theorem dX2_earliestEnd_47 : decode cX2_earliestEnd 47 = .ok (.iload 4, 2) := by decide +kernel
theorem dX2_earliestEnd_49 : decode cX2_earliestEnd 49 = .ok (.invokestatic 128, 3) := by decide +kernel
theorem dX2_earliestEnd_52 : decode cX2_earliestEnd 52 = .ok (.ifCond .eq 36, 3) := by decide +kernel
theorem dX2_earliestEnd_55 : decode cX2_earliestEnd 55 = .ok (.iload 5, 2) := by decide +kernel
theorem dX2_earliestEnd_57 : decode cX2_earliestEnd 57 = .ok (.aload_n 0, 1) := by decide +kernel
theorem dX2_earliestEnd_58 : decode cX2_earliestEnd 58 = .ok (.getfield 33, 3) := by decide +kernel
theorem dX2_earliestEnd_61 : decode cX2_earliestEnd 61 = .ok (.iload 4, 2) := by decide +kernel
theorem dX2_earliestEnd_63 : decode cX2_earliestEnd 63 = .ok (.bipush 10, 2) := by decide +kernel
theorem dX2_earliestEnd_65 : decode cX2_earliestEnd 65 = .ok (.imul, 1) := by decide +kernel
theorem dX2_earliestEnd_66 : decode cX2_earliestEnd 66 = .ok (.iload 6, 2) := by decide +kernel
theorem dX2_earliestEnd_68 : decode cX2_earliestEnd 68 = .ok (.iadd, 1) := by decide +kernel
theorem dX2_earliestEnd_69 : decode cX2_earliestEnd 69 = .ok (.iaload, 1) := by decide +kernel
theorem dX2_earliestEnd_70 : decode cX2_earliestEnd 70 = .ok (.aload_n 0, 1) := by decide +kernel
theorem dX2_earliestEnd_71 : decode cX2_earliestEnd 71 = .ok (.getfield 24, 3) := by decide +kernel
theorem dX2_earliestEnd_74 : decode cX2_earliestEnd 74 = .ok (.iload 6, 2) := by decide +kernel
theorem dX2_earliestEnd_76 : decode cX2_earliestEnd 76 = .ok (.bipush 11, 2) := by decide +kernel
theorem dX2_earliestEnd_78 : decode cX2_earliestEnd 78 = .ok (.imul, 1) := by decide +kernel
theorem dX2_earliestEnd_79 : decode cX2_earliestEnd 79 = .ok (.iload_n 2, 1) := by decide +kernel
theorem dX2_earliestEnd_80 : decode cX2_earliestEnd 80 = .ok (.iadd, 1) := by decide +kernel
theorem dX2_earliestEnd_81 : decode cX2_earliestEnd 81 = .ok (.iaload, 1) := by decide +kernel
theorem dX2_earliestEnd_82 : decode cX2_earliestEnd 82 = .ok (.iadd, 1) := by decide +kernel
theorem dX2_earliestEnd_83 : decode cX2_earliestEnd 83 = .ok (.invokestatic 133, 3) := by decide +kernel
theorem dX2_earliestEnd_86 : decode cX2_earliestEnd 86 = .ok (.istore 5, 2) := by decide +kernel
theorem dX2_earliestEnd_88 : decode cX2_earliestEnd 88 = .ok (.iinc 6 1, 3) := by decide +kernel
theorem dX2_earliestEnd_91 : decode cX2_earliestEnd 91 = .ok (.goto (-55), 3) := by decide +kernel
theorem dX2_earliestEnd_94 : decode cX2_earliestEnd 94 = .ok (.aload_n 0, 1) := by decide +kernel
theorem dX2_earliestEnd_95 : decode cX2_earliestEnd 95 = .ok (.iload_n 2, 1) := by decide +kernel
theorem dX2_earliestEnd_96 : decode cX2_earliestEnd 96 = .ok (.iload 5, 2) := by decide +kernel
theorem dX2_earliestEnd_98 : decode cX2_earliestEnd 98 = .ok (.invokevirtual 156, 3) := by decide +kernel
theorem dX2_earliestEnd_101 : decode cX2_earliestEnd 101 = .ok (.aload_n 0, 1) := by decide +kernel
theorem dX2_earliestEnd_102 : decode cX2_earliestEnd 102 = .ok (.getfield 15, 3) := by decide +kernel
theorem dX2_earliestEnd_105 : decode cX2_earliestEnd 105 = .ok (.iload_n 2, 1) := by decide +kernel
theorem dX2_earliestEnd_106 : decode cX2_earliestEnd 106 = .ok (.iaload, 1) := by decide +kernel
theorem dX2_earliestEnd_107 : decode cX2_earliestEnd 107 = .ok (.iadd, 1) := by decide +kernel
theorem dX2_earliestEnd_108 : decode cX2_earliestEnd 108 = .ok (.istore 6, 2) := by decide +kernel
theorem dX2_earliestEnd_110 : decode cX2_earliestEnd 110 = .ok (.iload 6, 2) := by decide +kernel
theorem dX2_earliestEnd_112 : decode cX2_earliestEnd 112 = .ok (.aload_n 3, 1) := by decide +kernel
theorem dX2_earliestEnd_113 : decode cX2_earliestEnd 113 = .ok (.getfield 150, 3) := by decide +kernel
theorem dX2_earliestEnd_116 : decode cX2_earliestEnd 116 = .ok (.if_icmp .gt 8, 3) := by decide +kernel
theorem dX2_earliestEnd_119 : decode cX2_earliestEnd 119 = .ok (.iload 6, 2) := by decide +kernel
theorem dX2_earliestEnd_121 : decode cX2_earliestEnd 121 = .ok (.goto 5, 3) := by decide +kernel
theorem dX2_earliestEnd_124 : decode cX2_earliestEnd 124 = .ok (.ldc 131, 2) := by decide +kernel
theorem dX2_earliestEnd_126 : decode cX2_earliestEnd 126 = .ok (.ireturn, 1) := by decide +kernel
theorem mwX2_chooseBest_0 : (.code yX2_sumOver cX2_sumOver 5 (some .int) : Cond) ∈ wsX2_chooseBest := (List.mem_cons_of_mem _ (List.mem_append_left _ (memL 10 rfl)))
theorem mwX2_chooseBest_1 : (.code yX2_isIn cX2_isIn 2 (some .boolean) : Cond) ∈ wsX2_chooseBest := (List.mem_cons_of_mem _ (List.mem_append_left _ (memL 13 rfl)))
theorem mwX2_chooseBest_2 : (.initialized RX2 : Cond) ∈ wsX2_chooseBest := (List.mem_cons_of_mem _ (List.mem_append_left _ (memL 9 rfl)))
theorem mwX2_chooseBest_3 : (.static yX2_isIn : Cond) ∈ wsX2_chooseBest := (List.mem_cons_of_mem _ (List.mem_append_left _ (memL 12 rfl)))
theorem mwX2_chooseBest_4 : (.methodLink RX2 128 yX2_isIn : Cond) ∈ wsX2_chooseBest := (List.mem_cons_of_mem _ (List.mem_append_left _ (memL 11 rfl)))
theorem mwX2_chooseBest_5 : (.fieldLink RX2 76 "BuoyTender$Planner" "count" "I" : Cond) ∈ wsX2_chooseBest := (List.mem_cons_of_mem _ (List.mem_append_left _ (memL 3 rfl)))
set_option maxRecDepth 20000 in
theorem sbX2_chooseBest_X20 : SubW wsX20 wsX2_chooseBest := fun _ h => (List.mem_cons_of_mem _ (List.mem_append_right _ h))
set_option maxRecDepth 20000 in
theorem sbX2_chooseBest_X2_sumOver : SubW wsX2_sumOver wsX2_chooseBest := (subW_cons mwX2_chooseBest_0 (subW_app (subW_cons mwX2_chooseBest_5 (subW_cons mwX2_chooseBest_4 (subW_cons mwX2_chooseBest_3 (subW_cons mwX2_chooseBest_2 (subW_cons mwX2_chooseBest_1 subW_nil))))) sbX2_chooseBest_X20))
set_option maxRecDepth 20000 in
theorem gw_wsX2_chooseBest : goodW wsX2_chooseBest := (goodW_cons rfl (goodW_app (goodW_of (by decide +kernel)) gw_wsX20))
theorem ggX2_chooseBest_X2_sumOver : GoodIn wsX2_chooseBest wsX2_sumOver := goodIn_W gw_wsX2_chooseBest sbX2_chooseBest_X2_sumOver
theorem mwX2_chooseBest_6 : (.selects RX2 yX2_sumOver yX2_sumOver : Cond) ∈ wsX2_chooseBest := (List.mem_cons_of_mem _ (List.mem_append_left _ (memL 8 rfl)))
theorem mwX2_chooseBest_7 : (.instanceMethod yX2_sumOver : Cond) ∈ wsX2_chooseBest := (List.mem_cons_of_mem _ (List.mem_append_left _ (memL 7 rfl)))
theorem mwX2_chooseBest_8 : (.methodLink RX2 139 yX2_sumOver : Cond) ∈ wsX2_chooseBest := (List.mem_cons_of_mem _ (List.mem_append_left _ (memL 6 rfl)))
theorem gX2_chooseBest_X2_sumOver : GoodIn wsX2_chooseBest (wsV RX2 139 RX2 yX2_sumOver wsX2_sumOver) := goodIn_W gw_wsX2_chooseBest (subW_app (subW_cons mwX2_chooseBest_8 (subW_cons mwX2_chooseBest_7 (subW_cons mwX2_chooseBest_6 (subW_cons mwX2_chooseBest_2 subW_nil)))) sbX2_chooseBest_X2_sumOver)
theorem dX2_chooseBest_0 : decode cX2_chooseBest 0 = .ok (.aload_n 0, 1) := by decide +kernel
theorem dX2_chooseBest_1 : decode cX2_chooseBest 1 = .ok (.iconst 0, 1) := by decide +kernel
theorem dX2_chooseBest_2 : decode cX2_chooseBest 2 = .ok (.putfield 159, 3) := by decide +kernel
theorem dX2_chooseBest_5 : decode cX2_chooseBest 5 = .ok (.aload_n 0, 1) := by decide +kernel
theorem dX2_chooseBest_6 : decode cX2_chooseBest 6 = .ok (.aload_n 0, 1) := by decide +kernel
theorem dX2_chooseBest_7 : decode cX2_chooseBest 7 = .ok (.getfield 36, 3) := by decide +kernel
theorem dX2_chooseBest_10 : decode cX2_chooseBest 10 = .ok (.iconst 0, 1) := by decide +kernel
theorem dX2_chooseBest_11 : decode cX2_chooseBest 11 = .ok (.iaload, 1) := by decide +kernel
theorem dX2_chooseBest_12 : decode cX2_chooseBest 12 = .ok (.putfield 162, 3) := by decide +kernel
theorem dX2_chooseBest_15 : decode cX2_chooseBest 15 = .ok (.iconst 1, 1) := by decide +kernel
theorem dX2_chooseBest_16 : decode cX2_chooseBest 16 = .ok (.istore_n 1, 1) := by decide +kernel
theorem dX2_chooseBest_17 : decode cX2_chooseBest 17 = .ok (.iload_n 1, 1) := by decide +kernel
theorem dX2_chooseBest_18 : decode cX2_chooseBest 18 = .ok (.iconst 1, 1) := by decide +kernel
theorem dX2_chooseBest_19 : decode cX2_chooseBest 19 = .ok (.aload_n 0, 1) := by decide +kernel
theorem dX2_chooseBest_20 : decode cX2_chooseBest 20 = .ok (.getfield 76, 3) := by decide +kernel
theorem dX2_chooseBest_23 : decode cX2_chooseBest 23 = .ok (.ishl, 1) := by decide +kernel
theorem dX2_chooseBest_24 : decode cX2_chooseBest 24 = .ok (.if_icmp .ge 74, 3) := by decide +kernel
theorem dX2_chooseBest_27 : decode cX2_chooseBest 27 = .ok (.aload_n 0, 1) := by decide +kernel
theorem dX2_chooseBest_28 : decode cX2_chooseBest 28 = .ok (.getfield 36, 3) := by decide +kernel
theorem dX2_chooseBest_31 : decode cX2_chooseBest 31 = .ok (.iload_n 1, 1) := by decide +kernel
theorem dX2_chooseBest_32 : decode cX2_chooseBest 32 = .ok (.iaload, 1) := by decide +kernel
theorem dX2_chooseBest_33 : decode cX2_chooseBest 33 = .ok (.ldc 131, 2) := by decide +kernel
theorem dX2_chooseBest_35 : decode cX2_chooseBest 35 = .ok (.if_icmp .eq 57, 3) := by decide +kernel
theorem dX2_chooseBest_38 : decode cX2_chooseBest 38 = .ok (.aload_n 0, 1) := by decide +kernel
theorem dX2_chooseBest_39 : decode cX2_chooseBest 39 = .ok (.iload_n 1, 1) := by decide +kernel
theorem dX2_chooseBest_40 : decode cX2_chooseBest 40 = .ok (.aload_n 0, 1) := by decide +kernel
theorem dX2_chooseBest_41 : decode cX2_chooseBest 41 = .ok (.getfield 21, 3) := by decide +kernel
theorem dX2_chooseBest_44 : decode cX2_chooseBest 44 = .ok (.invokevirtual 139, 3) := by decide +kernel
theorem dX2_chooseBest_47 : decode cX2_chooseBest 47 = .ok (.istore_n 2, 1) := by decide +kernel
theorem dX2_chooseBest_48 : decode cX2_chooseBest 48 = .ok (.iload_n 2, 1) := by decide +kernel
theorem dX2_chooseBest_49 : decode cX2_chooseBest 49 = .ok (.aload_n 0, 1) := by decide +kernel
theorem dX2_chooseBest_50 : decode cX2_chooseBest 50 = .ok (.getfield 159, 3) := by decide +kernel
theorem dX2_chooseBest_53 : decode cX2_chooseBest 53 = .ok (.if_icmp .gt 24, 3) := by decide +kernel
theorem dX2_chooseBest_56 : decode cX2_chooseBest 56 = .ok (.iload_n 2, 1) := by decide +kernel
theorem dX2_chooseBest_57 : decode cX2_chooseBest 57 = .ok (.aload_n 0, 1) := by decide +kernel
theorem dX2_chooseBest_58 : decode cX2_chooseBest 58 = .ok (.getfield 159, 3) := by decide +kernel
theorem dX2_chooseBest_61 : decode cX2_chooseBest 61 = .ok (.if_icmp .ne 31, 3) := by decide +kernel
theorem dX2_chooseBest_64 : decode cX2_chooseBest 64 = .ok (.aload_n 0, 1) := by decide +kernel
theorem dX2_chooseBest_65 : decode cX2_chooseBest 65 = .ok (.getfield 36, 3) := by decide +kernel
theorem dX2_chooseBest_68 : decode cX2_chooseBest 68 = .ok (.iload_n 1, 1) := by decide +kernel
theorem dX2_chooseBest_69 : decode cX2_chooseBest 69 = .ok (.iaload, 1) := by decide +kernel
theorem dX2_chooseBest_70 : decode cX2_chooseBest 70 = .ok (.aload_n 0, 1) := by decide +kernel
theorem dX2_chooseBest_71 : decode cX2_chooseBest 71 = .ok (.getfield 162, 3) := by decide +kernel
theorem dX2_chooseBest_74 : decode cX2_chooseBest 74 = .ok (.if_icmp .ge 18, 3) := by decide +kernel
theorem dX2_chooseBest_77 : decode cX2_chooseBest 77 = .ok (.aload_n 0, 1) := by decide +kernel
theorem dX2_chooseBest_78 : decode cX2_chooseBest 78 = .ok (.iload_n 2, 1) := by decide +kernel
theorem dX2_chooseBest_79 : decode cX2_chooseBest 79 = .ok (.putfield 159, 3) := by decide +kernel
theorem dX2_chooseBest_82 : decode cX2_chooseBest 82 = .ok (.aload_n 0, 1) := by decide +kernel
theorem dX2_chooseBest_83 : decode cX2_chooseBest 83 = .ok (.aload_n 0, 1) := by decide +kernel
theorem dX2_chooseBest_84 : decode cX2_chooseBest 84 = .ok (.getfield 36, 3) := by decide +kernel
theorem dX2_chooseBest_87 : decode cX2_chooseBest 87 = .ok (.iload_n 1, 1) := by decide +kernel
theorem dX2_chooseBest_88 : decode cX2_chooseBest 88 = .ok (.iaload, 1) := by decide +kernel
theorem dX2_chooseBest_89 : decode cX2_chooseBest 89 = .ok (.putfield 162, 3) := by decide +kernel
theorem dX2_chooseBest_92 : decode cX2_chooseBest 92 = .ok (.iinc 1 1, 3) := by decide +kernel
theorem dX2_chooseBest_95 : decode cX2_chooseBest 95 = .ok (.goto (-78), 3) := by decide +kernel
theorem dX2_chooseBest_98 : decode cX2_chooseBest 98 = .ok (.return_, 1) := by decide +kernel
theorem sbX2_findLatestEnds_X2_findLatestEnds_r1 : SubW wsX2_findLatestEnds_r1 wsX2_findLatestEnds := fun _ h => (List.mem_cons_of_mem _ (List.mem_append_left _ (List.mem_append_left _ h)))
theorem sbX2_findLatestEnds_X2_findLatestEnds_r2 : SubW wsX2_findLatestEnds_r2 wsX2_findLatestEnds := fun _ h => (List.mem_cons_of_mem _ (List.mem_append_left _ (List.mem_append_right _ h)))
theorem mwX2_findLatestEnds_0 : (.code yX2_isIn cX2_isIn 2 (some .boolean) : Cond) ∈ wsX2_findLatestEnds := (sbX2_findLatestEnds_X2_findLatestEnds_r1 _ (memL 6 rfl))
set_option maxRecDepth 20000 in
theorem sbX2_findLatestEnds_X2_isIn : SubW wsX2_isIn wsX2_findLatestEnds := (subW_cons mwX2_findLatestEnds_0 subW_nil)
set_option maxRecDepth 20000 in
theorem gw_wsX2_findLatestEnds_r1 : goodW wsX2_findLatestEnds_r1 := (goodW_of (by decide +kernel))
set_option maxRecDepth 20000 in
theorem gw_wsX2_findLatestEnds_r2 : goodW wsX2_findLatestEnds_r2 := (goodW_of (by decide +kernel))
set_option maxRecDepth 20000 in
theorem gw_wsX2_findLatestEnds : goodW wsX2_findLatestEnds := (goodW_cons rfl (goodW_app (goodW_app gw_wsX2_findLatestEnds_r1 gw_wsX2_findLatestEnds_r2) gw_wsX20))
theorem ggX2_findLatestEnds_X2_isIn : GoodIn wsX2_findLatestEnds wsX2_isIn := goodIn_W gw_wsX2_findLatestEnds sbX2_findLatestEnds_X2_isIn
theorem mwX2_findLatestEnds_1 : (.initialized RX2 : Cond) ∈ wsX2_findLatestEnds := (sbX2_findLatestEnds_X2_findLatestEnds_r1 _ (memL 5 rfl))
theorem mwX2_findLatestEnds_2 : (.static yX2_isIn : Cond) ∈ wsX2_findLatestEnds := (sbX2_findLatestEnds_X2_findLatestEnds_r1 _ (memL 4 rfl))
theorem mwX2_findLatestEnds_3 : (.methodLink RX2 128 yX2_isIn : Cond) ∈ wsX2_findLatestEnds := (sbX2_findLatestEnds_X2_findLatestEnds_r1 _ (memL 3 rfl))
theorem gX2_findLatestEnds_X2_isIn : GoodIn wsX2_findLatestEnds (va_wsS RX2 128 yX2_isIn wsX2_isIn) := goodIn_W gw_wsX2_findLatestEnds (subW_app (subW_cons mwX2_findLatestEnds_3 (subW_cons mwX2_findLatestEnds_2 (subW_cons mwX2_findLatestEnds_1 subW_nil))) sbX2_findLatestEnds_X2_isIn)
theorem mwX2_findLatestEnds_4 : (.code yX2_latestEnd cX2_latestEnd 6 (some .int) : Cond) ∈ wsX2_findLatestEnds := (sbX2_findLatestEnds_X2_findLatestEnds_r1 _ (memL 10 rfl))
theorem mwX2_findLatestEnds_5 : (.code Lib.Math.min.name Lib.Math.min.code 2 (some .int) : Cond) ∈ wsX2_findLatestEnds := (sbX2_findLatestEnds_X2_findLatestEnds_r2 _ (memL 3 rfl))
theorem mwX2_findLatestEnds_6 : (.static Lib.Math.min.name : Cond) ∈ wsX2_findLatestEnds := (sbX2_findLatestEnds_X2_findLatestEnds_r2 _ (memL 2 rfl))
theorem mwX2_findLatestEnds_7 : (.methodLink RX2 133 Lib.Math.min.name : Cond) ∈ wsX2_findLatestEnds := (sbX2_findLatestEnds_X2_findLatestEnds_r2 _ (memL 1 rfl))
theorem mwX2_findLatestEnds_8 : (.code yX2_beginUpTo cX2_beginUpTo 6 (some .int) : Cond) ∈ wsX2_findLatestEnds := (sbX2_findLatestEnds_X2_findLatestEnds_r2 _ (memL 0 rfl))
theorem mwX2_findLatestEnds_9 : (.selects RX2 yX2_beginUpTo yX2_beginUpTo : Cond) ∈ wsX2_findLatestEnds := (sbX2_findLatestEnds_X2_findLatestEnds_r1 _ (memL 23 rfl))
theorem mwX2_findLatestEnds_10 : (.instanceMethod yX2_beginUpTo : Cond) ∈ wsX2_findLatestEnds := (sbX2_findLatestEnds_X2_findLatestEnds_r1 _ (memL 22 rfl))
theorem mwX2_findLatestEnds_11 : (.methodLink RX2 168 yX2_beginUpTo : Cond) ∈ wsX2_findLatestEnds := (sbX2_findLatestEnds_X2_findLatestEnds_r1 _ (memL 21 rfl))
theorem mwX2_findLatestEnds_12 : (.code yX2_without cX2_without 2 (some .int) : Cond) ∈ wsX2_findLatestEnds := (sbX2_findLatestEnds_X2_findLatestEnds_r1 _ (memL 20 rfl))
theorem mwX2_findLatestEnds_13 : (.static yX2_without : Cond) ∈ wsX2_findLatestEnds := (sbX2_findLatestEnds_X2_findLatestEnds_r1 _ (memL 19 rfl))
theorem mwX2_findLatestEnds_14 : (.methodLink RX2 153 yX2_without : Cond) ∈ wsX2_findLatestEnds := (sbX2_findLatestEnds_X2_findLatestEnds_r1 _ (memL 18 rfl))
theorem mwX2_findLatestEnds_15 : (.code Lib.Math.max.name Lib.Math.max.code 2 (some .int) : Cond) ∈ wsX2_findLatestEnds := (sbX2_findLatestEnds_X2_findLatestEnds_r1 _ (memL 17 rfl))
theorem mwX2_findLatestEnds_16 : (.initialized "java/lang/Math" : Cond) ∈ wsX2_findLatestEnds := (sbX2_findLatestEnds_X2_findLatestEnds_r1 _ (memL 16 rfl))
theorem mwX2_findLatestEnds_17 : (.static Lib.Math.max.name : Cond) ∈ wsX2_findLatestEnds := (sbX2_findLatestEnds_X2_findLatestEnds_r1 _ (memL 15 rfl))
theorem mwX2_findLatestEnds_18 : (.methodLink RX2 121 Lib.Math.max.name : Cond) ∈ wsX2_findLatestEnds := (sbX2_findLatestEnds_X2_findLatestEnds_r1 _ (memL 14 rfl))
theorem mwX2_findLatestEnds_19 : (.fieldLink RX2 15 "BuoyTender$Planner" "minutes" "[I" : Cond) ∈ wsX2_findLatestEnds := (sbX2_findLatestEnds_X2_findLatestEnds_r1 _ (memL 13 rfl))
theorem mwX2_findLatestEnds_20 : (.fieldLink RX2 33 "BuoyTender$Planner" "ends" "[I" : Cond) ∈ wsX2_findLatestEnds := (sbX2_findLatestEnds_X2_findLatestEnds_r1 _ (memL 1 rfl))
theorem mwX2_findLatestEnds_21 : (.fieldLink RX2 76 "BuoyTender$Planner" "count" "I" : Cond) ∈ wsX2_findLatestEnds := (sbX2_findLatestEnds_X2_findLatestEnds_r1 _ (memL 0 rfl))
theorem mwX2_findLatestEnds_22 : (.constant RX2 132 (-1000000) : Cond) ∈ wsX2_findLatestEnds := (sbX2_findLatestEnds_X2_findLatestEnds_r1 _ (memL 2 rfl))
theorem mwX2_findLatestEnds_23 : (.fieldLink RX2 24 "BuoyTender$Planner" "ways" "[I" : Cond) ∈ wsX2_findLatestEnds := (sbX2_findLatestEnds_X2_findLatestEnds_r1 _ (memL 12 rfl))
theorem mwX2_findLatestEnds_24 : (.fieldLink RX2 162 "BuoyTender$Planner" "bestBack" "I" : Cond) ∈ wsX2_findLatestEnds := (sbX2_findLatestEnds_X2_findLatestEnds_r1 _ (memL 11 rfl))
set_option maxRecDepth 20000 in
theorem sbX2_findLatestEnds_X2_latestEnd_r1 : SubW wsX2_latestEnd_r1 wsX2_findLatestEnds := (subW_cons mwX2_findLatestEnds_24 (subW_cons mwX2_findLatestEnds_23 (subW_cons mwX2_findLatestEnds_22 (subW_cons mwX2_findLatestEnds_21 (subW_cons mwX2_findLatestEnds_20 (subW_cons mwX2_findLatestEnds_19 (subW_cons mwX2_findLatestEnds_18 (subW_cons mwX2_findLatestEnds_17 (subW_cons mwX2_findLatestEnds_16 (subW_cons mwX2_findLatestEnds_15 (subW_cons mwX2_findLatestEnds_3 (subW_cons mwX2_findLatestEnds_2 (subW_cons mwX2_findLatestEnds_1 (subW_cons mwX2_findLatestEnds_0 (subW_cons mwX2_findLatestEnds_14 (subW_cons mwX2_findLatestEnds_13 (subW_cons mwX2_findLatestEnds_12 (subW_cons mwX2_findLatestEnds_11 (subW_cons mwX2_findLatestEnds_10 (subW_cons mwX2_findLatestEnds_9 (subW_cons mwX2_findLatestEnds_8 (subW_cons mwX2_findLatestEnds_7 (subW_cons mwX2_findLatestEnds_6 (subW_cons mwX2_findLatestEnds_5 subW_nil))))))))))))))))))))))))
theorem mwX2_findLatestEnds_25 : (.fieldLink RX2 30 "BuoyTender$Planner" "openedIn" "[I" : Cond) ∈ wsX2_findLatestEnds := (sbX2_findLatestEnds_X2_findLatestEnds_r2 _ (memL 4 rfl))
set_option maxRecDepth 20000 in
theorem sbX2_findLatestEnds_X2_latestEnd_r2 : SubW wsX2_latestEnd_r2 wsX2_findLatestEnds := (subW_cons mwX2_findLatestEnds_25 subW_nil)
set_option maxRecDepth 20000 in
theorem sbX2_findLatestEnds_X20 : SubW wsX20 wsX2_findLatestEnds := fun _ h => (List.mem_cons_of_mem _ (List.mem_append_right _ h))
set_option maxRecDepth 20000 in
theorem sbX2_findLatestEnds_X2_latestEnd : SubW wsX2_latestEnd wsX2_findLatestEnds := (subW_cons mwX2_findLatestEnds_4 (subW_app (subW_app sbX2_findLatestEnds_X2_latestEnd_r1 sbX2_findLatestEnds_X2_latestEnd_r2) sbX2_findLatestEnds_X20))
theorem ggX2_findLatestEnds_X2_latestEnd : GoodIn wsX2_findLatestEnds wsX2_latestEnd := goodIn_W gw_wsX2_findLatestEnds sbX2_findLatestEnds_X2_latestEnd
theorem mwX2_findLatestEnds_26 : (.selects RX2 yX2_latestEnd yX2_latestEnd : Cond) ∈ wsX2_findLatestEnds := (sbX2_findLatestEnds_X2_findLatestEnds_r1 _ (memL 9 rfl))
theorem mwX2_findLatestEnds_27 : (.instanceMethod yX2_latestEnd : Cond) ∈ wsX2_findLatestEnds := (sbX2_findLatestEnds_X2_findLatestEnds_r1 _ (memL 8 rfl))
theorem mwX2_findLatestEnds_28 : (.methodLink RX2 165 yX2_latestEnd : Cond) ∈ wsX2_findLatestEnds := (sbX2_findLatestEnds_X2_findLatestEnds_r1 _ (memL 7 rfl))
theorem gX2_findLatestEnds_X2_latestEnd : GoodIn wsX2_findLatestEnds (wsV RX2 165 RX2 yX2_latestEnd wsX2_latestEnd) := goodIn_W gw_wsX2_findLatestEnds (subW_app (subW_cons mwX2_findLatestEnds_28 (subW_cons mwX2_findLatestEnds_27 (subW_cons mwX2_findLatestEnds_26 (subW_cons mwX2_findLatestEnds_1 subW_nil)))) sbX2_findLatestEnds_X2_latestEnd)
theorem dX2_findLatestEnds_0 : decode cX2_findLatestEnds 0 = .ok (.iconst 0, 1) := by decide +kernel
theorem dX2_findLatestEnds_1 : decode cX2_findLatestEnds 1 = .ok (.istore_n 1, 1) := by decide +kernel
theorem dX2_findLatestEnds_2 : decode cX2_findLatestEnds 2 = .ok (.iload_n 1, 1) := by decide +kernel
theorem dX2_findLatestEnds_3 : decode cX2_findLatestEnds 3 = .ok (.iconst 1, 1) := by decide +kernel
theorem dX2_findLatestEnds_4 : decode cX2_findLatestEnds 4 = .ok (.aload_n 0, 1) := by decide +kernel
theorem dX2_findLatestEnds_5 : decode cX2_findLatestEnds 5 = .ok (.getfield 76, 3) := by decide +kernel
theorem dX2_findLatestEnds_8 : decode cX2_findLatestEnds 8 = .ok (.ishl, 1) := by decide +kernel
theorem dX2_findLatestEnds_9 : decode cX2_findLatestEnds 9 = .ok (.if_icmp .ge 55, 3) := by decide +kernel
theorem dX2_findLatestEnds_12 : decode cX2_findLatestEnds 12 = .ok (.iconst 0, 1) := by decide +kernel
theorem dX2_findLatestEnds_13 : decode cX2_findLatestEnds 13 = .ok (.istore_n 2, 1) := by decide +kernel
theorem dX2_findLatestEnds_14 : decode cX2_findLatestEnds 14 = .ok (.iload_n 2, 1) := by decide +kernel
theorem dX2_findLatestEnds_15 : decode cX2_findLatestEnds 15 = .ok (.aload_n 0, 1) := by decide +kernel
theorem dX2_findLatestEnds_16 : decode cX2_findLatestEnds 16 = .ok (.getfield 76, 3) := by decide +kernel
theorem dX2_findLatestEnds_19 : decode cX2_findLatestEnds 19 = .ok (.if_icmp .ge 39, 3) := by decide +kernel
theorem dX2_findLatestEnds_22 : decode cX2_findLatestEnds 22 = .ok (.aload_n 0, 1) := by decide +kernel
theorem dX2_findLatestEnds_23 : decode cX2_findLatestEnds 23 = .ok (.getfield 33, 3) := by decide +kernel
theorem dX2_findLatestEnds_26 : decode cX2_findLatestEnds 26 = .ok (.iload_n 1, 1) := by decide +kernel
theorem dX2_findLatestEnds_27 : decode cX2_findLatestEnds 27 = .ok (.bipush 10, 2) := by decide +kernel
theorem dX2_findLatestEnds_29 : decode cX2_findLatestEnds 29 = .ok (.imul, 1) := by decide +kernel
theorem dX2_findLatestEnds_30 : decode cX2_findLatestEnds 30 = .ok (.iload_n 2, 1) := by decide +kernel
theorem dX2_findLatestEnds_31 : decode cX2_findLatestEnds 31 = .ok (.iadd, 1) := by decide +kernel
theorem dX2_findLatestEnds_32 : decode cX2_findLatestEnds 32 = .ok (.iload_n 2, 1) := by decide +kernel
theorem dX2_findLatestEnds_33 : decode cX2_findLatestEnds 33 = .ok (.iload_n 1, 1) := by decide +kernel
theorem dX2_findLatestEnds_34 : decode cX2_findLatestEnds 34 = .ok (.invokestatic 128, 3) := by decide +kernel
theorem dX2_findLatestEnds_37 : decode cX2_findLatestEnds 37 = .ok (.ifCond .eq 8, 3) := by decide +kernel
theorem dX2_findLatestEnds_40 : decode cX2_findLatestEnds 40 = .ok (.ldc 132, 2) := by decide +kernel
theorem dX2_findLatestEnds_42 : decode cX2_findLatestEnds 42 = .ok (.goto 9, 3) := by decide +kernel
theorem dX2_findLatestEnds_45 : decode cX2_findLatestEnds 45 = .ok (.aload_n 0, 1) := by decide +kernel
theorem dX2_findLatestEnds_46 : decode cX2_findLatestEnds 46 = .ok (.iload_n 1, 1) := by decide +kernel
theorem dX2_findLatestEnds_47 : decode cX2_findLatestEnds 47 = .ok (.iload_n 2, 1) := by decide +kernel
theorem dX2_findLatestEnds_48 : decode cX2_findLatestEnds 48 = .ok (.invokevirtual 165, 3) := by decide +kernel
theorem dX2_findLatestEnds_51 : decode cX2_findLatestEnds 51 = .ok (.iastore, 1) := by decide +kernel
theorem dX2_findLatestEnds_52 : decode cX2_findLatestEnds 52 = .ok (.iinc 2 1, 3) := by decide +kernel
theorem dX2_findLatestEnds_55 : decode cX2_findLatestEnds 55 = .ok (.goto (-41), 3) := by decide +kernel
theorem dX2_findLatestEnds_58 : decode cX2_findLatestEnds 58 = .ok (.iinc 1 1, 3) := by decide +kernel
theorem dX2_findLatestEnds_61 : decode cX2_findLatestEnds 61 = .ok (.goto (-59), 3) := by decide +kernel
theorem dX2_findLatestEnds_64 : decode cX2_findLatestEnds 64 = .ok (.return_, 1) := by decide +kernel
theorem sbX2_latestEnd_X2_latestEnd_r1 : SubW wsX2_latestEnd_r1 wsX2_latestEnd := fun _ h => (List.mem_cons_of_mem _ (List.mem_append_left _ (List.mem_append_left _ h)))
theorem sbX2_latestEnd_X2_latestEnd_r2 : SubW wsX2_latestEnd_r2 wsX2_latestEnd := fun _ h => (List.mem_cons_of_mem _ (List.mem_append_left _ (List.mem_append_right _ h)))
theorem mwX2_latestEnd_0 : (.code yX2_isIn cX2_isIn 2 (some .boolean) : Cond) ∈ wsX2_latestEnd := (sbX2_latestEnd_X2_latestEnd_r1 _ (memL 13 rfl))
set_option maxRecDepth 20000 in
theorem sbX2_latestEnd_X2_isIn : SubW wsX2_isIn wsX2_latestEnd := (subW_cons mwX2_latestEnd_0 subW_nil)
set_option maxRecDepth 20000 in
theorem gw_wsX2_latestEnd_r1 : goodW wsX2_latestEnd_r1 := (goodW_of (by decide +kernel))
set_option maxRecDepth 20000 in
theorem gw_wsX2_latestEnd_r2 : goodW wsX2_latestEnd_r2 := (goodW_of (by decide +kernel))
set_option maxRecDepth 20000 in
theorem gw_wsX2_latestEnd : goodW wsX2_latestEnd := (goodW_cons rfl (goodW_app (goodW_app gw_wsX2_latestEnd_r1 gw_wsX2_latestEnd_r2) gw_wsX20))
theorem ggX2_latestEnd_X2_isIn : GoodIn wsX2_latestEnd wsX2_isIn := goodIn_W gw_wsX2_latestEnd sbX2_latestEnd_X2_isIn
theorem mwX2_latestEnd_1 : (.initialized RX2 : Cond) ∈ wsX2_latestEnd := (sbX2_latestEnd_X2_latestEnd_r1 _ (memL 12 rfl))
theorem mwX2_latestEnd_2 : (.static yX2_isIn : Cond) ∈ wsX2_latestEnd := (sbX2_latestEnd_X2_latestEnd_r1 _ (memL 11 rfl))
theorem mwX2_latestEnd_3 : (.methodLink RX2 128 yX2_isIn : Cond) ∈ wsX2_latestEnd := (sbX2_latestEnd_X2_latestEnd_r1 _ (memL 10 rfl))
theorem gX2_latestEnd_X2_isIn : GoodIn wsX2_latestEnd (va_wsS RX2 128 yX2_isIn wsX2_isIn) := goodIn_W gw_wsX2_latestEnd (subW_app (subW_cons mwX2_latestEnd_3 (subW_cons mwX2_latestEnd_2 (subW_cons mwX2_latestEnd_1 subW_nil))) sbX2_latestEnd_X2_isIn)
theorem mwX2_latestEnd_4 : (.code yX2_without cX2_without 2 (some .int) : Cond) ∈ wsX2_latestEnd := (sbX2_latestEnd_X2_latestEnd_r1 _ (memL 16 rfl))
set_option maxRecDepth 20000 in
theorem sbX2_latestEnd_X2_without : SubW wsX2_without wsX2_latestEnd := (subW_cons mwX2_latestEnd_4 subW_nil)
theorem ggX2_latestEnd_X2_without : GoodIn wsX2_latestEnd wsX2_without := goodIn_W gw_wsX2_latestEnd sbX2_latestEnd_X2_without
theorem mwX2_latestEnd_5 : (.static yX2_without : Cond) ∈ wsX2_latestEnd := (sbX2_latestEnd_X2_latestEnd_r1 _ (memL 15 rfl))
theorem mwX2_latestEnd_6 : (.methodLink RX2 153 yX2_without : Cond) ∈ wsX2_latestEnd := (sbX2_latestEnd_X2_latestEnd_r1 _ (memL 14 rfl))
theorem gX2_latestEnd_X2_without : GoodIn wsX2_latestEnd (va_wsS RX2 153 yX2_without wsX2_without) := goodIn_W gw_wsX2_latestEnd (subW_app (subW_cons mwX2_latestEnd_6 (subW_cons mwX2_latestEnd_5 (subW_cons mwX2_latestEnd_1 subW_nil))) sbX2_latestEnd_X2_without)
theorem mwX2_latestEnd_7 : (.code yX2_beginUpTo cX2_beginUpTo 6 (some .int) : Cond) ∈ wsX2_latestEnd := (sbX2_latestEnd_X2_latestEnd_r1 _ (memL 20 rfl))
theorem mwX2_latestEnd_8 : (.fieldLink RX2 30 "BuoyTender$Planner" "openedIn" "[I" : Cond) ∈ wsX2_latestEnd := (sbX2_latestEnd_X2_latestEnd_r2 _ (memL 0 rfl))
theorem mwX2_latestEnd_9 : (.code Lib.Math.min.name Lib.Math.min.code 2 (some .int) : Cond) ∈ wsX2_latestEnd := (sbX2_latestEnd_X2_latestEnd_r1 _ (memL 23 rfl))
theorem mwX2_latestEnd_10 : (.initialized "java/lang/Math" : Cond) ∈ wsX2_latestEnd := (sbX2_latestEnd_X2_latestEnd_r1 _ (memL 8 rfl))
theorem mwX2_latestEnd_11 : (.static Lib.Math.min.name : Cond) ∈ wsX2_latestEnd := (sbX2_latestEnd_X2_latestEnd_r1 _ (memL 22 rfl))
theorem mwX2_latestEnd_12 : (.methodLink RX2 133 Lib.Math.min.name : Cond) ∈ wsX2_latestEnd := (sbX2_latestEnd_X2_latestEnd_r1 _ (memL 21 rfl))
theorem mwX2_latestEnd_13 : (.constant RX2 132 (-1000000) : Cond) ∈ wsX2_latestEnd := (sbX2_latestEnd_X2_latestEnd_r1 _ (memL 2 rfl))
set_option maxRecDepth 20000 in
theorem sbX2_latestEnd_X20 : SubW wsX20 wsX2_latestEnd := fun _ h => (List.mem_cons_of_mem _ (List.mem_append_right _ h))
set_option maxRecDepth 20000 in
theorem sbX2_latestEnd_X2_beginUpTo : SubW wsX2_beginUpTo wsX2_latestEnd := (subW_cons mwX2_latestEnd_7 (subW_app (subW_cons mwX2_latestEnd_13 (subW_cons mwX2_latestEnd_12 (subW_cons mwX2_latestEnd_11 (subW_cons mwX2_latestEnd_10 (subW_cons mwX2_latestEnd_9 (subW_cons mwX2_latestEnd_8 subW_nil)))))) sbX2_latestEnd_X20))
theorem ggX2_latestEnd_X2_beginUpTo : GoodIn wsX2_latestEnd wsX2_beginUpTo := goodIn_W gw_wsX2_latestEnd sbX2_latestEnd_X2_beginUpTo
theorem mwX2_latestEnd_14 : (.selects RX2 yX2_beginUpTo yX2_beginUpTo : Cond) ∈ wsX2_latestEnd := (sbX2_latestEnd_X2_latestEnd_r1 _ (memL 19 rfl))
theorem mwX2_latestEnd_15 : (.instanceMethod yX2_beginUpTo : Cond) ∈ wsX2_latestEnd := (sbX2_latestEnd_X2_latestEnd_r1 _ (memL 18 rfl))
theorem mwX2_latestEnd_16 : (.methodLink RX2 168 yX2_beginUpTo : Cond) ∈ wsX2_latestEnd := (sbX2_latestEnd_X2_latestEnd_r1 _ (memL 17 rfl))
theorem gX2_latestEnd_X2_beginUpTo : GoodIn wsX2_latestEnd (wsV RX2 168 RX2 yX2_beginUpTo wsX2_beginUpTo) := goodIn_W gw_wsX2_latestEnd (subW_app (subW_cons mwX2_latestEnd_16 (subW_cons mwX2_latestEnd_15 (subW_cons mwX2_latestEnd_14 (subW_cons mwX2_latestEnd_1 subW_nil)))) sbX2_latestEnd_X2_beginUpTo)
theorem dX2_latestEnd_0 : decode cX2_latestEnd 0 = .ok (.iload_n 1, 1) := by decide +kernel
theorem dX2_latestEnd_1 : decode cX2_latestEnd 1 = .ok (.ifCond .ne 21, 3) := by decide +kernel
theorem dX2_latestEnd_4 : decode cX2_latestEnd 4 = .ok (.aload_n 0, 1) := by decide +kernel
theorem dX2_latestEnd_5 : decode cX2_latestEnd 5 = .ok (.getfield 162, 3) := by decide +kernel
theorem dX2_latestEnd_8 : decode cX2_latestEnd 8 = .ok (.aload_n 0, 1) := by decide +kernel
theorem dX2_latestEnd_9 : decode cX2_latestEnd 9 = .ok (.getfield 24, 3) := by decide +kernel
theorem dX2_latestEnd_12 : decode cX2_latestEnd 12 = .ok (.iload_n 2, 1) := by decide +kernel
theorem dX2_latestEnd_13 : decode cX2_latestEnd 13 = .ok (.bipush 11, 2) := by decide +kernel
theorem dX2_latestEnd_15 : decode cX2_latestEnd 15 = .ok (.imul, 1) := by decide +kernel
theorem dX2_latestEnd_16 : decode cX2_latestEnd 16 = .ok (.bipush 10, 2) := by decide +kernel
theorem dX2_latestEnd_18 : decode cX2_latestEnd 18 = .ok (.iadd, 1) := by decide +kernel
theorem dX2_latestEnd_19 : decode cX2_latestEnd 19 = .ok (.iaload, 1) := by decide +kernel
theorem dX2_latestEnd_20 : decode cX2_latestEnd 20 = .ok (.isub, 1) := by decide +kernel
theorem dX2_latestEnd_21 : decode cX2_latestEnd 21 = .ok (.ireturn, 1) := by decide +kernel
theorem dX2_latestEnd_22 : decode cX2_latestEnd 22 = .ok (.ldc 132, 2) := by decide +kernel
theorem dX2_latestEnd_24 : decode cX2_latestEnd 24 = .ok (.istore_n 3, 1) := by decide +kernel
theorem dX2_latestEnd_25 : decode cX2_latestEnd 25 = .ok (.iconst 0, 1) := by decide +kernel
theorem dX2_latestEnd_26 : decode cX2_latestEnd 26 = .ok (.istore 4, 2) := by decide +kernel
theorem dX2_latestEnd_28 : decode cX2_latestEnd 28 = .ok (.iload 4, 2) := by decide +kernel
theorem dX2_latestEnd_30 : decode cX2_latestEnd 30 = .ok (.aload_n 0, 1) := by decide +kernel
theorem dX2_latestEnd_31 : decode cX2_latestEnd 31 = .ok (.getfield 76, 3) := by decide +kernel
theorem dX2_latestEnd_34 : decode cX2_latestEnd 34 = .ok (.if_icmp .ge 71, 3) := by decide +kernel
theorem dX2_latestEnd_37 : decode cX2_latestEnd 37 = .ok (.iload 4, 2) := by decide +kernel
theorem dX2_latestEnd_39 : decode cX2_latestEnd 39 = .ok (.iload_n 1, 1) := by decide +kernel
theorem dX2_latestEnd_40 : decode cX2_latestEnd 40 = .ok (.invokestatic 128, 3) := by decide +kernel
theorem dX2_latestEnd_43 : decode cX2_latestEnd 43 = .ok (.ifCond .eq 56, 3) := by decide +kernel
theorem dX2_latestEnd_46 : decode cX2_latestEnd 46 = .ok (.aload_n 0, 1) := by decide +kernel
theorem dX2_latestEnd_47 : decode cX2_latestEnd 47 = .ok (.iload 4, 2) := by decide +kernel
theorem dX2_latestEnd_49 : decode cX2_latestEnd 49 = .ok (.aload_n 0, 1) := by decide +kernel
theorem dX2_latestEnd_50 : decode cX2_latestEnd 50 = .ok (.getfield 33, 3) := by decide +kernel
theorem dX2_latestEnd_53 : decode cX2_latestEnd 53 = .ok (.iload 4, 2) := by decide +kernel
theorem dX2_latestEnd_55 : decode cX2_latestEnd 55 = .ok (.iload_n 1, 1) := by decide +kernel
theorem dX2_latestEnd_56 : decode cX2_latestEnd 56 = .ok (.invokestatic 153, 3) := by decide +kernel
theorem dX2_latestEnd_59 : decode cX2_latestEnd 59 = .ok (.bipush 10, 2) := by decide +kernel
theorem dX2_latestEnd_61 : decode cX2_latestEnd 61 = .ok (.imul, 1) := by decide +kernel
theorem dX2_latestEnd_62 : decode cX2_latestEnd 62 = .ok (.iload 4, 2) := by decide +kernel
theorem dX2_latestEnd_64 : decode cX2_latestEnd 64 = .ok (.iadd, 1) := by decide +kernel
theorem dX2_latestEnd_65 : decode cX2_latestEnd 65 = .ok (.iaload, 1) := by decide +kernel
theorem dX2_latestEnd_66 : decode cX2_latestEnd 66 = .ok (.aload_n 0, 1) := by decide +kernel
theorem dX2_latestEnd_67 : decode cX2_latestEnd 67 = .ok (.getfield 15, 3) := by decide +kernel
theorem dX2_latestEnd_70 : decode cX2_latestEnd 70 = .ok (.iload 4, 2) := by decide +kernel
theorem dX2_latestEnd_72 : decode cX2_latestEnd 72 = .ok (.iaload, 1) := by decide +kernel
theorem dX2_latestEnd_73 : decode cX2_latestEnd 73 = .ok (.isub, 1) := by decide +kernel
theorem dX2_latestEnd_74 : decode cX2_latestEnd 74 = .ok (.invokevirtual 168, 3) := by decide +kernel
theorem dX2_latestEnd_77 : decode cX2_latestEnd 77 = .ok (.istore 5, 2) := by decide +kernel
theorem dX2_latestEnd_79 : decode cX2_latestEnd 79 = .ok (.iload_n 3, 1) := by decide +kernel
theorem dX2_latestEnd_80 : decode cX2_latestEnd 80 = .ok (.iload 5, 2) := by decide +kernel
theorem dX2_latestEnd_82 : decode cX2_latestEnd 82 = .ok (.aload_n 0, 1) := by decide +kernel
theorem dX2_latestEnd_83 : decode cX2_latestEnd 83 = .ok (.getfield 24, 3) := by decide +kernel
theorem dX2_latestEnd_86 : decode cX2_latestEnd 86 = .ok (.iload_n 2, 1) := by decide +kernel
theorem dX2_latestEnd_87 : decode cX2_latestEnd 87 = .ok (.bipush 11, 2) := by decide +kernel
theorem dX2_latestEnd_89 : decode cX2_latestEnd 89 = .ok (.imul, 1) := by decide +kernel
theorem dX2_latestEnd_90 : decode cX2_latestEnd 90 = .ok (.iload 4, 2) := by decide +kernel
theorem dX2_latestEnd_92 : decode cX2_latestEnd 92 = .ok (.iadd, 1) := by decide +kernel
theorem dX2_latestEnd_93 : decode cX2_latestEnd 93 = .ok (.iaload, 1) := by decide +kernel
theorem dX2_latestEnd_94 : decode cX2_latestEnd 94 = .ok (.isub, 1) := by decide +kernel
theorem dX2_latestEnd_95 : decode cX2_latestEnd 95 = .ok (.invokestatic 121, 3) := by decide +kernel
theorem dX2_latestEnd_98 : decode cX2_latestEnd 98 = .ok (.istore_n 3, 1) := by decide +kernel
theorem dX2_latestEnd_99 : decode cX2_latestEnd 99 = .ok (.iinc 4 1, 3) := by decide +kernel
theorem dX2_latestEnd_102 : decode cX2_latestEnd 102 = .ok (.goto (-74), 3) := by decide +kernel
theorem dX2_latestEnd_105 : decode cX2_latestEnd 105 = .ok (.iload_n 3, 1) := by decide +kernel
theorem dX2_latestEnd_106 : decode cX2_latestEnd 106 = .ok (.ireturn, 1) := by decide +kernel
theorem sbX2_chooseOrder_X2_chooseOrder_r1 : SubW wsX2_chooseOrder_r1 wsX2_chooseOrder := fun _ h => (List.mem_cons_of_mem _ (List.mem_append_left _ (List.mem_append_left _ (List.mem_append_left _ h))))
theorem sbX2_chooseOrder_X2_chooseOrder_r2 : SubW wsX2_chooseOrder_r2 wsX2_chooseOrder := fun _ h => (List.mem_cons_of_mem _ (List.mem_append_left _ (List.mem_append_left _ (List.mem_append_right _ h))))
theorem mwX2_chooseOrder_0 : (.code yX2_sumOver cX2_sumOver 5 (some .int) : Cond) ∈ wsX2_chooseOrder := (sbX2_chooseOrder_X2_chooseOrder_r1 _ (memL 16 rfl))
theorem mwX2_chooseOrder_1 : (.code yX2_isIn cX2_isIn 2 (some .boolean) : Cond) ∈ wsX2_chooseOrder := (sbX2_chooseOrder_X2_chooseOrder_r1 _ (memL 19 rfl))
theorem mwX2_chooseOrder_2 : (.initialized RX2 : Cond) ∈ wsX2_chooseOrder := (sbX2_chooseOrder_X2_chooseOrder_r1 _ (memL 15 rfl))
theorem mwX2_chooseOrder_3 : (.static yX2_isIn : Cond) ∈ wsX2_chooseOrder := (sbX2_chooseOrder_X2_chooseOrder_r1 _ (memL 18 rfl))
theorem mwX2_chooseOrder_4 : (.methodLink RX2 128 yX2_isIn : Cond) ∈ wsX2_chooseOrder := (sbX2_chooseOrder_X2_chooseOrder_r1 _ (memL 17 rfl))
theorem mwX2_chooseOrder_5 : (.fieldLink RX2 76 "BuoyTender$Planner" "count" "I" : Cond) ∈ wsX2_chooseOrder := (sbX2_chooseOrder_X2_chooseOrder_r1 _ (memL 1 rfl))
set_option maxRecDepth 20000 in
theorem sbX2_chooseOrder_X20 : SubW wsX20 wsX2_chooseOrder := fun _ h => (List.mem_cons_of_mem _ (List.mem_append_left _ (List.mem_append_right _ h)))
set_option maxRecDepth 20000 in
theorem sbX2_chooseOrder_X2_sumOver : SubW wsX2_sumOver wsX2_chooseOrder := (subW_cons mwX2_chooseOrder_0 (subW_app (subW_cons mwX2_chooseOrder_5 (subW_cons mwX2_chooseOrder_4 (subW_cons mwX2_chooseOrder_3 (subW_cons mwX2_chooseOrder_2 (subW_cons mwX2_chooseOrder_1 subW_nil))))) sbX2_chooseOrder_X20))
set_option maxRecDepth 20000 in
theorem gw_wsX2_chooseOrder_r1 : goodW wsX2_chooseOrder_r1 := (goodW_of (by decide +kernel))
set_option maxRecDepth 20000 in
theorem gw_wsX2_chooseOrder_r2 : goodW wsX2_chooseOrder_r2 := (goodW_of (by decide +kernel))
set_option maxRecDepth 20000 in
theorem gw_wsX2_chooseOrder : goodW wsX2_chooseOrder := (goodW_cons rfl (goodW_app (goodW_app (goodW_app gw_wsX2_chooseOrder_r1 gw_wsX2_chooseOrder_r2) gw_wsX20) gw_wsX40))
theorem ggX2_chooseOrder_X2_sumOver : GoodIn wsX2_chooseOrder wsX2_sumOver := goodIn_W gw_wsX2_chooseOrder sbX2_chooseOrder_X2_sumOver
theorem mwX2_chooseOrder_6 : (.selects RX2 yX2_sumOver yX2_sumOver : Cond) ∈ wsX2_chooseOrder := (sbX2_chooseOrder_X2_chooseOrder_r1 _ (memL 14 rfl))
theorem mwX2_chooseOrder_7 : (.instanceMethod yX2_sumOver : Cond) ∈ wsX2_chooseOrder := (sbX2_chooseOrder_X2_chooseOrder_r1 _ (memL 13 rfl))
theorem mwX2_chooseOrder_8 : (.methodLink RX2 139 yX2_sumOver : Cond) ∈ wsX2_chooseOrder := (sbX2_chooseOrder_X2_chooseOrder_r1 _ (memL 12 rfl))
theorem gX2_chooseOrder_X2_sumOver : GoodIn wsX2_chooseOrder (wsV RX2 139 RX2 yX2_sumOver wsX2_sumOver) := goodIn_W gw_wsX2_chooseOrder (subW_app (subW_cons mwX2_chooseOrder_8 (subW_cons mwX2_chooseOrder_7 (subW_cons mwX2_chooseOrder_6 (subW_cons mwX2_chooseOrder_2 subW_nil)))) sbX2_chooseOrder_X2_sumOver)
theorem mwX2_chooseOrder_9 : (.code yX2_tryFirstOrder cX2_tryFirstOrder 9 (some .int) : Cond) ∈ wsX2_chooseOrder := (sbX2_chooseOrder_X2_chooseOrder_r1 _ (memL 23 rfl))
theorem mwX2_chooseOrder_10 : (.code yX2_without cX2_without 2 (some .int) : Cond) ∈ wsX2_chooseOrder := (sbX2_chooseOrder_X2_chooseOrder_r2 _ (memL 15 rfl))
theorem mwX2_chooseOrder_11 : (.static yX2_without : Cond) ∈ wsX2_chooseOrder := (sbX2_chooseOrder_X2_chooseOrder_r2 _ (memL 14 rfl))
theorem mwX2_chooseOrder_12 : (.methodLink RX2 153 yX2_without : Cond) ∈ wsX2_chooseOrder := (sbX2_chooseOrder_X2_chooseOrder_r2 _ (memL 13 rfl))
theorem mwX2_chooseOrder_13 : (.fieldLink RX2 27 "BuoyTender$Planner" "opensIn" "[I" : Cond) ∈ wsX2_chooseOrder := (sbX2_chooseOrder_X2_chooseOrder_r2 _ (memL 12 rfl))
theorem mwX2_chooseOrder_14 : (.constant RX2 131 (1000000) : Cond) ∈ wsX2_chooseOrder := (sbX2_chooseOrder_X2_chooseOrder_r2 _ (memL 11 rfl))
theorem mwX2_chooseOrder_15 : (.code yX2_beginFrom cX2_beginFrom 5 (some .int) : Cond) ∈ wsX2_chooseOrder := (sbX2_chooseOrder_X2_chooseOrder_r2 _ (memL 10 rfl))
theorem mwX2_chooseOrder_16 : (.selects RX2 yX2_beginFrom yX2_beginFrom : Cond) ∈ wsX2_chooseOrder := (sbX2_chooseOrder_X2_chooseOrder_r2 _ (memL 9 rfl))
theorem mwX2_chooseOrder_17 : (.instanceMethod yX2_beginFrom : Cond) ∈ wsX2_chooseOrder := (sbX2_chooseOrder_X2_chooseOrder_r2 _ (memL 8 rfl))
theorem mwX2_chooseOrder_18 : (.methodLink RX2 156 yX2_beginFrom : Cond) ∈ wsX2_chooseOrder := (sbX2_chooseOrder_X2_chooseOrder_r2 _ (memL 7 rfl))
theorem mwX2_chooseOrder_19 : (.fieldLink RX2 33 "BuoyTender$Planner" "ends" "[I" : Cond) ∈ wsX2_chooseOrder := (sbX2_chooseOrder_X2_chooseOrder_r2 _ (memL 6 rfl))
theorem mwX2_chooseOrder_20 : (.code yX2_lowestNext cX2_lowestNext 6 (some .int) : Cond) ∈ wsX2_chooseOrder := (sbX2_chooseOrder_X2_chooseOrder_r2 _ (memL 5 rfl))
theorem mwX2_chooseOrder_21 : (.selects RX2 yX2_lowestNext yX2_lowestNext : Cond) ∈ wsX2_chooseOrder := (sbX2_chooseOrder_X2_chooseOrder_r2 _ (memL 4 rfl))
theorem mwX2_chooseOrder_22 : (.instanceMethod yX2_lowestNext : Cond) ∈ wsX2_chooseOrder := (sbX2_chooseOrder_X2_chooseOrder_r2 _ (memL 3 rfl))
theorem mwX2_chooseOrder_23 : (.methodLink RX2 185 yX2_lowestNext : Cond) ∈ wsX2_chooseOrder := (sbX2_chooseOrder_X2_chooseOrder_r2 _ (memL 2 rfl))
theorem mwX2_chooseOrder_24 : (.fieldLink RX2 15 "BuoyTender$Planner" "minutes" "[I" : Cond) ∈ wsX2_chooseOrder := (sbX2_chooseOrder_X2_chooseOrder_r2 _ (memL 1 rfl))
theorem mwX2_chooseOrder_25 : (.fieldLink RX2 24 "BuoyTender$Planner" "ways" "[I" : Cond) ∈ wsX2_chooseOrder := (sbX2_chooseOrder_X2_chooseOrder_r2 _ (memL 0 rfl))
theorem mwX2_chooseOrder_26 : (.fieldLink RX2 39 "BuoyTender$Planner" "tried" "[I" : Cond) ∈ wsX2_chooseOrder := (sbX2_chooseOrder_X2_chooseOrder_r1 _ (memL 6 rfl))
set_option maxRecDepth 20000 in
theorem sbX2_chooseOrder_X40 : SubW wsX40 wsX2_chooseOrder := fun _ h => (List.mem_cons_of_mem _ (List.mem_append_right _ h))
set_option maxRecDepth 20000 in
theorem sbX2_chooseOrder_X2_tryFirstOrder : SubW wsX2_tryFirstOrder wsX2_chooseOrder := (subW_cons mwX2_chooseOrder_9 (subW_app (subW_app (subW_cons mwX2_chooseOrder_5 (subW_cons mwX2_chooseOrder_26 (subW_cons mwX2_chooseOrder_25 (subW_cons mwX2_chooseOrder_24 (subW_cons mwX2_chooseOrder_23 (subW_cons mwX2_chooseOrder_22 (subW_cons mwX2_chooseOrder_21 (subW_cons mwX2_chooseOrder_2 (subW_cons mwX2_chooseOrder_20 (subW_cons mwX2_chooseOrder_19 (subW_cons mwX2_chooseOrder_4 (subW_cons mwX2_chooseOrder_3 (subW_cons mwX2_chooseOrder_1 (subW_cons mwX2_chooseOrder_18 (subW_cons mwX2_chooseOrder_17 (subW_cons mwX2_chooseOrder_16 (subW_cons mwX2_chooseOrder_15 (subW_cons mwX2_chooseOrder_14 (subW_cons mwX2_chooseOrder_13 (subW_cons mwX2_chooseOrder_12 (subW_cons mwX2_chooseOrder_11 (subW_cons mwX2_chooseOrder_10 subW_nil)))))))))))))))))))))) sbX2_chooseOrder_X40) sbX2_chooseOrder_X20))
theorem ggX2_chooseOrder_X2_tryFirstOrder : GoodIn wsX2_chooseOrder wsX2_tryFirstOrder := goodIn_W gw_wsX2_chooseOrder sbX2_chooseOrder_X2_tryFirstOrder
theorem mwX2_chooseOrder_27 : (.selects RX2 yX2_tryFirstOrder yX2_tryFirstOrder : Cond) ∈ wsX2_chooseOrder := (sbX2_chooseOrder_X2_chooseOrder_r1 _ (memL 22 rfl))
theorem mwX2_chooseOrder_28 : (.instanceMethod yX2_tryFirstOrder : Cond) ∈ wsX2_chooseOrder := (sbX2_chooseOrder_X2_chooseOrder_r1 _ (memL 21 rfl))
theorem mwX2_chooseOrder_29 : (.methodLink RX2 171 yX2_tryFirstOrder : Cond) ∈ wsX2_chooseOrder := (sbX2_chooseOrder_X2_chooseOrder_r1 _ (memL 20 rfl))
theorem gX2_chooseOrder_X2_tryFirstOrder : GoodIn wsX2_chooseOrder (wsV RX2 171 RX2 yX2_tryFirstOrder wsX2_tryFirstOrder) := goodIn_W gw_wsX2_chooseOrder (subW_app (subW_cons mwX2_chooseOrder_29 (subW_cons mwX2_chooseOrder_28 (subW_cons mwX2_chooseOrder_27 (subW_cons mwX2_chooseOrder_2 subW_nil)))) sbX2_chooseOrder_X2_tryFirstOrder)
theorem mwX2_chooseOrder_30 : (.code yX2_isTriedFirst cX2_isTriedFirst 3 (some .boolean) : Cond) ∈ wsX2_chooseOrder := (sbX2_chooseOrder_X2_chooseOrder_r2 _ (memL 19 rfl))
theorem mwX2_chooseOrder_31 : (.fieldLink RX2 42 "BuoyTender$Planner" "order" "[I" : Cond) ∈ wsX2_chooseOrder := (sbX2_chooseOrder_X2_chooseOrder_r1 _ (memL 7 rfl))
theorem mwX2_chooseOrder_32 : (.fieldLink RX2 72 "BuoyTender$Planner" "length" "I" : Cond) ∈ wsX2_chooseOrder := (sbX2_chooseOrder_X2_chooseOrder_r1 _ (memL 0 rfl))
set_option maxRecDepth 20000 in
theorem sbX2_chooseOrder_X2_isTriedFirst : SubW wsX2_isTriedFirst wsX2_chooseOrder := (subW_cons mwX2_chooseOrder_30 (subW_app (subW_cons mwX2_chooseOrder_32 (subW_cons mwX2_chooseOrder_26 (subW_cons mwX2_chooseOrder_31 subW_nil))) sbX2_chooseOrder_X20))
theorem ggX2_chooseOrder_X2_isTriedFirst : GoodIn wsX2_chooseOrder wsX2_isTriedFirst := goodIn_W gw_wsX2_chooseOrder sbX2_chooseOrder_X2_isTriedFirst
theorem mwX2_chooseOrder_33 : (.selects RX2 yX2_isTriedFirst yX2_isTriedFirst : Cond) ∈ wsX2_chooseOrder := (sbX2_chooseOrder_X2_chooseOrder_r2 _ (memL 18 rfl))
theorem mwX2_chooseOrder_34 : (.instanceMethod yX2_isTriedFirst : Cond) ∈ wsX2_chooseOrder := (sbX2_chooseOrder_X2_chooseOrder_r2 _ (memL 17 rfl))
theorem mwX2_chooseOrder_35 : (.methodLink RX2 175 yX2_isTriedFirst : Cond) ∈ wsX2_chooseOrder := (sbX2_chooseOrder_X2_chooseOrder_r2 _ (memL 16 rfl))
theorem gX2_chooseOrder_X2_isTriedFirst : GoodIn wsX2_chooseOrder (wsV RX2 175 RX2 yX2_isTriedFirst wsX2_isTriedFirst) := goodIn_W gw_wsX2_chooseOrder (subW_app (subW_cons mwX2_chooseOrder_35 (subW_cons mwX2_chooseOrder_34 (subW_cons mwX2_chooseOrder_33 (subW_cons mwX2_chooseOrder_2 subW_nil)))) sbX2_chooseOrder_X2_isTriedFirst)
theorem dX2_chooseOrder_0 : decode cX2_chooseOrder 0 = .ok (.aload_n 0, 1) := by decide +kernel
theorem dX2_chooseOrder_1 : decode cX2_chooseOrder 1 = .ok (.iconst (-1), 1) := by decide +kernel
theorem dX2_chooseOrder_2 : decode cX2_chooseOrder 2 = .ok (.putfield 72, 3) := by decide +kernel
theorem dX2_chooseOrder_5 : decode cX2_chooseOrder 5 = .ok (.iconst 0, 1) := by decide +kernel
theorem dX2_chooseOrder_6 : decode cX2_chooseOrder 6 = .ok (.istore_n 2, 1) := by decide +kernel
theorem dX2_chooseOrder_7 : decode cX2_chooseOrder 7 = .ok (.iload_n 2, 1) := by decide +kernel
theorem dX2_chooseOrder_8 : decode cX2_chooseOrder 8 = .ok (.iconst 1, 1) := by decide +kernel
theorem dX2_chooseOrder_9 : decode cX2_chooseOrder 9 = .ok (.aload_n 0, 1) := by decide +kernel
theorem dX2_chooseOrder_10 : decode cX2_chooseOrder 10 = .ok (.getfield 76, 3) := by decide +kernel
theorem dX2_chooseOrder_13 : decode cX2_chooseOrder 13 = .ok (.ishl, 1) := by decide +kernel
theorem dX2_chooseOrder_14 : decode cX2_chooseOrder 14 = .ok (.if_icmp .ge 81, 3) := by decide +kernel
theorem dX2_chooseOrder_17 : decode cX2_chooseOrder 17 = .ok (.aload_n 0, 1) := by decide +kernel
theorem dX2_chooseOrder_18 : decode cX2_chooseOrder 18 = .ok (.getfield 36, 3) := by decide +kernel
theorem dX2_chooseOrder_21 : decode cX2_chooseOrder 21 = .ok (.iload_n 2, 1) := by decide +kernel
theorem dX2_chooseOrder_22 : decode cX2_chooseOrder 22 = .ok (.iaload, 1) := by decide +kernel
theorem dX2_chooseOrder_23 : decode cX2_chooseOrder 23 = .ok (.aload_n 0, 1) := by decide +kernel
theorem dX2_chooseOrder_24 : decode cX2_chooseOrder 24 = .ok (.getfield 162, 3) := by decide +kernel
theorem dX2_chooseOrder_27 : decode cX2_chooseOrder 27 = .ok (.if_icmp .ne 62, 3) := by decide +kernel
theorem dX2_chooseOrder_30 : decode cX2_chooseOrder 30 = .ok (.aload_n 0, 1) := by decide +kernel
theorem dX2_chooseOrder_31 : decode cX2_chooseOrder 31 = .ok (.iload_n 2, 1) := by decide +kernel
theorem dX2_chooseOrder_32 : decode cX2_chooseOrder 32 = .ok (.aload_n 0, 1) := by decide +kernel
theorem dX2_chooseOrder_33 : decode cX2_chooseOrder 33 = .ok (.getfield 21, 3) := by decide +kernel
theorem dX2_chooseOrder_36 : decode cX2_chooseOrder 36 = .ok (.invokevirtual 139, 3) := by decide +kernel
theorem dX2_chooseOrder_39 : decode cX2_chooseOrder 39 = .ok (.aload_n 0, 1) := by decide +kernel
theorem dX2_chooseOrder_40 : decode cX2_chooseOrder 40 = .ok (.getfield 159, 3) := by decide +kernel
theorem dX2_chooseOrder_43 : decode cX2_chooseOrder 43 = .ok (.if_icmp .ne 46, 3) := by decide +kernel
theorem dX2_chooseOrder_46 : decode cX2_chooseOrder 46 = .ok (.aload_n 0, 1) := by decide +kernel
theorem dX2_chooseOrder_47 : decode cX2_chooseOrder 47 = .ok (.iload_n 2, 1) := by decide +kernel
theorem dX2_chooseOrder_48 : decode cX2_chooseOrder 48 = .ok (.aload_n 1, 1) := by decide +kernel
theorem dX2_chooseOrder_49 : decode cX2_chooseOrder 49 = .ok (.invokevirtual 171, 3) := by decide +kernel
