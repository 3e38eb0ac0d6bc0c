theorem dX9_rounds_223 : decode cX9_rounds 223 = .ok (.istore_n 2, 1) := by decide +kernel
theorem dX9_rounds_224 : decode cX9_rounds 224 = .ok (.goto (-167), 3) := by decide +kernel
theorem dX9_rounds_227 : decode cX9_rounds 227 = .ok (.return_, 1) := by decide +kernel
set_option maxRecDepth 20000 in
theorem ggX9_round_X9_rounds : GoodIn wsX9_round wsX9_rounds := goodIn_r _ [11, 12, 1, 13, 14, 4, 15, 5, 16, 3, 6, 17, 18, 19, 20, 10, 21, 22, 23, 2, 24, 25, 26, 27, 28, 29, 30, 31, 32, 33, 34, 35, 36, 37, 38, 39, 40, 41, 42, 43, 44, 45, 46, 47, 48, 49, 50, 51, 52, 53, 54, 55, 56, 57, 58, 59, 60, 61, 62, 63, 64, 68, 69, 70, 71, 72, 73, 74, 75, 76, 77, 78, 79, 80, 81, 82, 83, 84, 85, 86, 87, 88, 89, 90, 91, 92, 93, 94, 95, 96, 97, 98, 99, 100, 101, 102, 103, 104, 105, 106, 107, 108, 109, 110, 111, 112, 113] (by decide +kernel) (by decide +kernel)
set_option maxRecDepth 20000 in
theorem gX9_round_X9_rounds : GoodIn wsX9_round (wsV RX9 207 RX9 yX9_rounds wsX9_rounds) := goodIn_app (goodIn_of _ (by decide +kernel)) ggX9_round_X9_rounds
set_option maxRecDepth 20000 in
theorem ggX9_round_X9_in : GoodIn wsX9_round wsX9_in := goodIn_r _ [67] (by decide +kernel) (by decide +kernel)
set_option maxRecDepth 20000 in
theorem gX9_round_X9_in : GoodIn wsX9_round (va_wsS RX9 105 yX9_in wsX9_in) := goodIn_app (goodIn_of _ (by decide +kernel)) ggX9_round_X9_in
theorem dX9_round_0 : decode cX9_round 0 = .ok (.aload_n 0, 1) := by decide +kernel
theorem dX9_round_1 : decode cX9_round 1 = .ok (.invokevirtual 207, 3) := by decide +kernel
theorem dX9_round_4 : decode cX9_round 4 = .ok (.iconst 0, 1) := by decide +kernel
theorem dX9_round_5 : decode cX9_round 5 = .ok (.istore_n 2, 1) := by decide +kernel
theorem dX9_round_6 : decode cX9_round 6 = .ok (.iconst 0, 1) := by decide +kernel
theorem dX9_round_7 : decode cX9_round 7 = .ok (.istore_n 3, 1) := by decide +kernel
theorem dX9_round_8 : decode cX9_round 8 = .ok (.iload_n 3, 1) := by decide +kernel
theorem dX9_round_9 : decode cX9_round 9 = .ok (.aload_n 0, 1) := by decide +kernel
theorem dX9_round_10 : decode cX9_round 10 = .ok (.getfield 195, 3) := by decide +kernel
theorem dX9_round_13 : decode cX9_round 13 = .ok (.if_icmp .ge 23, 3) := by decide +kernel
theorem dX9_round_16 : decode cX9_round 16 = .ok (.iload_n 2, 1) := by decide +kernel
theorem dX9_round_17 : decode cX9_round 17 = .ok (.aload_n 0, 1) := by decide +kernel
theorem dX9_round_18 : decode cX9_round 18 = .ok (.getfield 65, 3) := by decide +kernel
theorem dX9_round_21 : decode cX9_round 21 = .ok (.aload_n 0, 1) := by decide +kernel
theorem dX9_round_22 : decode cX9_round 22 = .ok (.getfield 93, 3) := by decide +kernel
theorem dX9_round_25 : decode cX9_round 25 = .ok (.iload_n 3, 1) := by decide +kernel
theorem dX9_round_26 : decode cX9_round 26 = .ok (.iaload, 1) := by decide +kernel
theorem dX9_round_27 : decode cX9_round 27 = .ok (.iaload, 1) := by decide +kernel
theorem dX9_round_28 : decode cX9_round 28 = .ok (.iadd, 1) := by decide +kernel
theorem dX9_round_29 : decode cX9_round 29 = .ok (.istore_n 2, 1) := by decide +kernel
theorem dX9_round_30 : decode cX9_round 30 = .ok (.iinc 3 1, 3) := by decide +kernel
theorem dX9_round_33 : decode cX9_round 33 = .ok (.goto (-25), 3) := by decide +kernel
theorem dX9_round_36 : decode cX9_round 36 = .ok (.iload_n 1, 1) := by decide +kernel
theorem dX9_round_37 : decode cX9_round 37 = .ok (.tableswitch 48 0 3 #[31, 36, 41, 46], 31) := by decide +kernel
theorem dX9_round_68 : decode cX9_round 68 = .ok (.aload_n 0, 1) := by decide +kernel
theorem dX9_round_69 : decode cX9_round 69 = .ok (.getfield 201, 3) := by decide +kernel
theorem dX9_round_72 : decode cX9_round 72 = .ok (.ireturn, 1) := by decide +kernel
theorem dX9_round_73 : decode cX9_round 73 = .ok (.aload_n 0, 1) := by decide +kernel
theorem dX9_round_74 : decode cX9_round 74 = .ok (.getfield 204, 3) := by decide +kernel
theorem dX9_round_77 : decode cX9_round 77 = .ok (.ireturn, 1) := by decide +kernel
theorem dX9_round_78 : decode cX9_round 78 = .ok (.aload_n 0, 1) := by decide +kernel
theorem dX9_round_79 : decode cX9_round 79 = .ok (.getfield 195, 3) := by decide +kernel
theorem dX9_round_82 : decode cX9_round 82 = .ok (.ireturn, 1) := by decide +kernel
theorem dX9_round_83 : decode cX9_round 83 = .ok (.iload_n 2, 1) := by decide +kernel
theorem dX9_round_84 : decode cX9_round 84 = .ok (.ireturn, 1) := by decide +kernel
theorem dX9_round_85 : decode cX9_round 85 = .ok (.iload_n 1, 1) := by decide +kernel
theorem dX9_round_86 : decode cX9_round 86 = .ok (.bipush 100, 2) := by decide +kernel
theorem dX9_round_88 : decode cX9_round 88 = .ok (.bipush 99, 2) := by decide +kernel
theorem dX9_round_90 : decode cX9_round 90 = .ok (.aload_n 0, 1) := by decide +kernel
theorem dX9_round_91 : decode cX9_round 91 = .ok (.getfield 195, 3) := by decide +kernel
theorem dX9_round_94 : decode cX9_round 94 = .ok (.iadd, 1) := by decide +kernel
theorem dX9_round_95 : decode cX9_round 95 = .ok (.invokestatic 105, 3) := by decide +kernel
theorem dX9_round_98 : decode cX9_round 98 = .ok (.ifCond .eq 15, 3) := by decide +kernel
theorem dX9_round_101 : decode cX9_round 101 = .ok (.aload_n 0, 1) := by decide +kernel
theorem dX9_round_102 : decode cX9_round 102 = .ok (.getfield 93, 3) := by decide +kernel
theorem dX9_round_105 : decode cX9_round 105 = .ok (.iload_n 1, 1) := by decide +kernel
theorem dX9_round_106 : decode cX9_round 106 = .ok (.bipush 100, 2) := by decide +kernel
theorem dX9_round_108 : decode cX9_round 108 = .ok (.isub, 1) := by decide +kernel
theorem dX9_round_109 : decode cX9_round 109 = .ok (.iaload, 1) := by decide +kernel
theorem dX9_round_110 : decode cX9_round 110 = .ok (.goto 35, 3) := by decide +kernel
theorem dX9_round_113 : decode cX9_round 113 = .ok (.iload_n 1, 1) := by decide +kernel
theorem dX9_round_114 : decode cX9_round 114 = .ok (.sipush 200, 3) := by decide +kernel
theorem dX9_round_117 : decode cX9_round 117 = .ok (.sipush 199, 3) := by decide +kernel
theorem dX9_round_120 : decode cX9_round 120 = .ok (.aload_n 0, 1) := by decide +kernel
theorem dX9_round_121 : decode cX9_round 121 = .ok (.getfield 195, 3) := by decide +kernel
theorem dX9_round_124 : decode cX9_round 124 = .ok (.iadd, 1) := by decide +kernel
theorem dX9_round_125 : decode cX9_round 125 = .ok (.invokestatic 105, 3) := by decide +kernel
theorem dX9_round_128 : decode cX9_round 128 = .ok (.ifCond .eq 16, 3) := by decide +kernel
theorem dX9_round_131 : decode cX9_round 131 = .ok (.aload_n 0, 1) := by decide +kernel
theorem dX9_round_132 : decode cX9_round 132 = .ok (.getfield 96, 3) := by decide +kernel
theorem dX9_round_135 : decode cX9_round 135 = .ok (.iload_n 1, 1) := by decide +kernel
theorem dX9_round_136 : decode cX9_round 136 = .ok (.sipush 200, 3) := by decide +kernel
theorem dX9_round_139 : decode cX9_round 139 = .ok (.isub, 1) := by decide +kernel
theorem dX9_round_140 : decode cX9_round 140 = .ok (.iaload, 1) := by decide +kernel
theorem dX9_round_141 : decode cX9_round 141 = .ok (.goto 4, 3) := by decide +kernel
theorem dX9_round_144 : decode cX9_round 144 = .ok (.iconst (-1), 1) := by decide +kernel
theorem dX9_round_145 : decode cX9_round 145 = .ok (.ireturn, 1) := by decide +kernel
theorem dX9_about_0 : decode cX9_about 0 = .ok (.iconst 0, 1) := by decide +kernel
theorem dX9_about_1 : decode cX9_about 1 = .ok (.istore_n 2, 1) := by decide +kernel
theorem dX9_about_2 : decode cX9_about 2 = .ok (.iconst 0, 1) := by decide +kernel
theorem dX9_about_3 : decode cX9_about 3 = .ok (.istore_n 3, 1) := by decide +kernel
theorem dX9_about_4 : decode cX9_about 4 = .ok (.iload_n 3, 1) := by decide +kernel
theorem dX9_about_5 : decode cX9_about 5 = .ok (.aload_n 0, 1) := by decide +kernel
theorem dX9_about_6 : decode cX9_about 6 = .ok (.getfield 109, 3) := by decide +kernel
theorem dX9_about_9 : decode cX9_about 9 = .ok (.if_icmp .ge 26, 3) := by decide +kernel
theorem dX9_about_12 : decode cX9_about 12 = .ok (.iload_n 2, 1) := by decide +kernel
theorem dX9_about_13 : decode cX9_about 13 = .ok (.aload_n 0, 1) := by decide +kernel
theorem dX9_about_14 : decode cX9_about 14 = .ok (.getfield 68, 3) := by decide +kernel
theorem dX9_about_17 : decode cX9_about 17 = .ok (.iload_n 3, 1) := by decide +kernel
theorem dX9_about_18 : decode cX9_about 18 = .ok (.iaload, 1) := by decide +kernel
theorem dX9_about_19 : decode cX9_about 19 = .ok (.ifCond .le 7, 3) := by decide +kernel
theorem dX9_about_22 : decode cX9_about 22 = .ok (.iconst 1, 1) := by decide +kernel
theorem dX9_about_23 : decode cX9_about 23 = .ok (.goto 4, 3) := by decide +kernel
theorem dX9_about_26 : decode cX9_about 26 = .ok (.iconst 0, 1) := by decide +kernel
theorem dX9_about_27 : decode cX9_about 27 = .ok (.iadd, 1) := by decide +kernel
theorem dX9_about_28 : decode cX9_about 28 = .ok (.istore_n 2, 1) := by decide +kernel
theorem dX9_about_29 : decode cX9_about 29 = .ok (.iinc 3 1, 3) := by decide +kernel
theorem dX9_about_32 : decode cX9_about 32 = .ok (.goto (-28), 3) := by decide +kernel
theorem dX9_about_35 : decode cX9_about 35 = .ok (.iload_n 1, 1) := by decide +kernel
theorem dX9_about_36 : decode cX9_about 36 = .ok (.tableswitch 67 0 5 #[40, 45, 50, 55, 60, 62], 40) := by decide +kernel
theorem dX9_about_76 : decode cX9_about 76 = .ok (.aload_n 0, 1) := by decide +kernel
theorem dX9_about_77 : decode cX9_about 77 = .ok (.getfield 109, 3) := by decide +kernel
theorem dX9_about_80 : decode cX9_about 80 = .ok (.ireturn, 1) := by decide +kernel
theorem dX9_about_81 : decode cX9_about 81 = .ok (.aload_n 0, 1) := by decide +kernel
theorem dX9_about_82 : decode cX9_about 82 = .ok (.getfield 131, 3) := by decide +kernel
theorem dX9_about_85 : decode cX9_about 85 = .ok (.ireturn, 1) := by decide +kernel
theorem dX9_about_86 : decode cX9_about 86 = .ok (.aload_n 0, 1) := by decide +kernel
theorem dX9_about_87 : decode cX9_about 87 = .ok (.getfield 146, 3) := by decide +kernel
theorem dX9_about_90 : decode cX9_about 90 = .ok (.ireturn, 1) := by decide +kernel
theorem dX9_about_91 : decode cX9_about 91 = .ok (.aload_n 0, 1) := by decide +kernel
theorem dX9_about_92 : decode cX9_about 92 = .ok (.getfield 140, 3) := by decide +kernel
theorem dX9_about_95 : decode cX9_about 95 = .ok (.ireturn, 1) := by decide +kernel
theorem dX9_about_96 : decode cX9_about 96 = .ok (.iload_n 2, 1) := by decide +kernel
theorem dX9_about_97 : decode cX9_about 97 = .ok (.ireturn, 1) := by decide +kernel
theorem dX9_about_98 : decode cX9_about 98 = .ok (.aload_n 0, 1) := by decide +kernel
theorem dX9_about_99 : decode cX9_about 99 = .ok (.getfield 84, 3) := by decide +kernel
theorem dX9_about_102 : decode cX9_about 102 = .ok (.ireturn, 1) := by decide +kernel
theorem dX9_about_103 : decode cX9_about 103 = .ok (.iconst (-1), 1) := by decide +kernel
theorem dX9_about_104 : decode cX9_about 104 = .ok (.ireturn, 1) := by decide +kernel
