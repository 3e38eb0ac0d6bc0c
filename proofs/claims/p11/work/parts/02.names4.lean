theorem dX9_init_106 : decode cX9_init 106 = .ok (.aload_n 0, 1) := by decide +kernel
theorem dX9_init_107 : decode cX9_init 107 = .ok (.bipush 10, 2) := by decide +kernel
theorem dX9_init_109 : decode cX9_init 109 = .ok (.newarray .int, 2) := by decide +kernel
theorem dX9_init_111 : decode cX9_init 111 = .ok (.putfield 32, 3) := by decide +kernel
theorem dX9_init_114 : decode cX9_init 114 = .ok (.aload_n 0, 1) := by decide +kernel
theorem dX9_init_115 : decode cX9_init 115 = .ok (.bipush 10, 2) := by decide +kernel
theorem dX9_init_117 : decode cX9_init 117 = .ok (.newarray .int, 2) := by decide +kernel
theorem dX9_init_119 : decode cX9_init 119 = .ok (.putfield 35, 3) := by decide +kernel
theorem dX9_init_122 : decode cX9_init 122 = .ok (.aload_n 0, 1) := by decide +kernel
theorem dX9_init_123 : decode cX9_init 123 = .ok (.bipush 10, 2) := by decide +kernel
theorem dX9_init_125 : decode cX9_init 125 = .ok (.newarray .int, 2) := by decide +kernel
theorem dX9_init_127 : decode cX9_init 127 = .ok (.putfield 38, 3) := by decide +kernel
theorem dX9_init_130 : decode cX9_init 130 = .ok (.aload_n 0, 1) := by decide +kernel
theorem dX9_init_131 : decode cX9_init 131 = .ok (.bipush 48, 2) := by decide +kernel
theorem dX9_init_133 : decode cX9_init 133 = .ok (.newarray .int, 2) := by decide +kernel
theorem dX9_init_135 : decode cX9_init 135 = .ok (.putfield 41, 3) := by decide +kernel
theorem dX9_init_138 : decode cX9_init 138 = .ok (.aload_n 0, 1) := by decide +kernel
theorem dX9_init_139 : decode cX9_init 139 = .ok (.bipush 10, 2) := by decide +kernel
theorem dX9_init_141 : decode cX9_init 141 = .ok (.newarray .int, 2) := by decide +kernel
theorem dX9_init_143 : decode cX9_init 143 = .ok (.putfield 44, 3) := by decide +kernel
theorem dX9_init_146 : decode cX9_init 146 = .ok (.aload_n 0, 1) := by decide +kernel
theorem dX9_init_147 : decode cX9_init 147 = .ok (.bipush 80, 2) := by decide +kernel
theorem dX9_init_149 : decode cX9_init 149 = .ok (.newarray .int, 2) := by decide +kernel
theorem dX9_init_151 : decode cX9_init 151 = .ok (.putfield 47, 3) := by decide +kernel
theorem dX9_init_154 : decode cX9_init 154 = .ok (.aload_n 0, 1) := by decide +kernel
theorem dX9_init_155 : decode cX9_init 155 = .ok (.bipush 100, 2) := by decide +kernel
theorem dX9_init_157 : decode cX9_init 157 = .ok (.newarray .int, 2) := by decide +kernel
theorem dX9_init_159 : decode cX9_init 159 = .ok (.putfield 50, 3) := by decide +kernel
theorem dX9_init_162 : decode cX9_init 162 = .ok (.aload_n 0, 1) := by decide +kernel
theorem dX9_init_163 : decode cX9_init 163 = .ok (.bipush 100, 2) := by decide +kernel
theorem dX9_init_165 : decode cX9_init 165 = .ok (.newarray .int, 2) := by decide +kernel
theorem dX9_init_167 : decode cX9_init 167 = .ok (.putfield 53, 3) := by decide +kernel
theorem dX9_init_170 : decode cX9_init 170 = .ok (.aload_n 0, 1) := by decide +kernel
theorem dX9_init_171 : decode cX9_init 171 = .ok (.bipush 100, 2) := by decide +kernel
theorem dX9_init_173 : decode cX9_init 173 = .ok (.newarray .int, 2) := by decide +kernel
theorem dX9_init_175 : decode cX9_init 175 = .ok (.putfield 56, 3) := by decide +kernel
theorem dX9_init_178 : decode cX9_init 178 = .ok (.aload_n 0, 1) := by decide +kernel
theorem dX9_init_179 : decode cX9_init 179 = .ok (.bipush 100, 2) := by decide +kernel
theorem dX9_init_181 : decode cX9_init 181 = .ok (.newarray .int, 2) := by decide +kernel
theorem dX9_init_183 : decode cX9_init 183 = .ok (.putfield 59, 3) := by decide +kernel
theorem dX9_init_186 : decode cX9_init 186 = .ok (.aload_n 0, 1) := by decide +kernel
theorem dX9_init_187 : decode cX9_init 187 = .ok (.bipush 10, 2) := by decide +kernel
theorem dX9_init_189 : decode cX9_init 189 = .ok (.newarray .int, 2) := by decide +kernel
theorem dX9_init_191 : decode cX9_init 191 = .ok (.putfield 62, 3) := by decide +kernel
theorem dX9_init_194 : decode cX9_init 194 = .ok (.aload_n 0, 1) := by decide +kernel
theorem dX9_init_195 : decode cX9_init 195 = .ok (.bipush 10, 2) := by decide +kernel
theorem dX9_init_197 : decode cX9_init 197 = .ok (.newarray .int, 2) := by decide +kernel
theorem dX9_init_199 : decode cX9_init 199 = .ok (.putfield 65, 3) := by decide +kernel
theorem dX9_init_202 : decode cX9_init 202 = .ok (.aload_n 0, 1) := by decide +kernel
theorem dX9_init_203 : decode cX9_init 203 = .ok (.bipush 10, 2) := by decide +kernel
theorem dX9_init_205 : decode cX9_init 205 = .ok (.newarray .int, 2) := by decide +kernel
theorem dX9_init_207 : decode cX9_init 207 = .ok (.putfield 68, 3) := by decide +kernel
theorem dX9_init_210 : decode cX9_init 210 = .ok (.aload_n 0, 1) := by decide +kernel
theorem dX9_init_211 : decode cX9_init 211 = .ok (.bipush 24, 2) := by decide +kernel
theorem dX9_init_213 : decode cX9_init 213 = .ok (.newarray .int, 2) := by decide +kernel
theorem dX9_init_215 : decode cX9_init 215 = .ok (.putfield 71, 3) := by decide +kernel
theorem dX9_init_218 : decode cX9_init 218 = .ok (.aload_n 0, 1) := by decide +kernel
theorem dX9_init_219 : decode cX9_init 219 = .ok (.bipush 24, 2) := by decide +kernel
theorem dX9_init_221 : decode cX9_init 221 = .ok (.newarray .int, 2) := by decide +kernel
theorem dX9_init_223 : decode cX9_init 223 = .ok (.putfield 74, 3) := by decide +kernel
theorem dX9_init_226 : decode cX9_init 226 = .ok (.aload_n 0, 1) := by decide +kernel
theorem dX9_init_227 : decode cX9_init 227 = .ok (.iconst 1, 1) := by decide +kernel
theorem dX9_init_228 : decode cX9_init 228 = .ok (.putfield 77, 3) := by decide +kernel
theorem dX9_init_231 : decode cX9_init 231 = .ok (.aload_n 0, 1) := by decide +kernel
theorem dX9_init_232 : decode cX9_init 232 = .ok (.bipush 12, 2) := by decide +kernel
theorem dX9_init_234 : decode cX9_init 234 = .ok (.putfield 81, 3) := by decide +kernel
theorem dX9_init_237 : decode cX9_init 237 = .ok (.aload_n 0, 1) := by decide +kernel
theorem dX9_init_238 : decode cX9_init 238 = .ok (.sipush 1440, 3) := by decide +kernel
theorem dX9_init_241 : decode cX9_init 241 = .ok (.putfield 84, 3) := by decide +kernel
theorem dX9_init_244 : decode cX9_init 244 = .ok (.aload_n 0, 1) := by decide +kernel
theorem dX9_init_245 : decode cX9_init 245 = .ok (.bipush 8, 2) := by decide +kernel
theorem dX9_init_247 : decode cX9_init 247 = .ok (.newarray .int, 2) := by decide +kernel
theorem dX9_init_249 : decode cX9_init 249 = .ok (.putfield 87, 3) := by decide +kernel
theorem dX9_init_252 : decode cX9_init 252 = .ok (.aload_n 0, 1) := by decide +kernel
theorem dX9_init_253 : decode cX9_init 253 = .ok (.sipush 10240, 3) := by decide +kernel
theorem dX9_init_256 : decode cX9_init 256 = .ok (.newarray .int, 2) := by decide +kernel
theorem dX9_init_258 : decode cX9_init 258 = .ok (.putfield 90, 3) := by decide +kernel
theorem dX9_init_261 : decode cX9_init 261 = .ok (.aload_n 0, 1) := by decide +kernel
theorem dX9_init_262 : decode cX9_init 262 = .ok (.bipush 10, 2) := by decide +kernel
theorem dX9_init_264 : decode cX9_init 264 = .ok (.newarray .int, 2) := by decide +kernel
theorem dX9_init_266 : decode cX9_init 266 = .ok (.putfield 93, 3) := by decide +kernel
theorem dX9_init_269 : decode cX9_init 269 = .ok (.aload_n 0, 1) := by decide +kernel
theorem dX9_init_270 : decode cX9_init 270 = .ok (.bipush 10, 2) := by decide +kernel
theorem dX9_init_272 : decode cX9_init 272 = .ok (.newarray .int, 2) := by decide +kernel
theorem dX9_init_274 : decode cX9_init 274 = .ok (.putfield 96, 3) := by decide +kernel
theorem dX9_init_277 : decode cX9_init 277 = .ok (.aload_n 0, 1) := by decide +kernel
theorem dX9_init_278 : decode cX9_init 278 = .ok (.sipush 1024, 3) := by decide +kernel
theorem dX9_init_281 : decode cX9_init 281 = .ok (.newarray .int, 2) := by decide +kernel
theorem dX9_init_283 : decode cX9_init 283 = .ok (.putfield 99, 3) := by decide +kernel
theorem dX9_init_286 : decode cX9_init 286 = .ok (.aload_n 0, 1) := by decide +kernel
theorem dX9_init_287 : decode cX9_init 287 = .ok (.sipush 1024, 3) := by decide +kernel
theorem dX9_init_290 : decode cX9_init 290 = .ok (.newarray .int, 2) := by decide +kernel
theorem dX9_init_292 : decode cX9_init 292 = .ok (.putfield 102, 3) := by decide +kernel
theorem dX9_init_295 : decode cX9_init 295 = .ok (.return_, 1) := by decide +kernel
theorem dX9_in_0 : decode cX9_in 0 = .ok (.iload_n 0, 1) := by decide +kernel
theorem dX9_in_1 : decode cX9_in 1 = .ok (.iload_n 1, 1) := by decide +kernel
theorem dX9_in_2 : decode cX9_in 2 = .ok (.if_icmp .lt 12, 3) := by decide +kernel
theorem dX9_in_5 : decode cX9_in 5 = .ok (.iload_n 0, 1) := by decide +kernel
theorem dX9_in_6 : decode cX9_in 6 = .ok (.iload_n 2, 1) := by decide +kernel
theorem dX9_in_7 : decode cX9_in 7 = .ok (.if_icmp .gt 7, 3) := by decide +kernel
theorem dX9_in_10 : decode cX9_in 10 = .ok (.iconst 1, 1) := by decide +kernel
theorem dX9_in_11 : decode cX9_in 11 = .ok (.goto 4, 3) := by decide +kernel
theorem dX9_in_14 : decode cX9_in 14 = .ok (.iconst 0, 1) := by decide +kernel
theorem dX9_in_15 : decode cX9_in 15 = .ok (.ireturn, 1) := by decide +kernel
theorem mwX9_isPlace_0 : (.code yX9_in cX9_in 3 (some .boolean) : Cond) ∈ wsX9_isPlace := (List.mem_cons_of_mem _ (memL 3 rfl))
set_option maxRecDepth 20000 in
theorem sbX9_isPlace_X9_in : SubW wsX9_in wsX9_isPlace := (subW_cons mwX9_isPlace_0 subW_nil)
set_option maxRecDepth 20000 in
theorem gw_wsX9_isPlace : goodW wsX9_isPlace := (goodW_cons rfl (goodW_of (by decide +kernel)))
theorem ggX9_isPlace_X9_in : GoodIn wsX9_isPlace wsX9_in := goodIn_W gw_wsX9_isPlace sbX9_isPlace_X9_in
theorem mwX9_isPlace_1 : (.initialized RX9 : Cond) ∈ wsX9_isPlace := (List.mem_cons_of_mem _ (memL 2 rfl))
theorem mwX9_isPlace_2 : (.static yX9_in : Cond) ∈ wsX9_isPlace := (List.mem_cons_of_mem _ (memL 1 rfl))
theorem mwX9_isPlace_3 : (.methodLink RX9 105 yX9_in : Cond) ∈ wsX9_isPlace := (List.mem_cons_of_mem _ (memL 0 rfl))
theorem gX9_isPlace_X9_in : GoodIn wsX9_isPlace (va_wsS RX9 105 yX9_in wsX9_in) := goodIn_W gw_wsX9_isPlace (subW_app (subW_cons mwX9_isPlace_3 (subW_cons mwX9_isPlace_2 (subW_cons mwX9_isPlace_1 subW_nil))) sbX9_isPlace_X9_in)
theorem dX9_isPlace_0 : decode cX9_isPlace 0 = .ok (.iload_n 0, 1) := by decide +kernel
theorem dX9_isPlace_1 : decode cX9_isPlace 1 = .ok (.iconst 0, 1) := by decide +kernel
theorem dX9_isPlace_2 : decode cX9_isPlace 2 = .ok (.bipush 39, 2) := by decide +kernel
theorem dX9_isPlace_4 : decode cX9_isPlace 4 = .ok (.invokestatic 105, 3) := by decide +kernel
theorem dX9_isPlace_7 : decode cX9_isPlace 7 = .ok (.ifCond .eq 17, 3) := by decide +kernel
theorem dX9_isPlace_10 : decode cX9_isPlace 10 = .ok (.iload_n 1, 1) := by decide +kernel
theorem dX9_isPlace_11 : decode cX9_isPlace 11 = .ok (.iconst 0, 1) := by decide +kernel
theorem dX9_isPlace_12 : decode cX9_isPlace 12 = .ok (.bipush 39, 2) := by decide +kernel
theorem dX9_isPlace_14 : decode cX9_isPlace 14 = .ok (.invokestatic 105, 3) := by decide +kernel
theorem dX9_isPlace_17 : decode cX9_isPlace 17 = .ok (.ifCond .eq 7, 3) := by decide +kernel
theorem dX9_isPlace_20 : decode cX9_isPlace 20 = .ok (.iconst 1, 1) := by decide +kernel
theorem dX9_isPlace_21 : decode cX9_isPlace 21 = .ok (.goto 4, 3) := by decide +kernel
theorem dX9_isPlace_24 : decode cX9_isPlace 24 = .ok (.iconst 0, 1) := by decide +kernel
theorem dX9_isPlace_25 : decode cX9_isPlace 25 = .ok (.ireturn, 1) := by decide +kernel
theorem mwX9_isMark_0 : (.code yX9_in cX9_in 3 (some .boolean) : Cond) ∈ wsX9_isMark := (List.mem_cons_of_mem _ (List.mem_append_left _ (memL 4 rfl)))
set_option maxRecDepth 20000 in
theorem sbX9_isMark_X9_in : SubW wsX9_in wsX9_isMark := (subW_cons mwX9_isMark_0 subW_nil)
set_option maxRecDepth 20000 in
theorem gw_wsX90 : goodW wsX90 := goodW_of (by decide +kernel)
set_option maxRecDepth 20000 in
theorem gw_wsX9_isMark : goodW wsX9_isMark := (goodW_cons rfl (goodW_app (goodW_of (by decide +kernel)) gw_wsX90))
theorem ggX9_isMark_X9_in : GoodIn wsX9_isMark wsX9_in := goodIn_W gw_wsX9_isMark sbX9_isMark_X9_in
theorem mwX9_isMark_1 : (.initialized RX9 : Cond) ∈ wsX9_isMark := (List.mem_cons_of_mem _ (List.mem_append_left _ (memL 3 rfl)))
theorem mwX9_isMark_2 : (.static yX9_in : Cond) ∈ wsX9_isMark := (List.mem_cons_of_mem _ (List.mem_append_left _ (memL 2 rfl)))
theorem mwX9_isMark_3 : (.methodLink RX9 105 yX9_in : Cond) ∈ wsX9_isMark := (List.mem_cons_of_mem _ (List.mem_append_left _ (memL 1 rfl)))
theorem gX9_isMark_X9_in : GoodIn wsX9_isMark (va_wsS RX9 105 yX9_in wsX9_in) := goodIn_W gw_wsX9_isMark (subW_app (subW_cons mwX9_isMark_3 (subW_cons mwX9_isMark_2 (subW_cons mwX9_isMark_1 subW_nil))) sbX9_isMark_X9_in)
theorem dX9_isMark_0 : decode cX9_isMark 0 = .ok (.iload_n 1, 1) := by decide +kernel
theorem dX9_isMark_1 : decode cX9_isMark 1 = .ok (.iconst 0, 1) := by decide +kernel
theorem dX9_isMark_2 : decode cX9_isMark 2 = .ok (.aload_n 0, 1) := by decide +kernel
theorem dX9_isMark_3 : decode cX9_isMark 3 = .ok (.getfield 109, 3) := by decide +kernel
theorem dX9_isMark_6 : decode cX9_isMark 6 = .ok (.iconst 1, 1) := by decide +kernel
theorem dX9_isMark_7 : decode cX9_isMark 7 = .ok (.isub, 1) := by decide +kernel
theorem dX9_isMark_8 : decode cX9_isMark 8 = .ok (.invokestatic 105, 3) := by decide +kernel
theorem dX9_isMark_11 : decode cX9_isMark 11 = .ok (.ireturn, 1) := by decide +kernel
theorem mwX9_depth_0 : (.code yX9_isPlace cX9_isPlace 2 (some .boolean) : Cond) ∈ wsX9_depth := (List.mem_cons_of_mem _ (List.mem_append_left _ (memL 5 rfl)))
theorem mwX9_depth_1 : (.code yX9_in cX9_in 3 (some .boolean) : Cond) ∈ wsX9_depth := (List.mem_cons_of_mem _ (List.mem_append_left _ (memL 8 rfl)))
theorem mwX9_depth_2 : (.initialized RX9 : Cond) ∈ wsX9_depth := (List.mem_cons_of_mem _ (List.mem_append_left _ (memL 4 rfl)))
theorem mwX9_depth_3 : (.static yX9_in : Cond) ∈ wsX9_depth := (List.mem_cons_of_mem _ (List.mem_append_left _ (memL 7 rfl)))
theorem mwX9_depth_4 : (.methodLink RX9 105 yX9_in : Cond) ∈ wsX9_depth := (List.mem_cons_of_mem _ (List.mem_append_left _ (memL 6 rfl)))
set_option maxRecDepth 20000 in
theorem sbX9_depth_X9_isPlace : SubW wsX9_isPlace wsX9_depth := (subW_cons mwX9_depth_0 (subW_cons mwX9_depth_4 (subW_cons mwX9_depth_3 (subW_cons mwX9_depth_2 (subW_cons mwX9_depth_1 subW_nil)))))
set_option maxRecDepth 20000 in
theorem gw_wsX9_depth : goodW wsX9_depth := (goodW_cons rfl (goodW_app (goodW_of (by decide +kernel)) gw_wsX90))
theorem ggX9_depth_X9_isPlace : GoodIn wsX9_depth wsX9_isPlace := goodIn_W gw_wsX9_depth sbX9_depth_X9_isPlace
theorem mwX9_depth_5 : (.static yX9_isPlace : Cond) ∈ wsX9_depth := (List.mem_cons_of_mem _ (List.mem_append_left _ (memL 3 rfl)))
theorem mwX9_depth_6 : (.methodLink RX9 112 yX9_isPlace : Cond) ∈ wsX9_depth := (List.mem_cons_of_mem _ (List.mem_append_left _ (memL 2 rfl)))
theorem gX9_depth_X9_isPlace : GoodIn wsX9_depth (va_wsS RX9 112 yX9_isPlace wsX9_isPlace) := goodIn_W gw_wsX9_depth (subW_app (subW_cons mwX9_depth_6 (subW_cons mwX9_depth_5 (subW_cons mwX9_depth_2 subW_nil))) sbX9_depth_X9_isPlace)
set_option maxRecDepth 20000 in
theorem sbX9_depth_X9_in : SubW wsX9_in wsX9_depth := (subW_cons mwX9_depth_1 subW_nil)
theorem ggX9_depth_X9_in : GoodIn wsX9_depth wsX9_in := goodIn_W gw_wsX9_depth sbX9_depth_X9_in
theorem gX9_depth_X9_in : GoodIn wsX9_depth (va_wsS RX9 105 yX9_in wsX9_in) := goodIn_W gw_wsX9_depth (subW_app (subW_cons mwX9_depth_4 (subW_cons mwX9_depth_3 (subW_cons mwX9_depth_2 subW_nil))) sbX9_depth_X9_in)
theorem dX9_depth_0 : decode cX9_depth 0 = .ok (.iload_n 1, 1) := by decide +kernel
theorem dX9_depth_1 : decode cX9_depth 1 = .ok (.iload_n 2, 1) := by decide +kernel
theorem dX9_depth_2 : decode cX9_depth 2 = .ok (.invokestatic 112, 3) := by decide +kernel
theorem dX9_depth_5 : decode cX9_depth 5 = .ok (.ifCond .eq 35, 3) := by decide +kernel
theorem dX9_depth_8 : decode cX9_depth 8 = .ok (.iload_n 3, 1) := by decide +kernel
theorem dX9_depth_9 : decode cX9_depth 9 = .ok (.iload 4, 2) := by decide +kernel
theorem dX9_depth_11 : decode cX9_depth 11 = .ok (.invokestatic 112, 3) := by decide +kernel
theorem dX9_depth_14 : decode cX9_depth 14 = .ok (.ifCond .eq 26, 3) := by decide +kernel
theorem dX9_depth_17 : decode cX9_depth 17 = .ok (.iload_n 1, 1) := by decide +kernel
theorem dX9_depth_18 : decode cX9_depth 18 = .ok (.iload_n 3, 1) := by decide +kernel
theorem dX9_depth_19 : decode cX9_depth 19 = .ok (.if_icmp .gt 21, 3) := by decide +kernel
theorem dX9_depth_22 : decode cX9_depth 22 = .ok (.iload_n 2, 1) := by decide +kernel
theorem dX9_depth_23 : decode cX9_depth 23 = .ok (.iload 4, 2) := by decide +kernel
theorem dX9_depth_25 : decode cX9_depth 25 = .ok (.if_icmp .gt 15, 3) := by decide +kernel
theorem dX9_depth_28 : decode cX9_depth 28 = .ok (.iload 5, 2) := by decide +kernel
theorem dX9_depth_30 : decode cX9_depth 30 = .ok (.iconst 0, 1) := by decide +kernel
theorem dX9_depth_31 : decode cX9_depth 31 = .ok (.sipush 200, 3) := by decide +kernel
theorem dX9_depth_34 : decode cX9_depth 34 = .ok (.invokestatic 105, 3) := by decide +kernel
theorem dX9_depth_37 : decode cX9_depth 37 = .ok (.ifCond .ne 5, 3) := by decide +kernel
theorem dX9_depth_40 : decode cX9_depth 40 = .ok (.iconst 0, 1) := by decide +kernel
theorem dX9_depth_41 : decode cX9_depth 41 = .ok (.ireturn, 1) := by decide +kernel
theorem dX9_depth_42 : decode cX9_depth 42 = .ok (.iload_n 1, 1) := by decide +kernel
theorem dX9_depth_43 : decode cX9_depth 43 = .ok (.istore 6, 2) := by decide +kernel
theorem dX9_depth_45 : decode cX9_depth 45 = .ok (.iload 6, 2) := by decide +kernel
theorem dX9_depth_47 : decode cX9_depth 47 = .ok (.iload_n 3, 1) := by decide +kernel
theorem dX9_depth_48 : decode cX9_depth 48 = .ok (.if_icmp .gt 40, 3) := by decide +kernel
theorem dX9_depth_51 : decode cX9_depth 51 = .ok (.iload_n 2, 1) := by decide +kernel
theorem dX9_depth_52 : decode cX9_depth 52 = .ok (.istore 7, 2) := by decide +kernel
theorem dX9_depth_54 : decode cX9_depth 54 = .ok (.iload 7, 2) := by decide +kernel
theorem dX9_depth_56 : decode cX9_depth 56 = .ok (.iload 4, 2) := by decide +kernel
theorem dX9_depth_58 : decode cX9_depth 58 = .ok (.if_icmp .gt 24, 3) := by decide +kernel
theorem dX9_depth_61 : decode cX9_depth 61 = .ok (.aload_n 0, 1) := by decide +kernel
theorem dX9_depth_62 : decode cX9_depth 62 = .ok (.getfield 7, 3) := by decide +kernel
theorem dX9_depth_65 : decode cX9_depth 65 = .ok (.bipush 40, 2) := by decide +kernel
theorem dX9_depth_67 : decode cX9_depth 67 = .ok (.iload 6, 2) := by decide +kernel
theorem dX9_depth_69 : decode cX9_depth 69 = .ok (.imul, 1) := by decide +kernel
theorem dX9_depth_70 : decode cX9_depth 70 = .ok (.iload 7, 2) := by decide +kernel
theorem dX9_depth_72 : decode cX9_depth 72 = .ok (.iadd, 1) := by decide +kernel
theorem dX9_depth_73 : decode cX9_depth 73 = .ok (.iload 5, 2) := by decide +kernel
theorem dX9_depth_75 : decode cX9_depth 75 = .ok (.iastore, 1) := by decide +kernel
theorem dX9_depth_76 : decode cX9_depth 76 = .ok (.iinc 7 1, 3) := by decide +kernel
theorem dX9_depth_79 : decode cX9_depth 79 = .ok (.goto (-25), 3) := by decide +kernel
theorem dX9_depth_82 : decode cX9_depth 82 = .ok (.iinc 6 1, 3) := by decide +kernel
theorem dX9_depth_85 : decode cX9_depth 85 = .ok (.goto (-40), 3) := by decide +kernel
theorem dX9_depth_88 : decode cX9_depth 88 = .ok (.aload_n 0, 1) := by decide +kernel
theorem dX9_depth_89 : decode cX9_depth 89 = .ok (.iconst 0, 1) := by decide +kernel
theorem dX9_depth_90 : decode cX9_depth 90 = .ok (.putfield 116, 3) := by decide +kernel
theorem dX9_depth_93 : decode cX9_depth 93 = .ok (.iconst 1, 1) := by decide +kernel
theorem dX9_depth_94 : decode cX9_depth 94 = .ok (.ireturn, 1) := by decide +kernel
theorem mwX9_mark_0 : (.code yX9_isPlace cX9_isPlace 2 (some .boolean) : Cond) ∈ wsX9_mark := (List.mem_cons_of_mem _ (List.mem_append_left _ (memL 8 rfl)))
theorem mwX9_mark_1 : (.code yX9_in cX9_in 3 (some .boolean) : Cond) ∈ wsX9_mark := (List.mem_cons_of_mem _ (List.mem_append_left _ (memL 11 rfl)))
theorem mwX9_mark_2 : (.initialized RX9 : Cond) ∈ wsX9_mark := (List.mem_cons_of_mem _ (List.mem_append_left _ (memL 7 rfl)))
theorem mwX9_mark_3 : (.static yX9_in : Cond) ∈ wsX9_mark := (List.mem_cons_of_mem _ (List.mem_append_left _ (memL 10 rfl)))
theorem mwX9_mark_4 : (.methodLink RX9 105 yX9_in : Cond) ∈ wsX9_mark := (List.mem_cons_of_mem _ (List.mem_append_left _ (memL 9 rfl)))
set_option maxRecDepth 20000 in
theorem sbX9_mark_X9_isPlace : SubW wsX9_isPlace wsX9_mark := (subW_cons mwX9_mark_0 (subW_cons mwX9_mark_4 (subW_cons mwX9_mark_3 (subW_cons mwX9_mark_2 (subW_cons mwX9_mark_1 subW_nil)))))
set_option maxRecDepth 20000 in
theorem gw_wsX9_mark : goodW wsX9_mark := (goodW_cons rfl (goodW_app (goodW_of (by decide +kernel)) gw_wsX90))
theorem ggX9_mark_X9_isPlace : GoodIn wsX9_mark wsX9_isPlace := goodIn_W gw_wsX9_mark sbX9_mark_X9_isPlace
theorem mwX9_mark_5 : (.static yX9_isPlace : Cond) ∈ wsX9_mark := (List.mem_cons_of_mem _ (List.mem_append_left _ (memL 6 rfl)))
theorem mwX9_mark_6 : (.methodLink RX9 112 yX9_isPlace : Cond) ∈ wsX9_mark := (List.mem_cons_of_mem _ (List.mem_append_left _ (memL 5 rfl)))
theorem gX9_mark_X9_isPlace : GoodIn wsX9_mark (va_wsS RX9 112 yX9_isPlace wsX9_isPlace) := goodIn_W gw_wsX9_mark (subW_app (subW_cons mwX9_mark_6 (subW_cons mwX9_mark_5 (subW_cons mwX9_mark_2 subW_nil))) sbX9_mark_X9_isPlace)
set_option maxRecDepth 20000 in
theorem sbX9_mark_X9_in : SubW wsX9_in wsX9_mark := (subW_cons mwX9_mark_1 subW_nil)
theorem ggX9_mark_X9_in : GoodIn wsX9_mark wsX9_in := goodIn_W gw_wsX9_mark sbX9_mark_X9_in
theorem gX9_mark_X9_in : GoodIn wsX9_mark (va_wsS RX9 105 yX9_in wsX9_in) := goodIn_W gw_wsX9_mark (subW_app (subW_cons mwX9_mark_4 (subW_cons mwX9_mark_3 (subW_cons mwX9_mark_2 subW_nil))) sbX9_mark_X9_in)
theorem dX9_mark_0 : decode cX9_mark 0 = .ok (.iload_n 1, 1) := by decide +kernel
theorem dX9_mark_1 : decode cX9_mark 1 = .ok (.iload_n 2, 1) := by decide +kernel
theorem dX9_mark_2 : decode cX9_mark 2 = .ok (.invokestatic 112, 3) := by decide +kernel
theorem dX9_mark_5 : decode cX9_mark 5 = .ok (.ifCond .eq 22, 3) := by decide +kernel
theorem dX9_mark_8 : decode cX9_mark 8 = .ok (.iload_n 3, 1) := by decide +kernel
theorem dX9_mark_9 : decode cX9_mark 9 = .ok (.iconst 0, 1) := by decide +kernel
theorem dX9_mark_10 : decode cX9_mark 10 = .ok (.bipush 20, 2) := by decide +kernel
theorem dX9_mark_12 : decode cX9_mark 12 = .ok (.invokestatic 105, 3) := by decide +kernel
theorem dX9_mark_15 : decode cX9_mark 15 = .ok (.ifCond .eq 12, 3) := by decide +kernel
theorem dX9_mark_18 : decode cX9_mark 18 = .ok (.aload_n 0, 1) := by decide +kernel
theorem dX9_mark_19 : decode cX9_mark 19 = .ok (.getfield 109, 3) := by decide +kernel
theorem dX9_mark_22 : decode cX9_mark 22 = .ok (.bipush 10, 2) := by decide +kernel
theorem dX9_mark_24 : decode cX9_mark 24 = .ok (.if_icmp .ne 5, 3) := by decide +kernel
theorem dX9_mark_27 : decode cX9_mark 27 = .ok (.iconst (-1), 1) := by decide +kernel
theorem dX9_mark_28 : decode cX9_mark 28 = .ok (.ireturn, 1) := by decide +kernel
theorem dX9_mark_29 : decode cX9_mark 29 = .ok (.aload_n 0, 1) := by decide +kernel
theorem dX9_mark_30 : decode cX9_mark 30 = .ok (.getfield 13, 3) := by decide +kernel
theorem dX9_mark_33 : decode cX9_mark 33 = .ok (.aload_n 0, 1) := by decide +kernel
theorem dX9_mark_34 : decode cX9_mark 34 = .ok (.getfield 109, 3) := by decide +kernel
theorem dX9_mark_37 : decode cX9_mark 37 = .ok (.iload_n 1, 1) := by decide +kernel
theorem dX9_mark_38 : decode cX9_mark 38 = .ok (.iastore, 1) := by decide +kernel
theorem dX9_mark_39 : decode cX9_mark 39 = .ok (.aload_n 0, 1) := by decide +kernel
theorem dX9_mark_40 : decode cX9_mark 40 = .ok (.getfield 16, 3) := by decide +kernel
theorem dX9_mark_43 : decode cX9_mark 43 = .ok (.aload_n 0, 1) := by decide +kernel
theorem dX9_mark_44 : decode cX9_mark 44 = .ok (.getfield 109, 3) := by decide +kernel
theorem dX9_mark_47 : decode cX9_mark 47 = .ok (.iload_n 2, 1) := by decide +kernel
theorem dX9_mark_48 : decode cX9_mark 48 = .ok (.iastore, 1) := by decide +kernel
theorem dX9_mark_49 : decode cX9_mark 49 = .ok (.aload_n 0, 1) := by decide +kernel
theorem dX9_mark_50 : decode cX9_mark 50 = .ok (.getfield 19, 3) := by decide +kernel
theorem dX9_mark_53 : decode cX9_mark 53 = .ok (.aload_n 0, 1) := by decide +kernel
theorem dX9_mark_54 : decode cX9_mark 54 = .ok (.getfield 109, 3) := by decide +kernel
theorem dX9_mark_57 : decode cX9_mark 57 = .ok (.iload_n 3, 1) := by decide +kernel
theorem dX9_mark_58 : decode cX9_mark 58 = .ok (.iastore, 1) := by decide +kernel
theorem dX9_mark_59 : decode cX9_mark 59 = .ok (.aload_n 0, 1) := by decide +kernel
theorem dX9_mark_60 : decode cX9_mark 60 = .ok (.dup, 1) := by decide +kernel
theorem dX9_mark_61 : decode cX9_mark 61 = .ok (.getfield 109, 3) := by decide +kernel
theorem dX9_mark_64 : decode cX9_mark 64 = .ok (.iconst 1, 1) := by decide +kernel
theorem dX9_mark_65 : decode cX9_mark 65 = .ok (.iadd, 1) := by decide +kernel
theorem dX9_mark_66 : decode cX9_mark 66 = .ok (.putfield 109, 3) := by decide +kernel
theorem dX9_mark_69 : decode cX9_mark 69 = .ok (.aload_n 0, 1) := by decide +kernel
theorem dX9_mark_70 : decode cX9_mark 70 = .ok (.iconst 0, 1) := by decide +kernel
theorem dX9_mark_71 : decode cX9_mark 71 = .ok (.putfield 116, 3) := by decide +kernel
theorem dX9_mark_74 : decode cX9_mark 74 = .ok (.aload_n 0, 1) := by decide +kernel
theorem dX9_mark_75 : decode cX9_mark 75 = .ok (.getfield 109, 3) := by decide +kernel
theorem dX9_mark_78 : decode cX9_mark 78 = .ok (.iconst 1, 1) := by decide +kernel
theorem dX9_mark_79 : decode cX9_mark 79 = .ok (.isub, 1) := by decide +kernel
theorem dX9_mark_80 : decode cX9_mark 80 = .ok (.ireturn, 1) := by decide +kernel
theorem mwX9_sight_0 : (.code yX9_isMark cX9_isMark 2 (some .boolean) : Cond) ∈ wsX9_sight := (List.mem_cons_of_mem _ (List.mem_append_left _ (memL 6 rfl)))
theorem mwX9_sight_1 : (.code yX9_in cX9_in 3 (some .boolean) : Cond) ∈ wsX9_sight := (List.mem_cons_of_mem _ (List.mem_append_left _ (memL 10 rfl)))
theorem mwX9_sight_2 : (.initialized RX9 : Cond) ∈ wsX9_sight := (List.mem_cons_of_mem _ (List.mem_append_left _ (memL 5 rfl)))
theorem mwX9_sight_3 : (.static yX9_in : Cond) ∈ wsX9_sight := (List.mem_cons_of_mem _ (List.mem_append_left _ (memL 9 rfl)))
theorem mwX9_sight_4 : (.methodLink RX9 105 yX9_in : Cond) ∈ wsX9_sight := (List.mem_cons_of_mem _ (List.mem_append_left _ (memL 8 rfl)))
theorem mwX9_sight_5 : (.fieldLink RX9 109 "BuoyTenderModel" "marks" "I" : Cond) ∈ wsX9_sight := (List.mem_cons_of_mem _ (List.mem_append_left _ (memL 7 rfl)))
set_option maxRecDepth 20000 in
theorem sbX9_sight_X90 : SubW wsX90 wsX9_sight := fun _ h => (List.mem_cons_of_mem _ (List.mem_append_right _ h))
set_option maxRecDepth 20000 in
theorem sbX9_sight_X9_isMark : SubW wsX9_isMark wsX9_sight := (subW_cons mwX9_sight_0 (subW_app (subW_cons mwX9_sight_5 (subW_cons mwX9_sight_4 (subW_cons mwX9_sight_3 (subW_cons mwX9_sight_2 (subW_cons mwX9_sight_1 subW_nil))))) sbX9_sight_X90))
set_option maxRecDepth 20000 in
theorem gw_wsX9_sight : goodW wsX9_sight := (goodW_cons rfl (goodW_app (goodW_of (by decide +kernel)) gw_wsX90))
theorem ggX9_sight_X9_isMark : GoodIn wsX9_sight wsX9_isMark := goodIn_W gw_wsX9_sight sbX9_sight_X9_isMark
theorem mwX9_sight_6 : (.selects RX9 yX9_isMark yX9_isMark : Cond) ∈ wsX9_sight := (List.mem_cons_of_mem _ (List.mem_append_left _ (memL 4 rfl)))
theorem mwX9_sight_7 : (.instanceMethod yX9_isMark : Cond) ∈ wsX9_sight := (List.mem_cons_of_mem _ (List.mem_append_left _ (memL 3 rfl)))
theorem mwX9_sight_8 : (.methodLink RX9 120 yX9_isMark : Cond) ∈ wsX9_sight := (List.mem_cons_of_mem _ (List.mem_append_left _ (memL 2 rfl)))
theorem gX9_sight_X9_isMark : GoodIn wsX9_sight (wsV RX9 120 RX9 yX9_isMark wsX9_isMark) := goodIn_W gw_wsX9_sight (subW_app (subW_cons mwX9_sight_8 (subW_cons mwX9_sight_7 (subW_cons mwX9_sight_6 (subW_cons mwX9_sight_2 subW_nil)))) sbX9_sight_X9_isMark)
theorem dX9_sight_0 : decode cX9_sight 0 = .ok (.aload_n 0, 1) := by decide +kernel
theorem dX9_sight_1 : decode cX9_sight 1 = .ok (.iload_n 1, 1) := by decide +kernel
theorem dX9_sight_2 : decode cX9_sight 2 = .ok (.invokevirtual 120, 3) := by decide +kernel
theorem dX9_sight_5 : decode cX9_sight 5 = .ok (.ifCond .ne 5, 3) := by decide +kernel
theorem dX9_sight_8 : decode cX9_sight 8 = .ok (.iconst 0, 1) := by decide +kernel
theorem dX9_sight_9 : decode cX9_sight 9 = .ok (.ireturn, 1) := by decide +kernel
theorem dX9_sight_10 : decode cX9_sight 10 = .ok (.sipush 1600, 3) := by decide +kernel
theorem dX9_sight_13 : decode cX9_sight 13 = .ok (.iload_n 1, 1) := by decide +kernel
theorem dX9_sight_14 : decode cX9_sight 14 = .ok (.imul, 1) := by decide +kernel
theorem dX9_sight_15 : decode cX9_sight 15 = .ok (.istore_n 2, 1) := by decide +kernel
theorem dX9_sight_16 : decode cX9_sight 16 = .ok (.iload_n 2, 1) := by decide +kernel
theorem dX9_sight_17 : decode cX9_sight 17 = .ok (.sipush 1600, 3) := by decide +kernel
theorem dX9_sight_20 : decode cX9_sight 20 = .ok (.iload_n 1, 1) := by decide +kernel
theorem dX9_sight_21 : decode cX9_sight 21 = .ok (.imul, 1) := by decide +kernel
theorem dX9_sight_22 : decode cX9_sight 22 = .ok (.sipush 1600, 3) := by decide +kernel
theorem dX9_sight_25 : decode cX9_sight 25 = .ok (.iadd, 1) := by decide +kernel
theorem dX9_sight_26 : decode cX9_sight 26 = .ok (.if_icmp .ge 16, 3) := by decide +kernel
theorem dX9_sight_29 : decode cX9_sight 29 = .ok (.aload_n 0, 1) := by decide +kernel
theorem dX9_sight_30 : decode cX9_sight 30 = .ok (.getfield 22, 3) := by decide +kernel
theorem dX9_sight_33 : decode cX9_sight 33 = .ok (.iload_n 2, 1) := by decide +kernel
theorem dX9_sight_34 : decode cX9_sight 34 = .ok (.iconst 0, 1) := by decide +kernel
theorem dX9_sight_35 : decode cX9_sight 35 = .ok (.bastore, 1) := by decide +kernel
theorem dX9_sight_36 : decode cX9_sight 36 = .ok (.iinc 2 1, 3) := by decide +kernel
theorem dX9_sight_39 : decode cX9_sight 39 = .ok (.goto (-23), 3) := by decide +kernel
theorem dX9_sight_42 : decode cX9_sight 42 = .ok (.aload_n 0, 1) := by decide +kernel
theorem dX9_sight_43 : decode cX9_sight 43 = .ok (.getfield 26, 3) := by decide +kernel
theorem dX9_sight_46 : decode cX9_sight 46 = .ok (.iload_n 1, 1) := by decide +kernel
theorem dX9_sight_47 : decode cX9_sight 47 = .ok (.iconst 0, 1) := by decide +kernel
theorem dX9_sight_48 : decode cX9_sight 48 = .ok (.bastore, 1) := by decide +kernel
theorem dX9_sight_49 : decode cX9_sight 49 = .ok (.iconst 1, 1) := by decide +kernel
theorem dX9_sight_50 : decode cX9_sight 50 = .ok (.ireturn, 1) := by decide +kernel
theorem mwX9_isWay_0 : (.code yX9_in cX9_in 3 (some .boolean) : Cond) ∈ wsX9_isWay := (List.mem_cons_of_mem _ (memL 3 rfl))
set_option maxRecDepth 20000 in
theorem sbX9_isWay_X9_in : SubW wsX9_in wsX9_isWay := (subW_cons mwX9_isWay_0 subW_nil)
set_option maxRecDepth 20000 in
theorem gw_wsX9_isWay : goodW wsX9_isWay := (goodW_cons rfl (goodW_of (by decide +kernel)))
theorem ggX9_isWay_X9_in : GoodIn wsX9_isWay wsX9_in := goodIn_W gw_wsX9_isWay sbX9_isWay_X9_in
theorem mwX9_isWay_1 : (.initialized RX9 : Cond) ∈ wsX9_isWay := (List.mem_cons_of_mem _ (memL 2 rfl))
theorem mwX9_isWay_2 : (.static yX9_in : Cond) ∈ wsX9_isWay := (List.mem_cons_of_mem _ (memL 1 rfl))
theorem mwX9_isWay_3 : (.methodLink RX9 105 yX9_in : Cond) ∈ wsX9_isWay := (List.mem_cons_of_mem _ (memL 0 rfl))
theorem gX9_isWay_X9_in : GoodIn wsX9_isWay (va_wsS RX9 105 yX9_in wsX9_in) := goodIn_W gw_wsX9_isWay (subW_app (subW_cons mwX9_isWay_3 (subW_cons mwX9_isWay_2 (subW_cons mwX9_isWay_1 subW_nil))) sbX9_isWay_X9_in)
theorem dX9_isWay_0 : decode cX9_isWay 0 = .ok (.iload_n 0, 1) := by decide +kernel
theorem dX9_isWay_1 : decode cX9_isWay 1 = .ok (.sipush (-1000), 3) := by decide +kernel
theorem dX9_isWay_4 : decode cX9_isWay 4 = .ok (.sipush 1000, 3) := by decide +kernel
theorem dX9_isWay_7 : decode cX9_isWay 7 = .ok (.invokestatic 105, 3) := by decide +kernel
theorem dX9_isWay_10 : decode cX9_isWay 10 = .ok (.ifCond .eq 28, 3) := by decide +kernel
theorem dX9_isWay_13 : decode cX9_isWay 13 = .ok (.iload_n 1, 1) := by decide +kernel
theorem dX9_isWay_14 : decode cX9_isWay 14 = .ok (.sipush (-1000), 3) := by decide +kernel
theorem dX9_isWay_17 : decode cX9_isWay 17 = .ok (.sipush 1000, 3) := by decide +kernel
theorem dX9_isWay_20 : decode cX9_isWay 20 = .ok (.invokestatic 105, 3) := by decide +kernel
theorem dX9_isWay_23 : decode cX9_isWay 23 = .ok (.ifCond .eq 15, 3) := by decide +kernel
theorem dX9_isWay_26 : decode cX9_isWay 26 = .ok (.iload_n 0, 1) := by decide +kernel
theorem dX9_isWay_27 : decode cX9_isWay 27 = .ok (.ifCond .ne 7, 3) := by decide +kernel
theorem dX9_isWay_30 : decode cX9_isWay 30 = .ok (.iload_n 1, 1) := by decide +kernel
theorem dX9_isWay_31 : decode cX9_isWay 31 = .ok (.ifCond .eq 7, 3) := by decide +kernel
theorem dX9_isWay_34 : decode cX9_isWay 34 = .ok (.iconst 1, 1) := by decide +kernel
theorem dX9_isWay_35 : decode cX9_isWay 35 = .ok (.goto 4, 3) := by decide +kernel
theorem dX9_isWay_38 : decode cX9_isWay 38 = .ok (.iconst 0, 1) := by decide +kernel
theorem dX9_isWay_39 : decode cX9_isWay 39 = .ok (.ireturn, 1) := by decide +kernel
theorem mwX9_bearing_0 : (.code yX9_isMark cX9_isMark 2 (some .boolean) : Cond) ∈ wsX9_bearing := (List.mem_cons_of_mem _ (List.mem_append_left _ (memL 8 rfl)))
theorem mwX9_bearing_1 : (.code yX9_in cX9_in 3 (some .boolean) : Cond) ∈ wsX9_bearing := (List.mem_cons_of_mem _ (List.mem_append_left _ (memL 12 rfl)))
theorem mwX9_bearing_2 : (.initialized RX9 : Cond) ∈ wsX9_bearing := (List.mem_cons_of_mem _ (List.mem_append_left _ (memL 7 rfl)))
theorem mwX9_bearing_3 : (.static yX9_in : Cond) ∈ wsX9_bearing := (List.mem_cons_of_mem _ (List.mem_append_left _ (memL 11 rfl)))
theorem mwX9_bearing_4 : (.methodLink RX9 105 yX9_in : Cond) ∈ wsX9_bearing := (List.mem_cons_of_mem _ (List.mem_append_left _ (memL 10 rfl)))
theorem mwX9_bearing_5 : (.fieldLink RX9 109 "BuoyTenderModel" "marks" "I" : Cond) ∈ wsX9_bearing := (List.mem_cons_of_mem _ (List.mem_append_left _ (memL 9 rfl)))
set_option maxRecDepth 20000 in
theorem sbX9_bearing_X90 : SubW wsX90 wsX9_bearing := fun _ h => (List.mem_cons_of_mem _ (List.mem_append_right _ h))
set_option maxRecDepth 20000 in
theorem sbX9_bearing_X9_isMark : SubW wsX9_isMark wsX9_bearing := (subW_cons mwX9_bearing_0 (subW_app (subW_cons mwX9_bearing_5 (subW_cons mwX9_bearing_4 (subW_cons mwX9_bearing_3 (subW_cons mwX9_bearing_2 (subW_cons mwX9_bearing_1 subW_nil))))) sbX9_bearing_X90))
set_option maxRecDepth 20000 in
theorem gw_wsX9_bearing : goodW wsX9_bearing := (goodW_cons rfl (goodW_app (goodW_of (by decide +kernel)) gw_wsX90))
theorem ggX9_bearing_X9_isMark : GoodIn wsX9_bearing wsX9_isMark := goodIn_W gw_wsX9_bearing sbX9_bearing_X9_isMark
theorem mwX9_bearing_6 : (.selects RX9 yX9_isMark yX9_isMark : Cond) ∈ wsX9_bearing := (List.mem_cons_of_mem _ (List.mem_append_left _ (memL 6 rfl)))
theorem mwX9_bearing_7 : (.instanceMethod yX9_isMark : Cond) ∈ wsX9_bearing := (List.mem_cons_of_mem _ (List.mem_append_left _ (memL 5 rfl)))
theorem mwX9_bearing_8 : (.methodLink RX9 120 yX9_isMark : Cond) ∈ wsX9_bearing := (List.mem_cons_of_mem _ (List.mem_append_left _ (memL 4 rfl)))
theorem gX9_bearing_X9_isMark : GoodIn wsX9_bearing (wsV RX9 120 RX9 yX9_isMark wsX9_isMark) := goodIn_W gw_wsX9_bearing (subW_app (subW_cons mwX9_bearing_8 (subW_cons mwX9_bearing_7 (subW_cons mwX9_bearing_6 (subW_cons mwX9_bearing_2 subW_nil)))) sbX9_bearing_X9_isMark)
theorem mwX9_bearing_9 : (.code yX9_isWay cX9_isWay 2 (some .boolean) : Cond) ∈ wsX9_bearing := (List.mem_cons_of_mem _ (List.mem_append_left _ (memL 15 rfl)))
set_option maxRecDepth 20000 in
theorem sbX9_bearing_X9_isWay : SubW wsX9_isWay wsX9_bearing := (subW_cons mwX9_bearing_9 (subW_cons mwX9_bearing_4 (subW_cons mwX9_bearing_3 (subW_cons mwX9_bearing_2 (subW_cons mwX9_bearing_1 subW_nil)))))
theorem ggX9_bearing_X9_isWay : GoodIn wsX9_bearing wsX9_isWay := goodIn_W gw_wsX9_bearing sbX9_bearing_X9_isWay
theorem mwX9_bearing_10 : (.static yX9_isWay : Cond) ∈ wsX9_bearing := (List.mem_cons_of_mem _ (List.mem_append_left _ (memL 14 rfl)))
theorem mwX9_bearing_11 : (.methodLink RX9 124 yX9_isWay : Cond) ∈ wsX9_bearing := (List.mem_cons_of_mem _ (List.mem_append_left _ (memL 13 rfl)))
theorem gX9_bearing_X9_isWay : GoodIn wsX9_bearing (va_wsS RX9 124 yX9_isWay wsX9_isWay) := goodIn_W gw_wsX9_bearing (subW_app (subW_cons mwX9_bearing_11 (subW_cons mwX9_bearing_10 (subW_cons mwX9_bearing_2 subW_nil))) sbX9_bearing_X9_isWay)
theorem dX9_bearing_0 : decode cX9_bearing 0 = .ok (.aload_n 0, 1) := by decide +kernel
theorem dX9_bearing_1 : decode cX9_bearing 1 = .ok (.iload_n 1, 1) := by decide +kernel
theorem dX9_bearing_2 : decode cX9_bearing 2 = .ok (.invokevirtual 120, 3) := by decide +kernel
theorem dX9_bearing_5 : decode cX9_bearing 5 = .ok (.ifCond .eq 35, 3) := by decide +kernel
theorem dX9_bearing_8 : decode cX9_bearing 8 = .ok (.aload_n 0, 1) := by decide +kernel
theorem dX9_bearing_9 : decode cX9_bearing 9 = .ok (.iload_n 2, 1) := by decide +kernel
theorem dX9_bearing_10 : decode cX9_bearing 10 = .ok (.invokevirtual 120, 3) := by decide +kernel
theorem dX9_bearing_13 : decode cX9_bearing 13 = .ok (.ifCond .eq 27, 3) := by decide +kernel
theorem dX9_bearing_16 : decode cX9_bearing 16 = .ok (.iload_n 1, 1) := by decide +kernel
theorem dX9_bearing_17 : decode cX9_bearing 17 = .ok (.iload_n 2, 1) := by decide +kernel
theorem dX9_bearing_18 : decode cX9_bearing 18 = .ok (.if_icmp .eq 22, 3) := by decide +kernel
theorem dX9_bearing_21 : decode cX9_bearing 21 = .ok (.iload_n 3, 1) := by decide +kernel
theorem dX9_bearing_22 : decode cX9_bearing 22 = .ok (.iload 4, 2) := by decide +kernel
theorem dX9_bearing_24 : decode cX9_bearing 24 = .ok (.invokestatic 124, 3) := by decide +kernel
theorem dX9_bearing_27 : decode cX9_bearing 27 = .ok (.ifCond .eq 13, 3) := by decide +kernel
theorem dX9_bearing_30 : decode cX9_bearing 30 = .ok (.iload 5, 2) := by decide +kernel
theorem dX9_bearing_32 : decode cX9_bearing 32 = .ok (.iload 6, 2) := by decide +kernel
theorem dX9_bearing_34 : decode cX9_bearing 34 = .ok (.invokestatic 124, 3) := by decide +kernel
theorem dX9_bearing_37 : decode cX9_bearing 37 = .ok (.ifCond .ne 5, 3) := by decide +kernel
theorem dX9_bearing_40 : decode cX9_bearing 40 = .ok (.iconst 0, 1) := by decide +kernel
theorem dX9_bearing_41 : decode cX9_bearing 41 = .ok (.ireturn, 1) := by decide +kernel
theorem dX9_bearing_42 : decode cX9_bearing 42 = .ok (.iconst 0, 1) := by decide +kernel
theorem dX9_bearing_43 : decode cX9_bearing 43 = .ok (.istore 7, 2) := by decide +kernel
theorem dX9_bearing_45 : decode cX9_bearing 45 = .ok (.iload 7, 2) := by decide +kernel
theorem dX9_bearing_47 : decode cX9_bearing 47 = .ok (.sipush 1600, 3) := by decide +kernel
theorem dX9_bearing_50 : decode cX9_bearing 50 = .ok (.if_icmp .ge 98, 3) := by decide +kernel
theorem dX9_bearing_53 : decode cX9_bearing 53 = .ok (.iload 7, 2) := by decide +kernel
theorem dX9_bearing_55 : decode cX9_bearing 55 = .ok (.bipush 40, 2) := by decide +kernel
theorem dX9_bearing_57 : decode cX9_bearing 57 = .ok (.idiv, 1) := by decide +kernel
theorem dX9_bearing_58 : decode cX9_bearing 58 = .ok (.aload_n 0, 1) := by decide +kernel
theorem dX9_bearing_59 : decode cX9_bearing 59 = .ok (.getfield 13, 3) := by decide +kernel
theorem dX9_bearing_62 : decode cX9_bearing 62 = .ok (.iload_n 2, 1) := by decide +kernel
theorem dX9_bearing_63 : decode cX9_bearing 63 = .ok (.iaload, 1) := by decide +kernel
theorem dX9_bearing_64 : decode cX9_bearing 64 = .ok (.isub, 1) := by decide +kernel
theorem dX9_bearing_65 : decode cX9_bearing 65 = .ok (.istore 8, 2) := by decide +kernel
theorem dX9_bearing_67 : decode cX9_bearing 67 = .ok (.iload 7, 2) := by decide +kernel
theorem dX9_bearing_69 : decode cX9_bearing 69 = .ok (.bipush 40, 2) := by decide +kernel
theorem dX9_bearing_71 : decode cX9_bearing 71 = .ok (.irem, 1) := by decide +kernel
theorem dX9_bearing_72 : decode cX9_bearing 72 = .ok (.aload_n 0, 1) := by decide +kernel
theorem dX9_bearing_73 : decode cX9_bearing 73 = .ok (.getfield 16, 3) := by decide +kernel
theorem dX9_bearing_76 : decode cX9_bearing 76 = .ok (.iload_n 2, 1) := by decide +kernel
theorem dX9_bearing_77 : decode cX9_bearing 77 = .ok (.iaload, 1) := by decide +kernel
theorem dX9_bearing_78 : decode cX9_bearing 78 = .ok (.isub, 1) := by decide +kernel
theorem dX9_bearing_79 : decode cX9_bearing 79 = .ok (.istore 9, 2) := by decide +kernel
theorem dX9_bearing_81 : decode cX9_bearing 81 = .ok (.aload_n 0, 1) := by decide +kernel
theorem dX9_bearing_82 : decode cX9_bearing 82 = .ok (.getfield 22, 3) := by decide +kernel
theorem dX9_bearing_85 : decode cX9_bearing 85 = .ok (.sipush 1600, 3) := by decide +kernel
theorem dX9_bearing_88 : decode cX9_bearing 88 = .ok (.iload_n 1, 1) := by decide +kernel
theorem dX9_bearing_89 : decode cX9_bearing 89 = .ok (.imul, 1) := by decide +kernel
theorem dX9_bearing_90 : decode cX9_bearing 90 = .ok (.iload 7, 2) := by decide +kernel
theorem dX9_bearing_92 : decode cX9_bearing 92 = .ok (.iadd, 1) := by decide +kernel
theorem dX9_bearing_93 : decode cX9_bearing 93 = .ok (.aload_n 0, 1) := by decide +kernel
theorem dX9_bearing_94 : decode cX9_bearing 94 = .ok (.getfield 22, 3) := by decide +kernel
theorem dX9_bearing_97 : decode cX9_bearing 97 = .ok (.sipush 1600, 3) := by decide +kernel
theorem dX9_bearing_100 : decode cX9_bearing 100 = .ok (.iload_n 1, 1) := by decide +kernel
theorem dX9_bearing_101 : decode cX9_bearing 101 = .ok (.imul, 1) := by decide +kernel
theorem dX9_bearing_102 : decode cX9_bearing 102 = .ok (.iload 7, 2) := by decide +kernel
theorem dX9_bearing_104 : decode cX9_bearing 104 = .ok (.iadd, 1) := by decide +kernel
theorem dX9_bearing_105 : decode cX9_bearing 105 = .ok (.baload, 1) := by decide +kernel
theorem dX9_bearing_106 : decode cX9_bearing 106 = .ok (.ifCond .ne 30, 3) := by decide +kernel
theorem dX9_bearing_109 : decode cX9_bearing 109 = .ok (.iload_n 3, 1) := by decide +kernel
theorem dX9_bearing_110 : decode cX9_bearing 110 = .ok (.iload 9, 2) := by decide +kernel
theorem dX9_bearing_112 : decode cX9_bearing 112 = .ok (.imul, 1) := by decide +kernel
theorem dX9_bearing_113 : decode cX9_bearing 113 = .ok (.iload 4, 2) := by decide +kernel
theorem dX9_bearing_115 : decode cX9_bearing 115 = .ok (.iload 8, 2) := by decide +kernel
theorem dX9_bearing_117 : decode cX9_bearing 117 = .ok (.imul, 1) := by decide +kernel
theorem dX9_bearing_118 : decode cX9_bearing 118 = .ok (.isub, 1) := by decide +kernel
theorem dX9_bearing_119 : decode cX9_bearing 119 = .ok (.ifCond .lt 17, 3) := by decide +kernel
theorem dX9_bearing_122 : decode cX9_bearing 122 = .ok (.iload 5, 2) := by decide +kernel
theorem dX9_bearing_124 : decode cX9_bearing 124 = .ok (.iload 9, 2) := by decide +kernel
theorem dX9_bearing_126 : decode cX9_bearing 126 = .ok (.imul, 1) := by decide +kernel
theorem dX9_bearing_127 : decode cX9_bearing 127 = .ok (.iload 6, 2) := by decide +kernel
theorem dX9_bearing_129 : decode cX9_bearing 129 = .ok (.iload 8, 2) := by decide +kernel
theorem dX9_bearing_131 : decode cX9_bearing 131 = .ok (.imul, 1) := by decide +kernel
theorem dX9_bearing_132 : decode cX9_bearing 132 = .ok (.isub, 1) := by decide +kernel
theorem dX9_bearing_133 : decode cX9_bearing 133 = .ok (.ifCond .le 7, 3) := by decide +kernel
theorem dX9_bearing_136 : decode cX9_bearing 136 = .ok (.iconst 1, 1) := by decide +kernel
theorem dX9_bearing_137 : decode cX9_bearing 137 = .ok (.goto 4, 3) := by decide +kernel
theorem dX9_bearing_140 : decode cX9_bearing 140 = .ok (.iconst 0, 1) := by decide +kernel
theorem dX9_bearing_141 : decode cX9_bearing 141 = .ok (.bastore, 1) := by decide +kernel
theorem dX9_bearing_142 : decode cX9_bearing 142 = .ok (.iinc 7 1, 3) := by decide +kernel
theorem dX9_bearing_145 : decode cX9_bearing 145 = .ok (.goto (-100), 3) := by decide +kernel
theorem dX9_bearing_148 : decode cX9_bearing 148 = .ok (.aload_n 0, 1) := by decide +kernel
theorem dX9_bearing_149 : decode cX9_bearing 149 = .ok (.getfield 26, 3) := by decide +kernel
theorem dX9_bearing_152 : decode cX9_bearing 152 = .ok (.iload_n 1, 1) := by decide +kernel
theorem dX9_bearing_153 : decode cX9_bearing 153 = .ok (.iconst 1, 1) := by decide +kernel
theorem dX9_bearing_154 : decode cX9_bearing 154 = .ok (.bastore, 1) := by decide +kernel
theorem dX9_bearing_155 : decode cX9_bearing 155 = .ok (.iconst 1, 1) := by decide +kernel
theorem dX9_bearing_156 : decode cX9_bearing 156 = .ok (.ireturn, 1) := by decide +kernel
theorem mwX9_sounding_0 : (.code yX9_isMark cX9_isMark 2 (some .boolean) : Cond) ∈ wsX9_sounding := (List.mem_cons_of_mem _ (List.mem_append_left _ (memL 7 rfl)))
theorem mwX9_sounding_1 : (.code yX9_in cX9_in 3 (some .boolean) : Cond) ∈ wsX9_sounding := (List.mem_cons_of_mem _ (List.mem_append_left _ (memL 11 rfl)))
theorem mwX9_sounding_2 : (.initialized RX9 : Cond) ∈ wsX9_sounding := (List.mem_cons_of_mem _ (List.mem_append_left _ (memL 6 rfl)))
theorem mwX9_sounding_3 : (.static yX9_in : Cond) ∈ wsX9_sounding := (List.mem_cons_of_mem _ (List.mem_append_left _ (memL 10 rfl)))
theorem mwX9_sounding_4 : (.methodLink RX9 105 yX9_in : Cond) ∈ wsX9_sounding := (List.mem_cons_of_mem _ (List.mem_append_left _ (memL 9 rfl)))
theorem mwX9_sounding_5 : (.fieldLink RX9 109 "BuoyTenderModel" "marks" "I" : Cond) ∈ wsX9_sounding := (List.mem_cons_of_mem _ (List.mem_append_left _ (memL 8 rfl)))
set_option maxRecDepth 20000 in
theorem sbX9_sounding_X90 : SubW wsX90 wsX9_sounding := fun _ h => (List.mem_cons_of_mem _ (List.mem_append_right _ h))
set_option maxRecDepth 20000 in
theorem sbX9_sounding_X9_isMark : SubW wsX9_isMark wsX9_sounding := (subW_cons mwX9_sounding_0 (subW_app (subW_cons mwX9_sounding_5 (subW_cons mwX9_sounding_4 (subW_cons mwX9_sounding_3 (subW_cons mwX9_sounding_2 (subW_cons mwX9_sounding_1 subW_nil))))) sbX9_sounding_X90))
set_option maxRecDepth 20000 in
theorem gw_wsX9_sounding : goodW wsX9_sounding := (goodW_cons rfl (goodW_app (goodW_of (by decide +kernel)) gw_wsX90))
theorem ggX9_sounding_X9_isMark : GoodIn wsX9_sounding wsX9_isMark := goodIn_W gw_wsX9_sounding sbX9_sounding_X9_isMark
theorem mwX9_sounding_6 : (.selects RX9 yX9_isMark yX9_isMark : Cond) ∈ wsX9_sounding := (List.mem_cons_of_mem _ (List.mem_append_left _ (memL 5 rfl)))
theorem mwX9_sounding_7 : (.instanceMethod yX9_isMark : Cond) ∈ wsX9_sounding := (List.mem_cons_of_mem _ (List.mem_append_left _ (memL 4 rfl)))
theorem mwX9_sounding_8 : (.methodLink RX9 120 yX9_isMark : Cond) ∈ wsX9_sounding := (List.mem_cons_of_mem _ (List.mem_append_left _ (memL 3 rfl)))
theorem gX9_sounding_X9_isMark : GoodIn wsX9_sounding (wsV RX9 120 RX9 yX9_isMark wsX9_isMark) := goodIn_W gw_wsX9_sounding (subW_app (subW_cons mwX9_sounding_8 (subW_cons mwX9_sounding_7 (subW_cons mwX9_sounding_6 (subW_cons mwX9_sounding_2 subW_nil)))) sbX9_sounding_X9_isMark)
set_option maxRecDepth 20000 in
theorem sbX9_sounding_X9_in : SubW wsX9_in wsX9_sounding := (subW_cons mwX9_sounding_1 subW_nil)
theorem ggX9_sounding_X9_in : GoodIn wsX9_sounding wsX9_in := goodIn_W gw_wsX9_sounding sbX9_sounding_X9_in
theorem gX9_sounding_X9_in : GoodIn wsX9_sounding (va_wsS RX9 105 yX9_in wsX9_in) := goodIn_W gw_wsX9_sounding (subW_app (subW_cons mwX9_sounding_4 (subW_cons mwX9_sounding_3 (subW_cons mwX9_sounding_2 subW_nil))) sbX9_sounding_X9_in)
theorem dX9_sounding_0 : decode cX9_sounding 0 = .ok (.aload_n 0, 1) := by decide +kernel
theorem dX9_sounding_1 : decode cX9_sounding 1 = .ok (.iload_n 1, 1) := by decide +kernel
theorem dX9_sounding_2 : decode cX9_sounding 2 = .ok (.invokevirtual 120, 3) := by decide +kernel
theorem dX9_sounding_5 : decode cX9_sounding 5 = .ok (.ifCond .eq 25, 3) := by decide +kernel
theorem dX9_sounding_8 : decode cX9_sounding 8 = .ok (.iload_n 2, 1) := by decide +kernel
theorem dX9_sounding_9 : decode cX9_sounding 9 = .ok (.iconst 0, 1) := by decide +kernel
theorem dX9_sounding_10 : decode cX9_sounding 10 = .ok (.sipush 200, 3) := by decide +kernel
theorem dX9_sounding_13 : decode cX9_sounding 13 = .ok (.invokestatic 105, 3) := by decide +kernel
theorem dX9_sounding_16 : decode cX9_sounding 16 = .ok (.ifCond .eq 14, 3) := by decide +kernel
theorem dX9_sounding_19 : decode cX9_sounding 19 = .ok (.iload_n 3, 1) := by decide +kernel
theorem dX9_sounding_20 : decode cX9_sounding 20 = .ok (.iload_n 2, 1) := by decide +kernel
theorem dX9_sounding_21 : decode cX9_sounding 21 = .ok (.sipush 200, 3) := by decide +kernel
theorem dX9_sounding_24 : decode cX9_sounding 24 = .ok (.invokestatic 105, 3) := by decide +kernel
theorem dX9_sounding_27 : decode cX9_sounding 27 = .ok (.ifCond .ne 5, 3) := by decide +kernel
theorem dX9_sounding_30 : decode cX9_sounding 30 = .ok (.iconst 0, 1) := by decide +kernel
theorem dX9_sounding_31 : decode cX9_sounding 31 = .ok (.ireturn, 1) := by decide +kernel
theorem dX9_sounding_32 : decode cX9_sounding 32 = .ok (.iconst 0, 1) := by decide +kernel
theorem dX9_sounding_33 : decode cX9_sounding 33 = .ok (.istore 4, 2) := by decide +kernel
theorem dX9_sounding_35 : decode cX9_sounding 35 = .ok (.iload 4, 2) := by decide +kernel
theorem dX9_sounding_37 : decode cX9_sounding 37 = .ok (.sipush 1600, 3) := by decide +kernel
theorem dX9_sounding_40 : decode cX9_sounding 40 = .ok (.if_icmp .ge 58, 3) := by decide +kernel
theorem dX9_sounding_43 : decode cX9_sounding 43 = .ok (.aload_n 0, 1) := by decide +kernel
theorem dX9_sounding_44 : decode cX9_sounding 44 = .ok (.getfield 22, 3) := by decide +kernel
theorem dX9_sounding_47 : decode cX9_sounding 47 = .ok (.sipush 1600, 3) := by decide +kernel
theorem dX9_sounding_50 : decode cX9_sounding 50 = .ok (.iload_n 1, 1) := by decide +kernel
theorem dX9_sounding_51 : decode cX9_sounding 51 = .ok (.imul, 1) := by decide +kernel
theorem dX9_sounding_52 : decode cX9_sounding 52 = .ok (.iload 4, 2) := by decide +kernel
theorem dX9_sounding_54 : decode cX9_sounding 54 = .ok (.iadd, 1) := by decide +kernel
theorem dX9_sounding_55 : decode cX9_sounding 55 = .ok (.aload_n 0, 1) := by decide +kernel
theorem dX9_sounding_56 : decode cX9_sounding 56 = .ok (.getfield 22, 3) := by decide +kernel
theorem dX9_sounding_59 : decode cX9_sounding 59 = .ok (.sipush 1600, 3) := by decide +kernel
theorem dX9_sounding_62 : decode cX9_sounding 62 = .ok (.iload_n 1, 1) := by decide +kernel
theorem dX9_sounding_63 : decode cX9_sounding 63 = .ok (.imul, 1) := by decide +kernel
theorem dX9_sounding_64 : decode cX9_sounding 64 = .ok (.iload 4, 2) := by decide +kernel
theorem dX9_sounding_66 : decode cX9_sounding 66 = .ok (.iadd, 1) := by decide +kernel
theorem dX9_sounding_67 : decode cX9_sounding 67 = .ok (.baload, 1) := by decide +kernel
theorem dX9_sounding_68 : decode cX9_sounding 68 = .ok (.ifCond .ne 18, 3) := by decide +kernel
theorem dX9_sounding_71 : decode cX9_sounding 71 = .ok (.aload_n 0, 1) := by decide +kernel
theorem dX9_sounding_72 : decode cX9_sounding 72 = .ok (.getfield 7, 3) := by decide +kernel
theorem dX9_sounding_75 : decode cX9_sounding 75 = .ok (.iload 4, 2) := by decide +kernel
theorem dX9_sounding_77 : decode cX9_sounding 77 = .ok (.iaload, 1) := by decide +kernel
theorem dX9_sounding_78 : decode cX9_sounding 78 = .ok (.iload_n 2, 1) := by decide +kernel
theorem dX9_sounding_79 : decode cX9_sounding 79 = .ok (.iload_n 3, 1) := by decide +kernel
theorem dX9_sounding_80 : decode cX9_sounding 80 = .ok (.invokestatic 105, 3) := by decide +kernel
theorem dX9_sounding_83 : decode cX9_sounding 83 = .ok (.ifCond .ne 7, 3) := by decide +kernel
theorem dX9_sounding_86 : decode cX9_sounding 86 = .ok (.iconst 1, 1) := by decide +kernel
theorem dX9_sounding_87 : decode cX9_sounding 87 = .ok (.goto 4, 3) := by decide +kernel
theorem dX9_sounding_90 : decode cX9_sounding 90 = .ok (.iconst 0, 1) := by decide +kernel
theorem dX9_sounding_91 : decode cX9_sounding 91 = .ok (.bastore, 1) := by decide +kernel
theorem dX9_sounding_92 : decode cX9_sounding 92 = .ok (.iinc 4 1, 3) := by decide +kernel
theorem dX9_sounding_95 : decode cX9_sounding 95 = .ok (.goto (-60), 3) := by decide +kernel
theorem dX9_sounding_98 : decode cX9_sounding 98 = .ok (.aload_n 0, 1) := by decide +kernel
theorem dX9_sounding_99 : decode cX9_sounding 99 = .ok (.getfield 26, 3) := by decide +kernel
theorem dX9_sounding_102 : decode cX9_sounding 102 = .ok (.iload_n 1, 1) := by decide +kernel
theorem dX9_sounding_103 : decode cX9_sounding 103 = .ok (.iconst 1, 1) := by decide +kernel
theorem dX9_sounding_104 : decode cX9_sounding 104 = .ok (.bastore, 1) := by decide +kernel
theorem dX9_sounding_105 : decode cX9_sounding 105 = .ok (.iconst 1, 1) := by decide +kernel
theorem dX9_sounding_106 : decode cX9_sounding 106 = .ok (.ireturn, 1) := by decide +kernel
theorem dX9_square_0 : decode cX9_square 0 = .ok (.iload_n 0, 1) := by decide +kernel
theorem dX9_square_1 : decode cX9_square 1 = .ok (.iload_n 0, 1) := by decide +kernel
theorem dX9_square_2 : decode cX9_square 2 = .ok (.imul, 1) := by decide +kernel
theorem dX9_square_3 : decode cX9_square 3 = .ok (.iload_n 1, 1) := by decide +kernel
theorem dX9_square_4 : decode cX9_square 4 = .ok (.iload_n 1, 1) := by decide +kernel
theorem dX9_square_5 : decode cX9_square 5 = .ok (.imul, 1) := by decide +kernel
theorem dX9_square_6 : decode cX9_square 6 = .ok (.iadd, 1) := by decide +kernel
theorem dX9_square_7 : decode cX9_square 7 = .ok (.ireturn, 1) := by decide +kernel
theorem mwX9_lies_0 : (.code yX9_isMark cX9_isMark 2 (some .boolean) : Cond) ∈ wsX9_lies := (List.mem_cons_of_mem _ (List.mem_append_left _ (memL 9 rfl)))
theorem mwX9_lies_1 : (.code yX9_in cX9_in 3 (some .boolean) : Cond) ∈ wsX9_lies := (List.mem_cons_of_mem _ (List.mem_append_left _ (memL 13 rfl)))
theorem mwX9_lies_2 : (.initialized RX9 : Cond) ∈ wsX9_lies := (List.mem_cons_of_mem _ (List.mem_append_left _ (memL 8 rfl)))
theorem mwX9_lies_3 : (.static yX9_in : Cond) ∈ wsX9_lies := (List.mem_cons_of_mem _ (List.mem_append_left _ (memL 12 rfl)))
theorem mwX9_lies_4 : (.methodLink RX9 105 yX9_in : Cond) ∈ wsX9_lies := (List.mem_cons_of_mem _ (List.mem_append_left _ (memL 11 rfl)))
theorem mwX9_lies_5 : (.fieldLink RX9 109 "BuoyTenderModel" "marks" "I" : Cond) ∈ wsX9_lies := (List.mem_cons_of_mem _ (List.mem_append_left _ (memL 10 rfl)))
set_option maxRecDepth 20000 in
theorem sbX9_lies_X90 : SubW wsX90 wsX9_lies := fun _ h => (List.mem_cons_of_mem _ (List.mem_append_right _ h))
set_option maxRecDepth 20000 in
theorem sbX9_lies_X9_isMark : SubW wsX9_isMark wsX9_lies := (subW_cons mwX9_lies_0 (subW_app (subW_cons mwX9_lies_5 (subW_cons mwX9_lies_4 (subW_cons mwX9_lies_3 (subW_cons mwX9_lies_2 (subW_cons mwX9_lies_1 subW_nil))))) sbX9_lies_X90))
set_option maxRecDepth 20000 in
theorem gw_wsX9_lies : goodW wsX9_lies := (goodW_cons rfl (goodW_app (goodW_of (by decide +kernel)) gw_wsX90))
theorem ggX9_lies_X9_isMark : GoodIn wsX9_lies wsX9_isMark := goodIn_W gw_wsX9_lies sbX9_lies_X9_isMark
theorem mwX9_lies_6 : (.selects RX9 yX9_isMark yX9_isMark : Cond) ∈ wsX9_lies := (List.mem_cons_of_mem _ (List.mem_append_left _ (memL 7 rfl)))
theorem mwX9_lies_7 : (.instanceMethod yX9_isMark : Cond) ∈ wsX9_lies := (List.mem_cons_of_mem _ (List.mem_append_left _ (memL 6 rfl)))
theorem mwX9_lies_8 : (.methodLink RX9 120 yX9_isMark : Cond) ∈ wsX9_lies := (List.mem_cons_of_mem _ (List.mem_append_left _ (memL 5 rfl)))
theorem gX9_lies_X9_isMark : GoodIn wsX9_lies (wsV RX9 120 RX9 yX9_isMark wsX9_isMark) := goodIn_W gw_wsX9_lies (subW_app (subW_cons mwX9_lies_8 (subW_cons mwX9_lies_7 (subW_cons mwX9_lies_6 (subW_cons mwX9_lies_2 subW_nil)))) sbX9_lies_X9_isMark)
theorem mwX9_lies_9 : (.code yX9_square cX9_square 2 (some .int) : Cond) ∈ wsX9_lies := (List.mem_cons_of_mem _ (List.mem_append_left _ (memL 16 rfl)))
set_option maxRecDepth 20000 in
theorem sbX9_lies_X9_square : SubW wsX9_square wsX9_lies := (subW_cons mwX9_lies_9 subW_nil)
theorem ggX9_lies_X9_square : GoodIn wsX9_lies wsX9_square := goodIn_W gw_wsX9_lies sbX9_lies_X9_square
theorem mwX9_lies_10 : (.static yX9_square : Cond) ∈ wsX9_lies := (List.mem_cons_of_mem _ (List.mem_append_left _ (memL 15 rfl)))
theorem mwX9_lies_11 : (.methodLink RX9 127 yX9_square : Cond) ∈ wsX9_lies := (List.mem_cons_of_mem _ (List.mem_append_left _ (memL 14 rfl)))
theorem gX9_lies_X9_square : GoodIn wsX9_lies (va_wsS RX9 127 yX9_square wsX9_square) := goodIn_W gw_wsX9_lies (subW_app (subW_cons mwX9_lies_11 (subW_cons mwX9_lies_10 (subW_cons mwX9_lies_2 subW_nil))) sbX9_lies_X9_square)
theorem dX9_lies_0 : decode cX9_lies 0 = .ok (.aload_n 0, 1) := by decide +kernel
theorem dX9_lies_1 : decode cX9_lies 1 = .ok (.iload_n 1, 1) := by decide +kernel
theorem dX9_lies_2 : decode cX9_lies 2 = .ok (.invokevirtual 120, 3) := by decide +kernel
theorem dX9_lies_5 : decode cX9_lies 5 = .ok (.ifCond .ne 5, 3) := by decide +kernel
theorem dX9_lies_8 : decode cX9_lies 8 = .ok (.iconst (-1), 1) := by decide +kernel
theorem dX9_lies_9 : decode cX9_lies 9 = .ok (.ireturn, 1) := by decide +kernel
theorem dX9_lies_10 : decode cX9_lies 10 = .ok (.iconst 0, 1) := by decide +kernel
theorem dX9_lies_11 : decode cX9_lies 11 = .ok (.istore_n 3, 1) := by decide +kernel
theorem dX9_lies_12 : decode cX9_lies 12 = .ok (.iconst 0, 1) := by decide +kernel
theorem dX9_lies_13 : decode cX9_lies 13 = .ok (.istore 4, 2) := by decide +kernel
theorem dX9_lies_15 : decode cX9_lies 15 = .ok (.iconst (-1), 1) := by decide +kernel
theorem dX9_lies_16 : decode cX9_lies 16 = .ok (.istore 5, 2) := by decide +kernel
theorem dX9_lies_18 : decode cX9_lies 18 = .ok (.iconst (-1), 1) := by decide +kernel
theorem dX9_lies_19 : decode cX9_lies 19 = .ok (.istore 6, 2) := by decide +kernel
theorem dX9_lies_21 : decode cX9_lies 21 = .ok (.iconst (-1), 1) := by decide +kernel
theorem dX9_lies_22 : decode cX9_lies 22 = .ok (.istore 7, 2) := by decide +kernel
theorem dX9_lies_24 : decode cX9_lies 24 = .ok (.iconst (-1), 1) := by decide +kernel
theorem dX9_lies_25 : decode cX9_lies 25 = .ok (.istore 8, 2) := by decide +kernel
theorem dX9_lies_27 : decode cX9_lies 27 = .ok (.iconst 0, 1) := by decide +kernel
theorem dX9_lies_28 : decode cX9_lies 28 = .ok (.istore 9, 2) := by decide +kernel
theorem dX9_lies_30 : decode cX9_lies 30 = .ok (.iload 9, 2) := by decide +kernel
theorem dX9_lies_32 : decode cX9_lies 32 = .ok (.sipush 1600, 3) := by decide +kernel
theorem dX9_lies_35 : decode cX9_lies 35 = .ok (.if_icmp .ge 147, 3) := by decide +kernel
theorem dX9_lies_38 : decode cX9_lies 38 = .ok (.aload_n 0, 1) := by decide +kernel
theorem dX9_lies_39 : decode cX9_lies 39 = .ok (.getfield 22, 3) := by decide +kernel
theorem dX9_lies_42 : decode cX9_lies 42 = .ok (.sipush 1600, 3) := by decide +kernel
theorem dX9_lies_45 : decode cX9_lies 45 = .ok (.iload_n 1, 1) := by decide +kernel
theorem dX9_lies_46 : decode cX9_lies 46 = .ok (.imul, 1) := by decide +kernel
theorem dX9_lies_47 : decode cX9_lies 47 = .ok (.iload 9, 2) := by decide +kernel
theorem dX9_lies_49 : decode cX9_lies 49 = .ok (.iadd, 1) := by decide +kernel
theorem dX9_lies_50 : decode cX9_lies 50 = .ok (.baload, 1) := by decide +kernel
theorem dX9_lies_51 : decode cX9_lies 51 = .ok (.ifCond .eq 6, 3) := by decide +kernel
theorem dX9_lies_54 : decode cX9_lies 54 = .ok (.goto 122, 3) := by decide +kernel
theorem dX9_lies_57 : decode cX9_lies 57 = .ok (.iload 9, 2) := by decide +kernel
theorem dX9_lies_59 : decode cX9_lies 59 = .ok (.bipush 40, 2) := by decide +kernel
theorem dX9_lies_61 : decode cX9_lies 61 = .ok (.idiv, 1) := by decide +kernel
theorem dX9_lies_62 : decode cX9_lies 62 = .ok (.istore 10, 2) := by decide +kernel
theorem dX9_lies_64 : decode cX9_lies 64 = .ok (.iload 9, 2) := by decide +kernel
theorem dX9_lies_66 : decode cX9_lies 66 = .ok (.bipush 40, 2) := by decide +kernel
theorem dX9_lies_68 : decode cX9_lies 68 = .ok (.irem, 1) := by decide +kernel
theorem dX9_lies_69 : decode cX9_lies 69 = .ok (.istore 11, 2) := by decide +kernel
theorem dX9_lies_71 : decode cX9_lies 71 = .ok (.iinc 3 1, 3) := by decide +kernel
theorem dX9_lies_74 : decode cX9_lies 74 = .ok (.iload 4, 2) := by decide +kernel
theorem dX9_lies_76 : decode cX9_lies 76 = .ok (.iload 10, 2) := by decide +kernel
theorem dX9_lies_78 : decode cX9_lies 78 = .ok (.aload_n 0, 1) := by decide +kernel
theorem dX9_lies_79 : decode cX9_lies 79 = .ok (.getfield 13, 3) := by decide +kernel
theorem dX9_lies_82 : decode cX9_lies 82 = .ok (.iload_n 1, 1) := by decide +kernel
theorem dX9_lies_83 : decode cX9_lies 83 = .ok (.iaload, 1) := by decide +kernel
theorem dX9_lies_84 : decode cX9_lies 84 = .ok (.isub, 1) := by decide +kernel
theorem dX9_lies_85 : decode cX9_lies 85 = .ok (.iload 11, 2) := by decide +kernel
theorem dX9_lies_87 : decode cX9_lies 87 = .ok (.aload_n 0, 1) := by decide +kernel
theorem dX9_lies_88 : decode cX9_lies 88 = .ok (.getfield 16, 3) := by decide +kernel
theorem dX9_lies_91 : decode cX9_lies 91 = .ok (.iload_n 1, 1) := by decide +kernel
theorem dX9_lies_92 : decode cX9_lies 92 = .ok (.iaload, 1) := by decide +kernel
theorem dX9_lies_93 : decode cX9_lies 93 = .ok (.isub, 1) := by decide +kernel
theorem dX9_lies_94 : decode cX9_lies 94 = .ok (.invokestatic 127, 3) := by decide +kernel
theorem dX9_lies_97 : decode cX9_lies 97 = .ok (.aload_n 0, 1) := by decide +kernel
theorem dX9_lies_98 : decode cX9_lies 98 = .ok (.getfield 19, 3) := by decide +kernel
theorem dX9_lies_101 : decode cX9_lies 101 = .ok (.iload_n 1, 1) := by decide +kernel
theorem dX9_lies_102 : decode cX9_lies 102 = .ok (.iaload, 1) := by decide +kernel
theorem dX9_lies_103 : decode cX9_lies 103 = .ok (.aload_n 0, 1) := by decide +kernel
theorem dX9_lies_104 : decode cX9_lies 104 = .ok (.getfield 19, 3) := by decide +kernel
theorem dX9_lies_107 : decode cX9_lies 107 = .ok (.iload_n 1, 1) := by decide +kernel
theorem dX9_lies_108 : decode cX9_lies 108 = .ok (.iaload, 1) := by decide +kernel
theorem dX9_lies_109 : decode cX9_lies 109 = .ok (.imul, 1) := by decide +kernel
theorem dX9_lies_110 : decode cX9_lies 110 = .ok (.if_icmp .gt 7, 3) := by decide +kernel
theorem dX9_lies_113 : decode cX9_lies 113 = .ok (.iconst 1, 1) := by decide +kernel
theorem dX9_lies_114 : decode cX9_lies 114 = .ok (.goto 4, 3) := by decide +kernel
theorem dX9_lies_117 : decode cX9_lies 117 = .ok (.iconst 0, 1) := by decide +kernel
theorem dX9_lies_118 : decode cX9_lies 118 = .ok (.iadd, 1) := by decide +kernel
theorem dX9_lies_119 : decode cX9_lies 119 = .ok (.istore 4, 2) := by decide +kernel
theorem dX9_lies_121 : decode cX9_lies 121 = .ok (.iload 5, 2) := by decide +kernel
theorem dX9_lies_123 : decode cX9_lies 123 = .ok (.ifCond .ge 8, 3) := by decide +kernel
theorem dX9_lies_126 : decode cX9_lies 126 = .ok (.iload 10, 2) := by decide +kernel
theorem dX9_lies_128 : decode cX9_lies 128 = .ok (.goto 5, 3) := by decide +kernel
theorem dX9_lies_131 : decode cX9_lies 131 = .ok (.iload 5, 2) := by decide +kernel
theorem dX9_lies_133 : decode cX9_lies 133 = .ok (.istore 5, 2) := by decide +kernel
theorem dX9_lies_135 : decode cX9_lies 135 = .ok (.iload 10, 2) := by decide +kernel
theorem dX9_lies_137 : decode cX9_lies 137 = .ok (.istore 7, 2) := by decide +kernel
theorem dX9_lies_139 : decode cX9_lies 139 = .ok (.iload 6, 2) := by decide +kernel
theorem dX9_lies_141 : decode cX9_lies 141 = .ok (.ifCond .lt 10, 3) := by decide +kernel
theorem dX9_lies_144 : decode cX9_lies 144 = .ok (.iload 11, 2) := by decide +kernel
theorem dX9_lies_146 : decode cX9_lies 146 = .ok (.iload 6, 2) := by decide +kernel
theorem dX9_lies_148 : decode cX9_lies 148 = .ok (.if_icmp .ge 8, 3) := by decide +kernel
theorem dX9_lies_151 : decode cX9_lies 151 = .ok (.iload 11, 2) := by decide +kernel
theorem dX9_lies_153 : decode cX9_lies 153 = .ok (.goto 5, 3) := by decide +kernel
theorem dX9_lies_156 : decode cX9_lies 156 = .ok (.iload 6, 2) := by decide +kernel
theorem dX9_lies_158 : decode cX9_lies 158 = .ok (.istore 6, 2) := by decide +kernel
theorem dX9_lies_160 : decode cX9_lies 160 = .ok (.iload 11, 2) := by decide +kernel
theorem dX9_lies_162 : decode cX9_lies 162 = .ok (.iload 8, 2) := by decide +kernel
theorem dX9_lies_164 : decode cX9_lies 164 = .ok (.if_icmp .le 8, 3) := by decide +kernel
theorem dX9_lies_167 : decode cX9_lies 167 = .ok (.iload 11, 2) := by decide +kernel
theorem dX9_lies_169 : decode cX9_lies 169 = .ok (.goto 5, 3) := by decide +kernel
theorem dX9_lies_172 : decode cX9_lies 172 = .ok (.iload 8, 2) := by decide +kernel
theorem dX9_lies_174 : decode cX9_lies 174 = .ok (.istore 8, 2) := by decide +kernel
theorem dX9_lies_176 : decode cX9_lies 176 = .ok (.iinc 9 1, 3) := by decide +kernel
theorem dX9_lies_179 : decode cX9_lies 179 = .ok (.goto (-149), 3) := by decide +kernel
theorem dX9_lies_182 : decode cX9_lies 182 = .ok (.iload_n 2, 1) := by decide +kernel
theorem dX9_lies_183 : decode cX9_lies 183 = .ok (.tableswitch 126 0 8 #[49, 91, 93, 96, 99, 102, 105, 112, 119], 49) := by decide +kernel
theorem dX9_lies_232 : decode cX9_lies 232 = .ok (.aload_n 0, 1) := by decide +kernel
theorem dX9_lies_233 : decode cX9_lies 233 = .ok (.getfield 26, 3) := by decide +kernel
theorem dX9_lies_236 : decode cX9_lies 236 = .ok (.iload_n 1, 1) := by decide +kernel
theorem dX9_lies_237 : decode cX9_lies 237 = .ok (.baload, 1) := by decide +kernel
theorem dX9_lies_238 : decode cX9_lies 238 = .ok (.ifCond .ne 7, 3) := by decide +kernel
theorem dX9_lies_241 : decode cX9_lies 241 = .ok (.iconst 0, 1) := by decide +kernel
theorem dX9_lies_242 : decode cX9_lies 242 = .ok (.goto 31, 3) := by decide +kernel
theorem dX9_lies_245 : decode cX9_lies 245 = .ok (.iload_n 3, 1) := by decide +kernel
theorem dX9_lies_246 : decode cX9_lies 246 = .ok (.ifCond .ne 7, 3) := by decide +kernel
theorem dX9_lies_249 : decode cX9_lies 249 = .ok (.iconst 3, 1) := by decide +kernel
theorem dX9_lies_250 : decode cX9_lies 250 = .ok (.goto 23, 3) := by decide +kernel
theorem dX9_lies_253 : decode cX9_lies 253 = .ok (.iload 4, 2) := by decide +kernel
theorem dX9_lies_255 : decode cX9_lies 255 = .ok (.iload_n 3, 1) := by decide +kernel
theorem dX9_lies_256 : decode cX9_lies 256 = .ok (.if_icmp .ne 7, 3) := by decide +kernel
theorem dX9_lies_259 : decode cX9_lies 259 = .ok (.iconst 1, 1) := by decide +kernel
theorem dX9_lies_260 : decode cX9_lies 260 = .ok (.goto 13, 3) := by decide +kernel
theorem dX9_lies_263 : decode cX9_lies 263 = .ok (.iload 4, 2) := by decide +kernel
theorem dX9_lies_265 : decode cX9_lies 265 = .ok (.ifCond .ne 7, 3) := by decide +kernel
theorem dX9_lies_268 : decode cX9_lies 268 = .ok (.iconst 2, 1) := by decide +kernel
theorem dX9_lies_269 : decode cX9_lies 269 = .ok (.goto 4, 3) := by decide +kernel
theorem dX9_lies_272 : decode cX9_lies 272 = .ok (.iconst 0, 1) := by decide +kernel
theorem dX9_lies_273 : decode cX9_lies 273 = .ok (.ireturn, 1) := by decide +kernel
theorem dX9_lies_274 : decode cX9_lies 274 = .ok (.iload_n 3, 1) := by decide +kernel
theorem dX9_lies_275 : decode cX9_lies 275 = .ok (.ireturn, 1) := by decide +kernel
theorem dX9_lies_276 : decode cX9_lies 276 = .ok (.iload 5, 2) := by decide +kernel
theorem dX9_lies_278 : decode cX9_lies 278 = .ok (.ireturn, 1) := by decide +kernel
theorem dX9_lies_279 : decode cX9_lies 279 = .ok (.iload 6, 2) := by decide +kernel
theorem dX9_lies_281 : decode cX9_lies 281 = .ok (.ireturn, 1) := by decide +kernel
theorem dX9_lies_282 : decode cX9_lies 282 = .ok (.iload 7, 2) := by decide +kernel
theorem dX9_lies_284 : decode cX9_lies 284 = .ok (.ireturn, 1) := by decide +kernel
theorem dX9_lies_285 : decode cX9_lies 285 = .ok (.iload 8, 2) := by decide +kernel
theorem dX9_lies_287 : decode cX9_lies 287 = .ok (.ireturn, 1) := by decide +kernel
theorem dX9_lies_288 : decode cX9_lies 288 = .ok (.aload_n 0, 1) := by decide +kernel
theorem dX9_lies_289 : decode cX9_lies 289 = .ok (.getfield 13, 3) := by decide +kernel
theorem dX9_lies_292 : decode cX9_lies 292 = .ok (.iload_n 1, 1) := by decide +kernel
theorem dX9_lies_293 : decode cX9_lies 293 = .ok (.iaload, 1) := by decide +kernel
theorem dX9_lies_294 : decode cX9_lies 294 = .ok (.ireturn, 1) := by decide +kernel
theorem dX9_lies_295 : decode cX9_lies 295 = .ok (.aload_n 0, 1) := by decide +kernel
theorem dX9_lies_296 : decode cX9_lies 296 = .ok (.getfield 16, 3) := by decide +kernel
theorem dX9_lies_299 : decode cX9_lies 299 = .ok (.iload_n 1, 1) := by decide +kernel
theorem dX9_lies_300 : decode cX9_lies 300 = .ok (.iaload, 1) := by decide +kernel
theorem dX9_lies_301 : decode cX9_lies 301 = .ok (.ireturn, 1) := by decide +kernel
theorem dX9_lies_302 : decode cX9_lies 302 = .ok (.aload_n 0, 1) := by decide +kernel
theorem dX9_lies_303 : decode cX9_lies 303 = .ok (.getfield 19, 3) := by decide +kernel
theorem dX9_lies_306 : decode cX9_lies 306 = .ok (.iload_n 1, 1) := by decide +kernel
theorem dX9_lies_307 : decode cX9_lies 307 = .ok (.iaload, 1) := by decide +kernel
theorem dX9_lies_308 : decode cX9_lies 308 = .ok (.ireturn, 1) := by decide +kernel
theorem dX9_lies_309 : decode cX9_lies 309 = .ok (.iconst (-1), 1) := by decide +kernel
theorem dX9_lies_310 : decode cX9_lies 310 = .ok (.ireturn, 1) := by decide +kernel
theorem mwX9_day_0 : (.code yX9_in cX9_in 3 (some .boolean) : Cond) ∈ wsX9_day := (List.mem_cons_of_mem _ (List.mem_append_left _ (memL 4 rfl)))
set_option maxRecDepth 20000 in
theorem sbX9_day_X9_in : SubW wsX9_in wsX9_day := (subW_cons mwX9_day_0 subW_nil)
set_option maxRecDepth 20000 in
theorem gw_wsX9_day : goodW wsX9_day := (goodW_cons rfl (goodW_app (goodW_of (by decide +kernel)) gw_wsX90))
theorem ggX9_day_X9_in : GoodIn wsX9_day wsX9_in := goodIn_W gw_wsX9_day sbX9_day_X9_in
theorem mwX9_day_1 : (.initialized RX9 : Cond) ∈ wsX9_day := (List.mem_cons_of_mem _ (List.mem_append_left _ (memL 3 rfl)))
theorem mwX9_day_2 : (.static yX9_in : Cond) ∈ wsX9_day := (List.mem_cons_of_mem _ (List.mem_append_left _ (memL 2 rfl)))
theorem mwX9_day_3 : (.methodLink RX9 105 yX9_in : Cond) ∈ wsX9_day := (List.mem_cons_of_mem _ (List.mem_append_left _ (memL 1 rfl)))
theorem gX9_day_X9_in : GoodIn wsX9_day (va_wsS RX9 105 yX9_in wsX9_in) := goodIn_W gw_wsX9_day (subW_app (subW_cons mwX9_day_3 (subW_cons mwX9_day_2 (subW_cons mwX9_day_1 subW_nil))) sbX9_day_X9_in)
theorem dX9_day_0 : decode cX9_day 0 = .ok (.iload_n 1, 1) := by decide +kernel
theorem dX9_day_1 : decode cX9_day 1 = .ok (.aload_n 0, 1) := by decide +kernel
theorem dX9_day_2 : decode cX9_day 2 = .ok (.getfield 131, 3) := by decide +kernel
theorem dX9_day_5 : decode cX9_day 5 = .ok (.sipush 10000, 3) := by decide +kernel
theorem dX9_day_8 : decode cX9_day 8 = .ok (.invokestatic 105, 3) := by decide +kernel
theorem dX9_day_11 : decode cX9_day 11 = .ok (.ifCond .ne 5, 3) := by decide +kernel
theorem dX9_day_14 : decode cX9_day 14 = .ok (.iconst 0, 1) := by decide +kernel
theorem dX9_day_15 : decode cX9_day 15 = .ok (.ireturn, 1) := by decide +kernel
theorem dX9_day_16 : decode cX9_day 16 = .ok (.aload_n 0, 1) := by decide +kernel
theorem dX9_day_17 : decode cX9_day 17 = .ok (.iload_n 1, 1) := by decide +kernel
theorem dX9_day_18 : decode cX9_day 18 = .ok (.putfield 131, 3) := by decide +kernel
theorem dX9_day_21 : decode cX9_day 21 = .ok (.iconst 1, 1) := by decide +kernel
theorem dX9_day_22 : decode cX9_day 22 = .ok (.ireturn, 1) := by decide +kernel
theorem mwX9_chain_0 : (.code yX9_isMark cX9_isMark 2 (some .boolean) : Cond) ∈ wsX9_chain := (List.mem_cons_of_mem _ (List.mem_append_left _ (memL 9 rfl)))
theorem mwX9_chain_1 : (.code yX9_in cX9_in 3 (some .boolean) : Cond) ∈ wsX9_chain := (List.mem_cons_of_mem _ (List.mem_append_left _ (memL 13 rfl)))
theorem mwX9_chain_2 : (.initialized RX9 : Cond) ∈ wsX9_chain := (List.mem_cons_of_mem _ (List.mem_append_left _ (memL 8 rfl)))
theorem mwX9_chain_3 : (.static yX9_in : Cond) ∈ wsX9_chain := (List.mem_cons_of_mem _ (List.mem_append_left _ (memL 12 rfl)))
theorem mwX9_chain_4 : (.methodLink RX9 105 yX9_in : Cond) ∈ wsX9_chain := (List.mem_cons_of_mem _ (List.mem_append_left _ (memL 11 rfl)))
theorem mwX9_chain_5 : (.fieldLink RX9 109 "BuoyTenderModel" "marks" "I" : Cond) ∈ wsX9_chain := (List.mem_cons_of_mem _ (List.mem_append_left _ (memL 10 rfl)))
set_option maxRecDepth 20000 in
theorem sbX9_chain_X90 : SubW wsX90 wsX9_chain := fun _ h => (List.mem_cons_of_mem _ (List.mem_append_right _ h))
set_option maxRecDepth 20000 in
theorem sbX9_chain_X9_isMark : SubW wsX9_isMark wsX9_chain := (subW_cons mwX9_chain_0 (subW_app (subW_cons mwX9_chain_5 (subW_cons mwX9_chain_4 (subW_cons mwX9_chain_3 (subW_cons mwX9_chain_2 (subW_cons mwX9_chain_1 subW_nil))))) sbX9_chain_X90))
set_option maxRecDepth 20000 in
theorem gw_wsX9_chain : goodW wsX9_chain := (goodW_cons rfl (goodW_app (goodW_of (by decide +kernel)) gw_wsX90))
theorem ggX9_chain_X9_isMark : GoodIn wsX9_chain wsX9_isMark := goodIn_W gw_wsX9_chain sbX9_chain_X9_isMark
theorem mwX9_chain_6 : (.selects RX9 yX9_isMark yX9_isMark : Cond) ∈ wsX9_chain := (List.mem_cons_of_mem _ (List.mem_append_left _ (memL 7 rfl)))
theorem mwX9_chain_7 : (.instanceMethod yX9_isMark : Cond) ∈ wsX9_chain := (List.mem_cons_of_mem _ (List.mem_append_left _ (memL 6 rfl)))
theorem mwX9_chain_8 : (.methodLink RX9 120 yX9_isMark : Cond) ∈ wsX9_chain := (List.mem_cons_of_mem _ (List.mem_append_left _ (memL 5 rfl)))
theorem gX9_chain_X9_isMark : GoodIn wsX9_chain (wsV RX9 120 RX9 yX9_isMark wsX9_isMark) := goodIn_W gw_wsX9_chain (subW_app (subW_cons mwX9_chain_8 (subW_cons mwX9_chain_7 (subW_cons mwX9_chain_6 (subW_cons mwX9_chain_2 subW_nil)))) sbX9_chain_X9_isMark)
set_option maxRecDepth 20000 in
theorem sbX9_chain_X9_in : SubW wsX9_in wsX9_chain := (subW_cons mwX9_chain_1 subW_nil)
theorem ggX9_chain_X9_in : GoodIn wsX9_chain wsX9_in := goodIn_W gw_wsX9_chain sbX9_chain_X9_in
theorem gX9_chain_X9_in : GoodIn wsX9_chain (va_wsS RX9 105 yX9_in wsX9_in) := goodIn_W gw_wsX9_chain (subW_app (subW_cons mwX9_chain_4 (subW_cons mwX9_chain_3 (subW_cons mwX9_chain_2 subW_nil))) sbX9_chain_X9_in)
theorem dX9_chain_0 : decode cX9_chain 0 = .ok (.aload_n 0, 1) := by decide +kernel
theorem dX9_chain_1 : decode cX9_chain 1 = .ok (.iload_n 1, 1) := by decide +kernel
theorem dX9_chain_2 : decode cX9_chain 2 = .ok (.invokevirtual 120, 3) := by decide +kernel
theorem dX9_chain_5 : decode cX9_chain 5 = .ok (.ifCond .eq 33, 3) := by decide +kernel
theorem dX9_chain_8 : decode cX9_chain 8 = .ok (.iload_n 2, 1) := by decide +kernel
theorem dX9_chain_9 : decode cX9_chain 9 = .ok (.iconst 1, 1) := by decide +kernel
theorem dX9_chain_10 : decode cX9_chain 10 = .ok (.sipush 1000, 3) := by decide +kernel
theorem dX9_chain_13 : decode cX9_chain 13 = .ok (.invokestatic 105, 3) := by decide +kernel
theorem dX9_chain_16 : decode cX9_chain 16 = .ok (.ifCond .eq 22, 3) := by decide +kernel
theorem dX9_chain_19 : decode cX9_chain 19 = .ok (.iload_n 3, 1) := by decide +kernel
theorem dX9_chain_20 : decode cX9_chain 20 = .ok (.iconst 0, 1) := by decide +kernel
theorem dX9_chain_21 : decode cX9_chain 21 = .ok (.iload_n 2, 1) := by decide +kernel
theorem dX9_chain_22 : decode cX9_chain 22 = .ok (.invokestatic 105, 3) := by decide +kernel
theorem dX9_chain_25 : decode cX9_chain 25 = .ok (.ifCond .eq 13, 3) := by decide +kernel
theorem dX9_chain_28 : decode cX9_chain 28 = .ok (.iload 4, 2) := by decide +kernel
theorem dX9_chain_30 : decode cX9_chain 30 = .ok (.iconst 0, 1) := by decide +kernel
theorem dX9_chain_31 : decode cX9_chain 31 = .ok (.iconst 3, 1) := by decide +kernel
theorem dX9_chain_32 : decode cX9_chain 32 = .ok (.invokestatic 105, 3) := by decide +kernel
theorem dX9_chain_35 : decode cX9_chain 35 = .ok (.ifCond .ne 5, 3) := by decide +kernel
theorem dX9_chain_38 : decode cX9_chain 38 = .ok (.iconst 0, 1) := by decide +kernel
theorem dX9_chain_39 : decode cX9_chain 39 = .ok (.ireturn, 1) := by decide +kernel
theorem dX9_chain_40 : decode cX9_chain 40 = .ok (.aload_n 0, 1) := by decide +kernel
theorem dX9_chain_41 : decode cX9_chain 41 = .ok (.getfield 29, 3) := by decide +kernel
theorem dX9_chain_44 : decode cX9_chain 44 = .ok (.iload_n 1, 1) := by decide +kernel
theorem dX9_chain_45 : decode cX9_chain 45 = .ok (.aload_n 0, 1) := by decide +kernel
theorem dX9_chain_46 : decode cX9_chain 46 = .ok (.getfield 131, 3) := by decide +kernel
theorem dX9_chain_49 : decode cX9_chain 49 = .ok (.bipush 30, 2) := by decide +kernel
theorem dX9_chain_51 : decode cX9_chain 51 = .ok (.idiv, 1) := by decide +kernel
theorem dX9_chain_52 : decode cX9_chain 52 = .ok (.iastore, 1) := by decide +kernel
theorem dX9_chain_53 : decode cX9_chain 53 = .ok (.aload_n 0, 1) := by decide +kernel
theorem dX9_chain_54 : decode cX9_chain 54 = .ok (.getfield 32, 3) := by decide +kernel
theorem dX9_chain_57 : decode cX9_chain 57 = .ok (.iload_n 1, 1) := by decide +kernel
theorem dX9_chain_58 : decode cX9_chain 58 = .ok (.iload_n 2, 1) := by decide +kernel
theorem dX9_chain_59 : decode cX9_chain 59 = .ok (.iastore, 1) := by decide +kernel
theorem dX9_chain_60 : decode cX9_chain 60 = .ok (.aload_n 0, 1) := by decide +kernel
theorem dX9_chain_61 : decode cX9_chain 61 = .ok (.getfield 35, 3) := by decide +kernel
theorem dX9_chain_64 : decode cX9_chain 64 = .ok (.iload_n 1, 1) := by decide +kernel
theorem dX9_chain_65 : decode cX9_chain 65 = .ok (.iload_n 3, 1) := by decide +kernel
theorem dX9_chain_66 : decode cX9_chain 66 = .ok (.iastore, 1) := by decide +kernel
theorem dX9_chain_67 : decode cX9_chain 67 = .ok (.aload_n 0, 1) := by decide +kernel
theorem dX9_chain_68 : decode cX9_chain 68 = .ok (.getfield 38, 3) := by decide +kernel
theorem dX9_chain_71 : decode cX9_chain 71 = .ok (.iload_n 1, 1) := by decide +kernel
theorem dX9_chain_72 : decode cX9_chain 72 = .ok (.iload 4, 2) := by decide +kernel
theorem dX9_chain_74 : decode cX9_chain 74 = .ok (.iastore, 1) := by decide +kernel
theorem dX9_chain_75 : decode cX9_chain 75 = .ok (.iconst 1, 1) := by decide +kernel
theorem dX9_chain_76 : decode cX9_chain 76 = .ok (.ireturn, 1) := by decide +kernel
theorem mwX9_wear_0 : (.code yX9_in cX9_in 3 (some .boolean) : Cond) ∈ wsX9_wear := (List.mem_cons_of_mem _ (List.mem_append_left _ (memL 4 rfl)))
set_option maxRecDepth 20000 in
theorem sbX9_wear_X9_in : SubW wsX9_in wsX9_wear := (subW_cons mwX9_wear_0 subW_nil)
set_option maxRecDepth 20000 in
theorem gw_wsX9_wear : goodW wsX9_wear := (goodW_cons rfl (goodW_app (goodW_of (by decide +kernel)) gw_wsX90))
theorem ggX9_wear_X9_in : GoodIn wsX9_wear wsX9_in := goodIn_W gw_wsX9_wear sbX9_wear_X9_in
theorem mwX9_wear_1 : (.initialized RX9 : Cond) ∈ wsX9_wear := (List.mem_cons_of_mem _ (List.mem_append_left _ (memL 3 rfl)))
theorem mwX9_wear_2 : (.static yX9_in : Cond) ∈ wsX9_wear := (List.mem_cons_of_mem _ (List.mem_append_left _ (memL 2 rfl)))
theorem mwX9_wear_3 : (.methodLink RX9 105 yX9_in : Cond) ∈ wsX9_wear := (List.mem_cons_of_mem _ (List.mem_append_left _ (memL 1 rfl)))
theorem gX9_wear_X9_in : GoodIn wsX9_wear (va_wsS RX9 105 yX9_in wsX9_in) := goodIn_W gw_wsX9_wear (subW_app (subW_cons mwX9_wear_3 (subW_cons mwX9_wear_2 (subW_cons mwX9_wear_1 subW_nil))) sbX9_wear_X9_in)
theorem dX9_wear_0 : decode cX9_wear 0 = .ok (.iload_n 1, 1) := by decide +kernel
theorem dX9_wear_1 : decode cX9_wear 1 = .ok (.iconst 0, 1) := by decide +kernel
theorem dX9_wear_2 : decode cX9_wear 2 = .ok (.iconst 3, 1) := by decide +kernel
theorem dX9_wear_3 : decode cX9_wear 3 = .ok (.invokestatic 105, 3) := by decide +kernel
theorem dX9_wear_6 : decode cX9_wear 6 = .ok (.ifCond .eq 23, 3) := by decide +kernel
theorem dX9_wear_9 : decode cX9_wear 9 = .ok (.iload_n 2, 1) := by decide +kernel
theorem dX9_wear_10 : decode cX9_wear 10 = .ok (.iconst 0, 1) := by decide +kernel
theorem dX9_wear_11 : decode cX9_wear 11 = .ok (.bipush 11, 2) := by decide +kernel
theorem dX9_wear_13 : decode cX9_wear 13 = .ok (.invokestatic 105, 3) := by decide +kernel
theorem dX9_wear_16 : decode cX9_wear 16 = .ok (.ifCond .eq 13, 3) := by decide +kernel
theorem dX9_wear_19 : decode cX9_wear 19 = .ok (.iload_n 3, 1) := by decide +kernel
theorem dX9_wear_20 : decode cX9_wear 20 = .ok (.iconst 0, 1) := by decide +kernel
theorem dX9_wear_21 : decode cX9_wear 21 = .ok (.bipush 100, 2) := by decide +kernel
theorem dX9_wear_23 : decode cX9_wear 23 = .ok (.invokestatic 105, 3) := by decide +kernel
theorem dX9_wear_26 : decode cX9_wear 26 = .ok (.ifCond .ne 5, 3) := by decide +kernel
theorem dX9_wear_29 : decode cX9_wear 29 = .ok (.iconst 0, 1) := by decide +kernel
theorem dX9_wear_30 : decode cX9_wear 30 = .ok (.ireturn, 1) := by decide +kernel
theorem dX9_wear_31 : decode cX9_wear 31 = .ok (.aload_n 0, 1) := by decide +kernel
theorem dX9_wear_32 : decode cX9_wear 32 = .ok (.getfield 41, 3) := by decide +kernel
theorem dX9_wear_35 : decode cX9_wear 35 = .ok (.bipush 12, 2) := by decide +kernel
theorem dX9_wear_37 : decode cX9_wear 37 = .ok (.iload_n 1, 1) := by decide +kernel
theorem dX9_wear_38 : decode cX9_wear 38 = .ok (.imul, 1) := by decide +kernel
theorem dX9_wear_39 : decode cX9_wear 39 = .ok (.iload_n 2, 1) := by decide +kernel
theorem dX9_wear_40 : decode cX9_wear 40 = .ok (.iadd, 1) := by decide +kernel
theorem dX9_wear_41 : decode cX9_wear 41 = .ok (.iload_n 3, 1) := by decide +kernel
theorem dX9_wear_42 : decode cX9_wear 42 = .ok (.iastore, 1) := by decide +kernel
theorem dX9_wear_43 : decode cX9_wear 43 = .ok (.iconst 1, 1) := by decide +kernel
theorem dX9_wear_44 : decode cX9_wear 44 = .ok (.ireturn, 1) := by decide +kernel
theorem mwX9_chainOf_0 : (.code yX9_isMark cX9_isMark 2 (some .boolean) : Cond) ∈ wsX9_chainOf := (List.mem_cons_of_mem _ (List.mem_append_left _ (memL 10 rfl)))
theorem mwX9_chainOf_1 : (.code yX9_in cX9_in 3 (some .boolean) : Cond) ∈ wsX9_chainOf := (List.mem_cons_of_mem _ (List.mem_append_left _ (memL 14 rfl)))
theorem mwX9_chainOf_2 : (.initialized RX9 : Cond) ∈ wsX9_chainOf := (List.mem_cons_of_mem _ (List.mem_append_left _ (memL 9 rfl)))
theorem mwX9_chainOf_3 : (.static yX9_in : Cond) ∈ wsX9_chainOf := (List.mem_cons_of_mem _ (List.mem_append_left _ (memL 13 rfl)))
theorem mwX9_chainOf_4 : (.methodLink RX9 105 yX9_in : Cond) ∈ wsX9_chainOf := (List.mem_cons_of_mem _ (List.mem_append_left _ (memL 12 rfl)))
theorem mwX9_chainOf_5 : (.fieldLink RX9 109 "BuoyTenderModel" "marks" "I" : Cond) ∈ wsX9_chainOf := (List.mem_cons_of_mem _ (List.mem_append_left _ (memL 11 rfl)))
set_option maxRecDepth 20000 in
theorem sbX9_chainOf_X90 : SubW wsX90 wsX9_chainOf := fun _ h => (List.mem_cons_of_mem _ (List.mem_append_right _ h))
set_option maxRecDepth 20000 in
theorem sbX9_chainOf_X9_isMark : SubW wsX9_isMark wsX9_chainOf := (subW_cons mwX9_chainOf_0 (subW_app (subW_cons mwX9_chainOf_5 (subW_cons mwX9_chainOf_4 (subW_cons mwX9_chainOf_3 (subW_cons mwX9_chainOf_2 (subW_cons mwX9_chainOf_1 subW_nil))))) sbX9_chainOf_X90))
set_option maxRecDepth 20000 in
theorem gw_wsX9_chainOf : goodW wsX9_chainOf := (goodW_cons rfl (goodW_app (goodW_of (by decide +kernel)) gw_wsX90))
theorem ggX9_chainOf_X9_isMark : GoodIn wsX9_chainOf wsX9_isMark := goodIn_W gw_wsX9_chainOf sbX9_chainOf_X9_isMark
theorem mwX9_chainOf_6 : (.selects RX9 yX9_isMark yX9_isMark : Cond) ∈ wsX9_chainOf := (List.mem_cons_of_mem _ (List.mem_append_left _ (memL 8 rfl)))
theorem mwX9_chainOf_7 : (.instanceMethod yX9_isMark : Cond) ∈ wsX9_chainOf := (List.mem_cons_of_mem _ (List.mem_append_left _ (memL 7 rfl)))
theorem mwX9_chainOf_8 : (.methodLink RX9 120 yX9_isMark : Cond) ∈ wsX9_chainOf := (List.mem_cons_of_mem _ (List.mem_append_left _ (memL 6 rfl)))
theorem gX9_chainOf_X9_isMark : GoodIn wsX9_chainOf (wsV RX9 120 RX9 yX9_isMark wsX9_isMark) := goodIn_W gw_wsX9_chainOf (subW_app (subW_cons mwX9_chainOf_8 (subW_cons mwX9_chainOf_7 (subW_cons mwX9_chainOf_6 (subW_cons mwX9_chainOf_2 subW_nil)))) sbX9_chainOf_X9_isMark)
theorem dX9_chainOf_0 : decode cX9_chainOf 0 = .ok (.aload_n 0, 1) := by decide +kernel
theorem dX9_chainOf_1 : decode cX9_chainOf 1 = .ok (.iload_n 1, 1) := by decide +kernel
theorem dX9_chainOf_2 : decode cX9_chainOf 2 = .ok (.invokevirtual 120, 3) := by decide +kernel
theorem dX9_chainOf_5 : decode cX9_chainOf 5 = .ok (.ifCond .eq 12, 3) := by decide +kernel
theorem dX9_chainOf_8 : decode cX9_chainOf 8 = .ok (.aload_n 0, 1) := by decide +kernel
theorem dX9_chainOf_9 : decode cX9_chainOf 9 = .ok (.getfield 29, 3) := by decide +kernel
theorem dX9_chainOf_12 : decode cX9_chainOf 12 = .ok (.iload_n 1, 1) := by decide +kernel
theorem dX9_chainOf_13 : decode cX9_chainOf 13 = .ok (.iaload, 1) := by decide +kernel
theorem dX9_chainOf_14 : decode cX9_chainOf 14 = .ok (.ifCond .ge 5, 3) := by decide +kernel
theorem dX9_chainOf_17 : decode cX9_chainOf 17 = .ok (.iconst (-1), 1) := by decide +kernel
theorem dX9_chainOf_18 : decode cX9_chainOf 18 = .ok (.ireturn, 1) := by decide +kernel
theorem dX9_chainOf_19 : decode cX9_chainOf 19 = .ok (.aload_n 0, 1) := by decide +kernel
theorem dX9_chainOf_20 : decode cX9_chainOf 20 = .ok (.getfield 32, 3) := by decide +kernel
theorem dX9_chainOf_23 : decode cX9_chainOf 23 = .ok (.iload_n 1, 1) := by decide +kernel
theorem dX9_chainOf_24 : decode cX9_chainOf 24 = .ok (.iaload, 1) := by decide +kernel
theorem dX9_chainOf_25 : decode cX9_chainOf 25 = .ok (.istore_n 3, 1) := by decide +kernel
theorem dX9_chainOf_26 : decode cX9_chainOf 26 = .ok (.iconst (-1), 1) := by decide +kernel
theorem dX9_chainOf_27 : decode cX9_chainOf 27 = .ok (.istore 4, 2) := by decide +kernel
theorem dX9_chainOf_29 : decode cX9_chainOf 29 = .ok (.iconst 0, 1) := by decide +kernel
theorem dX9_chainOf_30 : decode cX9_chainOf 30 = .ok (.istore 5, 2) := by decide +kernel
theorem dX9_chainOf_32 : decode cX9_chainOf 32 = .ok (.aload_n 0, 1) := by decide +kernel
theorem dX9_chainOf_33 : decode cX9_chainOf 33 = .ok (.getfield 29, 3) := by decide +kernel
theorem dX9_chainOf_36 : decode cX9_chainOf 36 = .ok (.iload_n 1, 1) := by decide +kernel
theorem dX9_chainOf_37 : decode cX9_chainOf 37 = .ok (.iaload, 1) := by decide +kernel
theorem dX9_chainOf_38 : decode cX9_chainOf 38 = .ok (.istore 6, 2) := by decide +kernel
theorem dX9_chainOf_40 : decode cX9_chainOf 40 = .ok (.iload 6, 2) := by decide +kernel
theorem dX9_chainOf_42 : decode cX9_chainOf 42 = .ok (.aload_n 0, 1) := by decide +kernel
theorem dX9_chainOf_43 : decode cX9_chainOf 43 = .ok (.getfield 29, 3) := by decide +kernel
theorem dX9_chainOf_46 : decode cX9_chainOf 46 = .ok (.iload_n 1, 1) := by decide +kernel
theorem dX9_chainOf_47 : decode cX9_chainOf 47 = .ok (.iaload, 1) := by decide +kernel
theorem dX9_chainOf_48 : decode cX9_chainOf 48 = .ok (.sipush 400, 3) := by decide +kernel
theorem dX9_chainOf_51 : decode cX9_chainOf 51 = .ok (.iadd, 1) := by decide +kernel
theorem dX9_chainOf_52 : decode cX9_chainOf 52 = .ok (.if_icmp .ge 76, 3) := by decide +kernel
theorem dX9_chainOf_55 : decode cX9_chainOf 55 = .ok (.iload_n 3, 1) := by decide +kernel
theorem dX9_chainOf_56 : decode cX9_chainOf 56 = .ok (.aload_n 0, 1) := by decide +kernel
theorem dX9_chainOf_57 : decode cX9_chainOf 57 = .ok (.getfield 41, 3) := by decide +kernel
theorem dX9_chainOf_60 : decode cX9_chainOf 60 = .ok (.bipush 12, 2) := by decide +kernel
theorem dX9_chainOf_62 : decode cX9_chainOf 62 = .ok (.aload_n 0, 1) := by decide +kernel
theorem dX9_chainOf_63 : decode cX9_chainOf 63 = .ok (.getfield 38, 3) := by decide +kernel
theorem dX9_chainOf_66 : decode cX9_chainOf 66 = .ok (.iload_n 1, 1) := by decide +kernel
theorem dX9_chainOf_67 : decode cX9_chainOf 67 = .ok (.iaload, 1) := by decide +kernel
theorem dX9_chainOf_68 : decode cX9_chainOf 68 = .ok (.imul, 1) := by decide +kernel
theorem dX9_chainOf_69 : decode cX9_chainOf 69 = .ok (.iload 6, 2) := by decide +kernel
theorem dX9_chainOf_71 : decode cX9_chainOf 71 = .ok (.bipush 12, 2) := by decide +kernel
theorem dX9_chainOf_73 : decode cX9_chainOf 73 = .ok (.irem, 1) := by decide +kernel
theorem dX9_chainOf_74 : decode cX9_chainOf 74 = .ok (.iadd, 1) := by decide +kernel
theorem dX9_chainOf_75 : decode cX9_chainOf 75 = .ok (.iaload, 1) := by decide +kernel
theorem dX9_chainOf_76 : decode cX9_chainOf 76 = .ok (.isub, 1) := by decide +kernel
theorem dX9_chainOf_77 : decode cX9_chainOf 77 = .ok (.istore_n 3, 1) := by decide +kernel
theorem dX9_chainOf_78 : decode cX9_chainOf 78 = .ok (.iload 4, 2) := by decide +kernel
theorem dX9_chainOf_80 : decode cX9_chainOf 80 = .ok (.ifCond .ge 18, 3) := by decide +kernel
theorem dX9_chainOf_83 : decode cX9_chainOf 83 = .ok (.iload_n 3, 1) := by decide +kernel
theorem dX9_chainOf_84 : decode cX9_chainOf 84 = .ok (.aload_n 0, 1) := by decide +kernel
theorem dX9_chainOf_85 : decode cX9_chainOf 85 = .ok (.getfield 35, 3) := by decide +kernel
theorem dX9_chainOf_88 : decode cX9_chainOf 88 = .ok (.iload_n 1, 1) := by decide +kernel
theorem dX9_chainOf_89 : decode cX9_chainOf 89 = .ok (.iaload, 1) := by decide +kernel
theorem dX9_chainOf_90 : decode cX9_chainOf 90 = .ok (.if_icmp .ge 8, 3) := by decide +kernel
theorem dX9_chainOf_93 : decode cX9_chainOf 93 = .ok (.iload 6, 2) := by decide +kernel
theorem dX9_chainOf_95 : decode cX9_chainOf 95 = .ok (.goto 5, 3) := by decide +kernel
theorem dX9_chainOf_98 : decode cX9_chainOf 98 = .ok (.iload 4, 2) := by decide +kernel
theorem dX9_chainOf_100 : decode cX9_chainOf 100 = .ok (.istore 4, 2) := by decide +kernel
theorem dX9_chainOf_102 : decode cX9_chainOf 102 = .ok (.iload 6, 2) := by decide +kernel
theorem dX9_chainOf_104 : decode cX9_chainOf 104 = .ok (.aload_n 0, 1) := by decide +kernel
theorem dX9_chainOf_105 : decode cX9_chainOf 105 = .ok (.getfield 131, 3) := by decide +kernel
theorem dX9_chainOf_108 : decode cX9_chainOf 108 = .ok (.bipush 30, 2) := by decide +kernel
theorem dX9_chainOf_110 : decode cX9_chainOf 110 = .ok (.idiv, 1) := by decide +kernel
theorem dX9_chainOf_111 : decode cX9_chainOf 111 = .ok (.if_icmp .ne 7, 3) := by decide +kernel
theorem dX9_chainOf_114 : decode cX9_chainOf 114 = .ok (.iload_n 3, 1) := by decide +kernel
theorem dX9_chainOf_115 : decode cX9_chainOf 115 = .ok (.goto 5, 3) := by decide +kernel
theorem dX9_chainOf_118 : decode cX9_chainOf 118 = .ok (.iload 5, 2) := by decide +kernel
theorem dX9_chainOf_120 : decode cX9_chainOf 120 = .ok (.istore 5, 2) := by decide +kernel
theorem dX9_chainOf_122 : decode cX9_chainOf 122 = .ok (.iinc 6 1, 3) := by decide +kernel
theorem dX9_chainOf_125 : decode cX9_chainOf 125 = .ok (.goto (-85), 3) := by decide +kernel
theorem dX9_chainOf_128 : decode cX9_chainOf 128 = .ok (.iload_n 2, 1) := by decide +kernel
theorem dX9_chainOf_129 : decode cX9_chainOf 129 = .ok (.ifCond .ne 17, 3) := by decide +kernel
theorem dX9_chainOf_132 : decode cX9_chainOf 132 = .ok (.iload 5, 2) := by decide +kernel
theorem dX9_chainOf_134 : decode cX9_chainOf 134 = .ok (.ifCond .ge 7, 3) := by decide +kernel
theorem dX9_chainOf_137 : decode cX9_chainOf 137 = .ok (.iconst 0, 1) := by decide +kernel
theorem dX9_chainOf_138 : decode cX9_chainOf 138 = .ok (.goto 33, 3) := by decide +kernel
theorem dX9_chainOf_141 : decode cX9_chainOf 141 = .ok (.iload 5, 2) := by decide +kernel
theorem dX9_chainOf_143 : decode cX9_chainOf 143 = .ok (.goto 28, 3) := by decide +kernel
theorem dX9_chainOf_146 : decode cX9_chainOf 146 = .ok (.iload_n 2, 1) := by decide +kernel
theorem dX9_chainOf_147 : decode cX9_chainOf 147 = .ok (.iconst 1, 1) := by decide +kernel
theorem dX9_chainOf_148 : decode cX9_chainOf 148 = .ok (.if_icmp .ne 8, 3) := by decide +kernel
theorem dX9_chainOf_151 : decode cX9_chainOf 151 = .ok (.iload 4, 2) := by decide +kernel
theorem dX9_chainOf_153 : decode cX9_chainOf 153 = .ok (.goto 18, 3) := by decide +kernel
theorem dX9_chainOf_156 : decode cX9_chainOf 156 = .ok (.iload_n 2, 1) := by decide +kernel
theorem dX9_chainOf_157 : decode cX9_chainOf 157 = .ok (.iconst 2, 1) := by decide +kernel
theorem dX9_chainOf_158 : decode cX9_chainOf 158 = .ok (.if_icmp .ne 12, 3) := by decide +kernel
theorem dX9_chainOf_161 : decode cX9_chainOf 161 = .ok (.aload_n 0, 1) := by decide +kernel
theorem dX9_chainOf_162 : decode cX9_chainOf 162 = .ok (.getfield 29, 3) := by decide +kernel
theorem dX9_chainOf_165 : decode cX9_chainOf 165 = .ok (.iload_n 1, 1) := by decide +kernel
theorem dX9_chainOf_166 : decode cX9_chainOf 166 = .ok (.iaload, 1) := by decide +kernel
theorem dX9_chainOf_167 : decode cX9_chainOf 167 = .ok (.goto 4, 3) := by decide +kernel
theorem dX9_chainOf_170 : decode cX9_chainOf 170 = .ok (.iconst (-1), 1) := by decide +kernel
theorem dX9_chainOf_171 : decode cX9_chainOf 171 = .ok (.ireturn, 1) := by decide +kernel
theorem dX9_isAlike_0 : decode cX9_isAlike 0 = .ok (.iconst 0, 1) := by decide +kernel
theorem dX9_isAlike_1 : decode cX9_isAlike 1 = .ok (.istore_n 3, 1) := by decide +kernel
theorem dX9_isAlike_2 : decode cX9_isAlike 2 = .ok (.iconst 0, 1) := by decide +kernel
theorem dX9_isAlike_3 : decode cX9_isAlike 3 = .ok (.istore 4, 2) := by decide +kernel
theorem dX9_isAlike_5 : decode cX9_isAlike 5 = .ok (.iload 4, 2) := by decide +kernel
theorem dX9_isAlike_7 : decode cX9_isAlike 7 = .ok (.aload_n 0, 1) := by decide +kernel
theorem dX9_isAlike_8 : decode cX9_isAlike 8 = .ok (.getfield 44, 3) := by decide +kernel
theorem dX9_isAlike_11 : decode cX9_isAlike 11 = .ok (.iload_n 1, 1) := by decide +kernel
theorem dX9_isAlike_12 : decode cX9_isAlike 12 = .ok (.iaload, 1) := by decide +kernel
theorem dX9_isAlike_13 : decode cX9_isAlike 13 = .ok (.if_icmp .ge 115, 3) := by decide +kernel
theorem dX9_isAlike_16 : decode cX9_isAlike 16 = .ok (.aload_n 0, 1) := by decide +kernel
theorem dX9_isAlike_17 : decode cX9_isAlike 17 = .ok (.getfield 44, 3) := by decide +kernel
theorem dX9_isAlike_20 : decode cX9_isAlike 20 = .ok (.iload_n 1, 1) := by decide +kernel
theorem dX9_isAlike_21 : decode cX9_isAlike 21 = .ok (.iaload, 1) := by decide +kernel
theorem dX9_isAlike_22 : decode cX9_isAlike 22 = .ok (.aload_n 0, 1) := by decide +kernel
theorem dX9_isAlike_23 : decode cX9_isAlike 23 = .ok (.getfield 44, 3) := by decide +kernel
theorem dX9_isAlike_26 : decode cX9_isAlike 26 = .ok (.iload_n 2, 1) := by decide +kernel
theorem dX9_isAlike_27 : decode cX9_isAlike 27 = .ok (.iaload, 1) := by decide +kernel
theorem dX9_isAlike_28 : decode cX9_isAlike 28 = .ok (.if_icmp .ne 7, 3) := by decide +kernel
theorem dX9_isAlike_31 : decode cX9_isAlike 31 = .ok (.iconst 1, 1) := by decide +kernel
theorem dX9_isAlike_32 : decode cX9_isAlike 32 = .ok (.goto 4, 3) := by decide +kernel
theorem dX9_isAlike_35 : decode cX9_isAlike 35 = .ok (.iconst 0, 1) := by decide +kernel
theorem dX9_isAlike_36 : decode cX9_isAlike 36 = .ok (.istore 5, 2) := by decide +kernel
theorem dX9_isAlike_38 : decode cX9_isAlike 38 = .ok (.iconst 0, 1) := by decide +kernel
theorem dX9_isAlike_39 : decode cX9_isAlike 39 = .ok (.istore 6, 2) := by decide +kernel
theorem dX9_isAlike_41 : decode cX9_isAlike 41 = .ok (.iload 6, 2) := by decide +kernel
theorem dX9_isAlike_43 : decode cX9_isAlike 43 = .ok (.aload_n 0, 1) := by decide +kernel
theorem dX9_isAlike_44 : decode cX9_isAlike 44 = .ok (.getfield 44, 3) := by decide +kernel
theorem dX9_isAlike_47 : decode cX9_isAlike 47 = .ok (.iload_n 1, 1) := by decide +kernel
theorem dX9_isAlike_48 : decode cX9_isAlike 48 = .ok (.iaload, 1) := by decide +kernel
theorem dX9_isAlike_49 : decode cX9_isAlike 49 = .ok (.if_icmp .ge 58, 3) := by decide +kernel
theorem dX9_isAlike_52 : decode cX9_isAlike 52 = .ok (.iload 5, 2) := by decide +kernel
theorem dX9_isAlike_54 : decode cX9_isAlike 54 = .ok (.ifCond .eq 53, 3) := by decide +kernel
theorem dX9_isAlike_57 : decode cX9_isAlike 57 = .ok (.aload_n 0, 1) := by decide +kernel
theorem dX9_isAlike_58 : decode cX9_isAlike 58 = .ok (.getfield 47, 3) := by decide +kernel
theorem dX9_isAlike_61 : decode cX9_isAlike 61 = .ok (.bipush 8, 2) := by decide +kernel
theorem dX9_isAlike_63 : decode cX9_isAlike 63 = .ok (.iload_n 1, 1) := by decide +kernel
theorem dX9_isAlike_64 : decode cX9_isAlike 64 = .ok (.imul, 1) := by decide +kernel
theorem dX9_isAlike_65 : decode cX9_isAlike 65 = .ok (.iload 4, 2) := by decide +kernel
theorem dX9_isAlike_67 : decode cX9_isAlike 67 = .ok (.iload 6, 2) := by decide +kernel
theorem dX9_isAlike_69 : decode cX9_isAlike 69 = .ok (.iadd, 1) := by decide +kernel
theorem dX9_isAlike_70 : decode cX9_isAlike 70 = .ok (.aload_n 0, 1) := by decide +kernel
theorem dX9_isAlike_71 : decode cX9_isAlike 71 = .ok (.getfield 44, 3) := by decide +kernel
theorem dX9_isAlike_74 : decode cX9_isAlike 74 = .ok (.iload_n 1, 1) := by decide +kernel
theorem dX9_isAlike_75 : decode cX9_isAlike 75 = .ok (.iaload, 1) := by decide +kernel
theorem dX9_isAlike_76 : decode cX9_isAlike 76 = .ok (.irem, 1) := by decide +kernel
theorem dX9_isAlike_77 : decode cX9_isAlike 77 = .ok (.iadd, 1) := by decide +kernel
theorem dX9_isAlike_78 : decode cX9_isAlike 78 = .ok (.iaload, 1) := by decide +kernel
theorem dX9_isAlike_79 : decode cX9_isAlike 79 = .ok (.aload_n 0, 1) := by decide +kernel
theorem dX9_isAlike_80 : decode cX9_isAlike 80 = .ok (.getfield 47, 3) := by decide +kernel
theorem dX9_isAlike_83 : decode cX9_isAlike 83 = .ok (.bipush 8, 2) := by decide +kernel
theorem dX9_isAlike_85 : decode cX9_isAlike 85 = .ok (.iload_n 2, 1) := by decide +kernel
theorem dX9_isAlike_86 : decode cX9_isAlike 86 = .ok (.imul, 1) := by decide +kernel
theorem dX9_isAlike_87 : decode cX9_isAlike 87 = .ok (.iload 6, 2) := by decide +kernel
theorem dX9_isAlike_89 : decode cX9_isAlike 89 = .ok (.iadd, 1) := by decide +kernel
theorem dX9_isAlike_90 : decode cX9_isAlike 90 = .ok (.iaload, 1) := by decide +kernel
theorem dX9_isAlike_91 : decode cX9_isAlike 91 = .ok (.if_icmp .ne 7, 3) := by decide +kernel
theorem dX9_isAlike_94 : decode cX9_isAlike 94 = .ok (.iconst 1, 1) := by decide +kernel
theorem dX9_isAlike_95 : decode cX9_isAlike 95 = .ok (.goto 4, 3) := by decide +kernel
theorem dX9_isAlike_98 : decode cX9_isAlike 98 = .ok (.iconst 0, 1) := by decide +kernel
theorem dX9_isAlike_99 : decode cX9_isAlike 99 = .ok (.istore 5, 2) := by decide +kernel
theorem dX9_isAlike_101 : decode cX9_isAlike 101 = .ok (.iinc 6 1, 3) := by decide +kernel
theorem dX9_isAlike_104 : decode cX9_isAlike 104 = .ok (.goto (-63), 3) := by decide +kernel
theorem dX9_isAlike_107 : decode cX9_isAlike 107 = .ok (.iload_n 3, 1) := by decide +kernel
theorem dX9_isAlike_108 : decode cX9_isAlike 108 = .ok (.ifCond .ne 8, 3) := by decide +kernel
theorem dX9_isAlike_111 : decode cX9_isAlike 111 = .ok (.iload 5, 2) := by decide +kernel
theorem dX9_isAlike_113 : decode cX9_isAlike 113 = .ok (.ifCond .eq 7, 3) := by decide +kernel
theorem dX9_isAlike_116 : decode cX9_isAlike 116 = .ok (.iconst 1, 1) := by decide +kernel
theorem dX9_isAlike_117 : decode cX9_isAlike 117 = .ok (.goto 4, 3) := by decide +kernel
theorem dX9_isAlike_120 : decode cX9_isAlike 120 = .ok (.iconst 0, 1) := by decide +kernel
theorem dX9_isAlike_121 : decode cX9_isAlike 121 = .ok (.istore_n 3, 1) := by decide +kernel
theorem dX9_isAlike_122 : decode cX9_isAlike 122 = .ok (.iinc 4 2, 3) := by decide +kernel
theorem dX9_isAlike_125 : decode cX9_isAlike 125 = .ok (.goto (-120), 3) := by decide +kernel
theorem dX9_isAlike_128 : decode cX9_isAlike 128 = .ok (.iload_n 3, 1) := by decide +kernel
theorem dX9_isAlike_129 : decode cX9_isAlike 129 = .ok (.ireturn, 1) := by decide +kernel
theorem mwX9_isNear_0 : (.code yX9_square cX9_square 2 (some .int) : Cond) ∈ wsX9_isNear := (List.mem_cons_of_mem _ (List.mem_append_left _ (memL 5 rfl)))
set_option maxRecDepth 20000 in
theorem sbX9_isNear_X9_square : SubW wsX9_square wsX9_isNear := (subW_cons mwX9_isNear_0 subW_nil)
set_option maxRecDepth 20000 in
theorem gw_wsX9_isNear : goodW wsX9_isNear := (goodW_cons rfl (goodW_app (goodW_of (by decide +kernel)) gw_wsX90))
theorem ggX9_isNear_X9_square : GoodIn wsX9_isNear wsX9_square := goodIn_W gw_wsX9_isNear sbX9_isNear_X9_square
theorem mwX9_isNear_1 : (.initialized RX9 : Cond) ∈ wsX9_isNear := (List.mem_cons_of_mem _ (List.mem_append_left _ (memL 4 rfl)))
theorem mwX9_isNear_2 : (.static yX9_square : Cond) ∈ wsX9_isNear := (List.mem_cons_of_mem _ (List.mem_append_left _ (memL 3 rfl)))
theorem mwX9_isNear_3 : (.methodLink RX9 127 yX9_square : Cond) ∈ wsX9_isNear := (List.mem_cons_of_mem _ (List.mem_append_left _ (memL 2 rfl)))
theorem gX9_isNear_X9_square : GoodIn wsX9_isNear (va_wsS RX9 127 yX9_square wsX9_square) := goodIn_W gw_wsX9_isNear (subW_app (subW_cons mwX9_isNear_3 (subW_cons mwX9_isNear_2 (subW_cons mwX9_isNear_1 subW_nil))) sbX9_isNear_X9_square)
theorem dX9_isNear_0 : decode cX9_isNear 0 = .ok (.iload_n 1, 1) := by decide +kernel
theorem dX9_isNear_1 : decode cX9_isNear 1 = .ok (.iload_n 2, 1) := by decide +kernel
theorem dX9_isNear_2 : decode cX9_isNear 2 = .ok (.if_icmp .eq 40, 3) := by decide +kernel
theorem dX9_isNear_5 : decode cX9_isNear 5 = .ok (.aload_n 0, 1) := by decide +kernel
theorem dX9_isNear_6 : decode cX9_isNear 6 = .ok (.getfield 13, 3) := by decide +kernel
theorem dX9_isNear_9 : decode cX9_isNear 9 = .ok (.iload_n 1, 1) := by decide +kernel
theorem dX9_isNear_10 : decode cX9_isNear 10 = .ok (.iaload, 1) := by decide +kernel
theorem dX9_isNear_11 : decode cX9_isNear 11 = .ok (.aload_n 0, 1) := by decide +kernel
theorem dX9_isNear_12 : decode cX9_isNear 12 = .ok (.getfield 13, 3) := by decide +kernel
theorem dX9_isNear_15 : decode cX9_isNear 15 = .ok (.iload_n 2, 1) := by decide +kernel
theorem dX9_isNear_16 : decode cX9_isNear 16 = .ok (.iaload, 1) := by decide +kernel
theorem dX9_isNear_17 : decode cX9_isNear 17 = .ok (.isub, 1) := by decide +kernel
theorem dX9_isNear_18 : decode cX9_isNear 18 = .ok (.aload_n 0, 1) := by decide +kernel
theorem dX9_isNear_19 : decode cX9_isNear 19 = .ok (.getfield 16, 3) := by decide +kernel
theorem dX9_isNear_22 : decode cX9_isNear 22 = .ok (.iload_n 1, 1) := by decide +kernel
theorem dX9_isNear_23 : decode cX9_isNear 23 = .ok (.iaload, 1) := by decide +kernel
theorem dX9_isNear_24 : decode cX9_isNear 24 = .ok (.aload_n 0, 1) := by decide +kernel
theorem dX9_isNear_25 : decode cX9_isNear 25 = .ok (.getfield 16, 3) := by decide +kernel
theorem dX9_isNear_28 : decode cX9_isNear 28 = .ok (.iload_n 2, 1) := by decide +kernel
theorem dX9_isNear_29 : decode cX9_isNear 29 = .ok (.iaload, 1) := by decide +kernel
theorem dX9_isNear_30 : decode cX9_isNear 30 = .ok (.isub, 1) := by decide +kernel
theorem dX9_isNear_31 : decode cX9_isNear 31 = .ok (.invokestatic 127, 3) := by decide +kernel
theorem dX9_isNear_34 : decode cX9_isNear 34 = .ok (.iload_n 3, 1) := by decide +kernel
theorem dX9_isNear_35 : decode cX9_isNear 35 = .ok (.if_icmp .gt 7, 3) := by decide +kernel
theorem dX9_isNear_38 : decode cX9_isNear 38 = .ok (.iconst 1, 1) := by decide +kernel
theorem dX9_isNear_39 : decode cX9_isNear 39 = .ok (.goto 4, 3) := by decide +kernel
theorem dX9_isNear_42 : decode cX9_isNear 42 = .ok (.iconst 0, 1) := by decide +kernel
theorem dX9_isNear_43 : decode cX9_isNear 43 = .ok (.ireturn, 1) := by decide +kernel
theorem mwX9_clashes_0 : (.code yX9_isNear cX9_isNear 4 (some .boolean) : Cond) ∈ wsX9_clashes := (List.mem_cons_of_mem _ (List.mem_append_left _ (memL 5 rfl)))
theorem mwX9_clashes_1 : (.code yX9_square cX9_square 2 (some .int) : Cond) ∈ wsX9_clashes := (List.mem_cons_of_mem _ (List.mem_append_left _ (memL 10 rfl)))
theorem mwX9_clashes_2 : (.initialized RX9 : Cond) ∈ wsX9_clashes := (List.mem_cons_of_mem _ (List.mem_append_left _ (memL 4 rfl)))
theorem mwX9_clashes_3 : (.static yX9_square : Cond) ∈ wsX9_clashes := (List.mem_cons_of_mem _ (List.mem_append_left _ (memL 9 rfl)))
theorem mwX9_clashes_4 : (.methodLink RX9 127 yX9_square : Cond) ∈ wsX9_clashes := (List.mem_cons_of_mem _ (List.mem_append_left _ (memL 8 rfl)))
theorem mwX9_clashes_5 : (.fieldLink RX9 16 "BuoyTenderModel" "stationY" "[I" : Cond) ∈ wsX9_clashes := (List.mem_cons_of_mem _ (List.mem_append_left _ (memL 7 rfl)))
theorem mwX9_clashes_6 : (.fieldLink RX9 13 "BuoyTenderModel" "stationX" "[I" : Cond) ∈ wsX9_clashes := (List.mem_cons_of_mem _ (List.mem_append_left _ (memL 6 rfl)))
set_option maxRecDepth 20000 in
theorem sbX9_clashes_X90 : SubW wsX90 wsX9_clashes := fun _ h => (List.mem_cons_of_mem _ (List.mem_append_right _ h))
set_option maxRecDepth 20000 in
theorem sbX9_clashes_X9_isNear : SubW wsX9_isNear wsX9_clashes := (subW_cons mwX9_clashes_0 (subW_app (subW_cons mwX9_clashes_6 (subW_cons mwX9_clashes_5 (subW_cons mwX9_clashes_4 (subW_cons mwX9_clashes_3 (subW_cons mwX9_clashes_2 (subW_cons mwX9_clashes_1 subW_nil)))))) sbX9_clashes_X90))
set_option maxRecDepth 20000 in
theorem gw_wsX9_clashes : goodW wsX9_clashes := (goodW_cons rfl (goodW_app (goodW_of (by decide +kernel)) gw_wsX90))
theorem ggX9_clashes_X9_isNear : GoodIn wsX9_clashes wsX9_isNear := goodIn_W gw_wsX9_clashes sbX9_clashes_X9_isNear
theorem mwX9_clashes_7 : (.selects RX9 yX9_isNear yX9_isNear : Cond) ∈ wsX9_clashes := (List.mem_cons_of_mem _ (List.mem_append_left _ (memL 3 rfl)))
theorem mwX9_clashes_8 : (.instanceMethod yX9_isNear : Cond) ∈ wsX9_clashes := (List.mem_cons_of_mem _ (List.mem_append_left _ (memL 2 rfl)))
theorem mwX9_clashes_9 : (.methodLink RX9 134 yX9_isNear : Cond) ∈ wsX9_clashes := (List.mem_cons_of_mem _ (List.mem_append_left _ (memL 1 rfl)))
theorem gX9_clashes_X9_isNear : GoodIn wsX9_clashes (wsV RX9 134 RX9 yX9_isNear wsX9_isNear) := goodIn_W gw_wsX9_clashes (subW_app (subW_cons mwX9_clashes_9 (subW_cons mwX9_clashes_8 (subW_cons mwX9_clashes_7 (subW_cons mwX9_clashes_2 subW_nil)))) sbX9_clashes_X9_isNear)
theorem mwX9_clashes_10 : (.code yX9_isAlike cX9_isAlike 7 (some .boolean) : Cond) ∈ wsX9_clashes := (List.mem_cons_of_mem _ (List.mem_append_left _ (memL 14 rfl)))
theorem mwX9_clashes_11 : (.fieldLink RX9 47 "BuoyTenderModel" "rhythm" "[I" : Cond) ∈ wsX9_clashes := (List.mem_cons_of_mem _ (List.mem_append_left _ (memL 16 rfl)))
theorem mwX9_clashes_12 : (.fieldLink RX9 44 "BuoyTenderModel" "steps" "[I" : Cond) ∈ wsX9_clashes := (List.mem_cons_of_mem _ (List.mem_append_left _ (memL 15 rfl)))
set_option maxRecDepth 20000 in
theorem sbX9_clashes_X9_isAlike : SubW wsX9_isAlike wsX9_clashes := (subW_cons mwX9_clashes_10 (subW_app (subW_cons mwX9_clashes_12 (subW_cons mwX9_clashes_11 subW_nil)) sbX9_clashes_X90))
theorem ggX9_clashes_X9_isAlike : GoodIn wsX9_clashes wsX9_isAlike := goodIn_W gw_wsX9_clashes sbX9_clashes_X9_isAlike
theorem mwX9_clashes_13 : (.selects RX9 yX9_isAlike yX9_isAlike : Cond) ∈ wsX9_clashes := (List.mem_cons_of_mem _ (List.mem_append_left _ (memL 13 rfl)))
theorem mwX9_clashes_14 : (.instanceMethod yX9_isAlike : Cond) ∈ wsX9_clashes := (List.mem_cons_of_mem _ (List.mem_append_left _ (memL 12 rfl)))
theorem mwX9_clashes_15 : (.methodLink RX9 137 yX9_isAlike : Cond) ∈ wsX9_clashes := (List.mem_cons_of_mem _ (List.mem_append_left _ (memL 11 rfl)))
theorem gX9_clashes_X9_isAlike : GoodIn wsX9_clashes (wsV RX9 137 RX9 yX9_isAlike wsX9_isAlike) := goodIn_W gw_wsX9_clashes (subW_app (subW_cons mwX9_clashes_15 (subW_cons mwX9_clashes_14 (subW_cons mwX9_clashes_13 (subW_cons mwX9_clashes_2 subW_nil)))) sbX9_clashes_X9_isAlike)
theorem dX9_clashes_0 : decode cX9_clashes 0 = .ok (.iconst 0, 1) := by decide +kernel
theorem dX9_clashes_1 : decode cX9_clashes 1 = .ok (.istore_n 3, 1) := by decide +kernel
theorem dX9_clashes_2 : decode cX9_clashes 2 = .ok (.iconst 0, 1) := by decide +kernel
theorem dX9_clashes_3 : decode cX9_clashes 3 = .ok (.istore 4, 2) := by decide +kernel
theorem dX9_clashes_5 : decode cX9_clashes 5 = .ok (.iload 4, 2) := by decide +kernel
theorem dX9_clashes_7 : decode cX9_clashes 7 = .ok (.aload_n 0, 1) := by decide +kernel
theorem dX9_clashes_8 : decode cX9_clashes 8 = .ok (.getfield 109, 3) := by decide +kernel
theorem dX9_clashes_11 : decode cX9_clashes 11 = .ok (.if_icmp .ge 40, 3) := by decide +kernel
theorem dX9_clashes_14 : decode cX9_clashes 14 = .ok (.iload_n 3, 1) := by decide +kernel
theorem dX9_clashes_15 : decode cX9_clashes 15 = .ok (.ifCond .ne 24, 3) := by decide +kernel
theorem dX9_clashes_18 : decode cX9_clashes 18 = .ok (.aload_n 0, 1) := by decide +kernel
theorem dX9_clashes_19 : decode cX9_clashes 19 = .ok (.iload_n 1, 1) := by decide +kernel
theorem dX9_clashes_20 : decode cX9_clashes 20 = .ok (.iload 4, 2) := by decide +kernel
theorem dX9_clashes_22 : decode cX9_clashes 22 = .ok (.iload_n 2, 1) := by decide +kernel
theorem dX9_clashes_23 : decode cX9_clashes 23 = .ok (.invokevirtual 134, 3) := by decide +kernel
theorem dX9_clashes_26 : decode cX9_clashes 26 = .ok (.ifCond .eq 17, 3) := by decide +kernel
theorem dX9_clashes_29 : decode cX9_clashes 29 = .ok (.aload_n 0, 1) := by decide +kernel
theorem dX9_clashes_30 : decode cX9_clashes 30 = .ok (.iload_n 1, 1) := by decide +kernel
theorem dX9_clashes_31 : decode cX9_clashes 31 = .ok (.iload 4, 2) := by decide +kernel
theorem dX9_clashes_33 : decode cX9_clashes 33 = .ok (.invokevirtual 137, 3) := by decide +kernel
theorem dX9_clashes_36 : decode cX9_clashes 36 = .ok (.ifCond .eq 7, 3) := by decide +kernel
theorem dX9_clashes_39 : decode cX9_clashes 39 = .ok (.iconst 1, 1) := by decide +kernel
theorem dX9_clashes_40 : decode cX9_clashes 40 = .ok (.goto 4, 3) := by decide +kernel
theorem dX9_clashes_43 : decode cX9_clashes 43 = .ok (.iconst 0, 1) := by decide +kernel
theorem dX9_clashes_44 : decode cX9_clashes 44 = .ok (.istore_n 3, 1) := by decide +kernel
theorem dX9_clashes_45 : decode cX9_clashes 45 = .ok (.iinc 4 1, 3) := by decide +kernel
theorem dX9_clashes_48 : decode cX9_clashes 48 = .ok (.goto (-43), 3) := by decide +kernel
theorem dX9_clashes_51 : decode cX9_clashes 51 = .ok (.iload_n 3, 1) := by decide +kernel
theorem dX9_clashes_52 : decode cX9_clashes 52 = .ok (.ireturn, 1) := by decide +kernel
theorem sbX9_light_X9_light_r1 : SubW wsX9_light_r1 wsX9_light := fun _ h => (List.mem_cons_of_mem _ (List.mem_append_left _ (List.mem_append_left _ h)))
theorem sbX9_light_X9_light_r2 : SubW wsX9_light_r2 wsX9_light := fun _ h => (List.mem_cons_of_mem _ (List.mem_append_left _ (List.mem_append_right _ h)))
theorem mwX9_light_0 : (.code yX9_isMark cX9_isMark 2 (some .boolean) : Cond) ∈ wsX9_light := (sbX9_light_X9_light_r1 _ (memL 8 rfl))
theorem mwX9_light_1 : (.code yX9_in cX9_in 3 (some .boolean) : Cond) ∈ wsX9_light := (sbX9_light_X9_light_r1 _ (memL 12 rfl))
theorem mwX9_light_2 : (.initialized RX9 : Cond) ∈ wsX9_light := (sbX9_light_X9_light_r1 _ (memL 7 rfl))
theorem mwX9_light_3 : (.static yX9_in : Cond) ∈ wsX9_light := (sbX9_light_X9_light_r1 _ (memL 11 rfl))
theorem mwX9_light_4 : (.methodLink RX9 105 yX9_in : Cond) ∈ wsX9_light := (sbX9_light_X9_light_r1 _ (memL 10 rfl))
theorem mwX9_light_5 : (.fieldLink RX9 109 "BuoyTenderModel" "marks" "I" : Cond) ∈ wsX9_light := (sbX9_light_X9_light_r1 _ (memL 9 rfl))
set_option maxRecDepth 20000 in
theorem sbX9_light_X90 : SubW wsX90 wsX9_light := fun _ h => (List.mem_cons_of_mem _ (List.mem_append_right _ h))
set_option maxRecDepth 20000 in
theorem sbX9_light_X9_isMark : SubW wsX9_isMark wsX9_light := (subW_cons mwX9_light_0 (subW_app (subW_cons mwX9_light_5 (subW_cons mwX9_light_4 (subW_cons mwX9_light_3 (subW_cons mwX9_light_2 (subW_cons mwX9_light_1 subW_nil))))) sbX9_light_X90))
set_option maxRecDepth 20000 in
theorem gw_wsX9_light_r1 : goodW wsX9_light_r1 := (goodW_of (by decide +kernel))
set_option maxRecDepth 20000 in
theorem gw_wsX9_light_r2 : goodW wsX9_light_r2 := (goodW_of (by decide +kernel))
set_option maxRecDepth 20000 in
theorem gw_wsX9_light : goodW wsX9_light := (goodW_cons rfl (goodW_app (goodW_app gw_wsX9_light_r1 gw_wsX9_light_r2) gw_wsX90))
theorem ggX9_light_X9_isMark : GoodIn wsX9_light wsX9_isMark := goodIn_W gw_wsX9_light sbX9_light_X9_isMark
theorem mwX9_light_6 : (.selects RX9 yX9_isMark yX9_isMark : Cond) ∈ wsX9_light := (sbX9_light_X9_light_r1 _ (memL 6 rfl))
theorem mwX9_light_7 : (.instanceMethod yX9_isMark : Cond) ∈ wsX9_light := (sbX9_light_X9_light_r1 _ (memL 5 rfl))
theorem mwX9_light_8 : (.methodLink RX9 120 yX9_isMark : Cond) ∈ wsX9_light := (sbX9_light_X9_light_r1 _ (memL 4 rfl))
theorem gX9_light_X9_isMark : GoodIn wsX9_light (wsV RX9 120 RX9 yX9_isMark wsX9_isMark) := goodIn_W gw_wsX9_light (subW_app (subW_cons mwX9_light_8 (subW_cons mwX9_light_7 (subW_cons mwX9_light_6 (subW_cons mwX9_light_2 subW_nil)))) sbX9_light_X9_isMark)
set_option maxRecDepth 20000 in
theorem sbX9_light_X9_in : SubW wsX9_in wsX9_light := (subW_cons mwX9_light_1 subW_nil)
theorem ggX9_light_X9_in : GoodIn wsX9_light wsX9_in := goodIn_W gw_wsX9_light sbX9_light_X9_in
theorem gX9_light_X9_in : GoodIn wsX9_light (va_wsS RX9 105 yX9_in wsX9_in) := goodIn_W gw_wsX9_light (subW_app (subW_cons mwX9_light_4 (subW_cons mwX9_light_3 (subW_cons mwX9_light_2 subW_nil))) sbX9_light_X9_in)
theorem mwX9_light_9 : (.code yX9_clashes cX9_clashes 5 (some .boolean) : Cond) ∈ wsX9_light := (sbX9_light_X9_light_r1 _ (memL 16 rfl))
theorem mwX9_light_10 : (.fieldLink RX9 47 "BuoyTenderModel" "rhythm" "[I" : Cond) ∈ wsX9_light := (sbX9_light_X9_light_r1 _ (memL 2 rfl))
theorem mwX9_light_11 : (.fieldLink RX9 44 "BuoyTenderModel" "steps" "[I" : Cond) ∈ wsX9_light := (sbX9_light_X9_light_r1 _ (memL 0 rfl))
theorem mwX9_light_12 : (.code yX9_isAlike cX9_isAlike 7 (some .boolean) : Cond) ∈ wsX9_light := (sbX9_light_X9_light_r2 _ (memL 5 rfl))
theorem mwX9_light_13 : (.selects RX9 yX9_isAlike yX9_isAlike : Cond) ∈ wsX9_light := (sbX9_light_X9_light_r2 _ (memL 4 rfl))
theorem mwX9_light_14 : (.instanceMethod yX9_isAlike : Cond) ∈ wsX9_light := (sbX9_light_X9_light_r2 _ (memL 3 rfl))
theorem mwX9_light_15 : (.methodLink RX9 137 yX9_isAlike : Cond) ∈ wsX9_light := (sbX9_light_X9_light_r2 _ (memL 2 rfl))
theorem mwX9_light_16 : (.code yX9_square cX9_square 2 (some .int) : Cond) ∈ wsX9_light := (sbX9_light_X9_light_r2 _ (memL 1 rfl))
theorem mwX9_light_17 : (.static yX9_square : Cond) ∈ wsX9_light := (sbX9_light_X9_light_r2 _ (memL 0 rfl))
theorem mwX9_light_18 : (.methodLink RX9 127 yX9_square : Cond) ∈ wsX9_light := (sbX9_light_X9_light_r1 _ (memL 23 rfl))
theorem mwX9_light_19 : (.fieldLink RX9 16 "BuoyTenderModel" "stationY" "[I" : Cond) ∈ wsX9_light := (sbX9_light_X9_light_r1 _ (memL 22 rfl))
theorem mwX9_light_20 : (.fieldLink RX9 13 "BuoyTenderModel" "stationX" "[I" : Cond) ∈ wsX9_light := (sbX9_light_X9_light_r1 _ (memL 21 rfl))
theorem mwX9_light_21 : (.code yX9_isNear cX9_isNear 4 (some .boolean) : Cond) ∈ wsX9_light := (sbX9_light_X9_light_r1 _ (memL 20 rfl))
theorem mwX9_light_22 : (.selects RX9 yX9_isNear yX9_isNear : Cond) ∈ wsX9_light := (sbX9_light_X9_light_r1 _ (memL 19 rfl))
theorem mwX9_light_23 : (.instanceMethod yX9_isNear : Cond) ∈ wsX9_light := (sbX9_light_X9_light_r1 _ (memL 18 rfl))
theorem mwX9_light_24 : (.methodLink RX9 134 yX9_isNear : Cond) ∈ wsX9_light := (sbX9_light_X9_light_r1 _ (memL 17 rfl))
set_option maxRecDepth 20000 in
theorem sbX9_light_X9_clashes : SubW wsX9_clashes wsX9_light := (subW_cons mwX9_light_9 (subW_app (subW_cons mwX9_light_5 (subW_cons mwX9_light_24 (subW_cons mwX9_light_23 (subW_cons mwX9_light_22 (subW_cons mwX9_light_2 (subW_cons mwX9_light_21 (subW_cons mwX9_light_20 (subW_cons mwX9_light_19 (subW_cons mwX9_light_18 (subW_cons mwX9_light_17 (subW_cons mwX9_light_16 (subW_cons mwX9_light_15 (subW_cons mwX9_light_14 (subW_cons mwX9_light_13 (subW_cons mwX9_light_12 (subW_cons mwX9_light_11 (subW_cons mwX9_light_10 subW_nil))))))))))))))))) sbX9_light_X90))
theorem ggX9_light_X9_clashes : GoodIn wsX9_light wsX9_clashes := goodIn_W gw_wsX9_light sbX9_light_X9_clashes
theorem mwX9_light_25 : (.selects RX9 yX9_clashes yX9_clashes : Cond) ∈ wsX9_light := (sbX9_light_X9_light_r1 _ (memL 15 rfl))
theorem mwX9_light_26 : (.instanceMethod yX9_clashes : Cond) ∈ wsX9_light := (sbX9_light_X9_light_r1 _ (memL 14 rfl))
theorem mwX9_light_27 : (.methodLink RX9 143 yX9_clashes : Cond) ∈ wsX9_light := (sbX9_light_X9_light_r1 _ (memL 13 rfl))
theorem gX9_light_X9_clashes : GoodIn wsX9_light (wsV RX9 143 RX9 yX9_clashes wsX9_clashes) := goodIn_W gw_wsX9_light (subW_app (subW_cons mwX9_light_27 (subW_cons mwX9_light_26 (subW_cons mwX9_light_25 (subW_cons mwX9_light_2 subW_nil)))) sbX9_light_X9_clashes)
theorem dX9_light_0 : decode cX9_light 0 = .ok (.aload_n 0, 1) := by decide +kernel
theorem dX9_light_1 : decode cX9_light 1 = .ok (.iload_n 1, 1) := by decide +kernel
theorem dX9_light_2 : decode cX9_light 2 = .ok (.invokevirtual 120, 3) := by decide +kernel
theorem dX9_light_5 : decode cX9_light 5 = .ok (.ifCond .eq 20, 3) := by decide +kernel
theorem dX9_light_8 : decode cX9_light 8 = .ok (.iload_n 2, 1) := by decide +kernel
theorem dX9_light_9 : decode cX9_light 9 = .ok (.iconst 0, 1) := by decide +kernel
theorem dX9_light_10 : decode cX9_light 10 = .ok (.bipush 8, 2) := by decide +kernel
theorem dX9_light_12 : decode cX9_light 12 = .ok (.invokestatic 105, 3) := by decide +kernel
theorem dX9_light_15 : decode cX9_light 15 = .ok (.ifCond .eq 10, 3) := by decide +kernel
theorem dX9_light_18 : decode cX9_light 18 = .ok (.iload_n 2, 1) := by decide +kernel
theorem dX9_light_19 : decode cX9_light 19 = .ok (.iconst 2, 1) := by decide +kernel
theorem dX9_light_20 : decode cX9_light 20 = .ok (.irem, 1) := by decide +kernel
theorem dX9_light_21 : decode cX9_light 21 = .ok (.iconst 1, 1) := by decide +kernel
theorem dX9_light_22 : decode cX9_light 22 = .ok (.if_icmp .ne 5, 3) := by decide +kernel
theorem dX9_light_25 : decode cX9_light 25 = .ok (.iconst 0, 1) := by decide +kernel
theorem dX9_light_26 : decode cX9_light 26 = .ok (.ireturn, 1) := by decide +kernel
theorem dX9_light_27 : decode cX9_light 27 = .ok (.aload_n 0, 1) := by decide +kernel
theorem dX9_light_28 : decode cX9_light 28 = .ok (.getfield 44, 3) := by decide +kernel
theorem dX9_light_31 : decode cX9_light 31 = .ok (.iload_n 1, 1) := by decide +kernel
theorem dX9_light_32 : decode cX9_light 32 = .ok (.iaload, 1) := by decide +kernel
theorem dX9_light_33 : decode cX9_light 33 = .ok (.istore 4, 2) := by decide +kernel
theorem dX9_light_35 : decode cX9_light 35 = .ok (.iload_n 3, 1) := by decide +kernel
theorem dX9_light_36 : decode cX9_light 36 = .ok (.istore 5, 2) := by decide +kernel
theorem dX9_light_38 : decode cX9_light 38 = .ok (.iload_n 2, 1) := by decide +kernel
theorem dX9_light_39 : decode cX9_light 39 = .ok (.ifCond .eq 7, 3) := by decide +kernel
theorem dX9_light_42 : decode cX9_light 42 = .ok (.iload_n 3, 1) := by decide +kernel
theorem dX9_light_43 : decode cX9_light 43 = .ok (.ifCond .le 7, 3) := by decide +kernel
theorem dX9_light_46 : decode cX9_light 46 = .ok (.iconst 1, 1) := by decide +kernel
theorem dX9_light_47 : decode cX9_light 47 = .ok (.goto 4, 3) := by decide +kernel
theorem dX9_light_50 : decode cX9_light 50 = .ok (.iconst 0, 1) := by decide +kernel
theorem dX9_light_51 : decode cX9_light 51 = .ok (.istore 6, 2) := by decide +kernel
theorem dX9_light_53 : decode cX9_light 53 = .ok (.iconst 0, 1) := by decide +kernel
theorem dX9_light_54 : decode cX9_light 54 = .ok (.istore 7, 2) := by decide +kernel
theorem dX9_light_56 : decode cX9_light 56 = .ok (.iload 7, 2) := by decide +kernel
theorem dX9_light_58 : decode cX9_light 58 = .ok (.bipush 8, 2) := by decide +kernel
theorem dX9_light_60 : decode cX9_light 60 = .ok (.if_icmp .ge 28, 3) := by decide +kernel
theorem dX9_light_63 : decode cX9_light 63 = .ok (.aload_n 0, 1) := by decide +kernel
theorem dX9_light_64 : decode cX9_light 64 = .ok (.getfield 87, 3) := by decide +kernel
theorem dX9_light_67 : decode cX9_light 67 = .ok (.iload 7, 2) := by decide +kernel
theorem dX9_light_69 : decode cX9_light 69 = .ok (.aload_n 0, 1) := by decide +kernel
theorem dX9_light_70 : decode cX9_light 70 = .ok (.getfield 47, 3) := by decide +kernel
theorem dX9_light_73 : decode cX9_light 73 = .ok (.bipush 8, 2) := by decide +kernel
theorem dX9_light_75 : decode cX9_light 75 = .ok (.iload_n 1, 1) := by decide +kernel
theorem dX9_light_76 : decode cX9_light 76 = .ok (.imul, 1) := by decide +kernel
theorem dX9_light_77 : decode cX9_light 77 = .ok (.iload 7, 2) := by decide +kernel
theorem dX9_light_79 : decode cX9_light 79 = .ok (.iadd, 1) := by decide +kernel
theorem dX9_light_80 : decode cX9_light 80 = .ok (.iaload, 1) := by decide +kernel
theorem dX9_light_81 : decode cX9_light 81 = .ok (.iastore, 1) := by decide +kernel
theorem dX9_light_82 : decode cX9_light 82 = .ok (.iinc 7 1, 3) := by decide +kernel
theorem dX9_light_85 : decode cX9_light 85 = .ok (.goto (-29), 3) := by decide +kernel
theorem dX9_light_88 : decode cX9_light 88 = .ok (.iconst 0, 1) := by decide +kernel
theorem dX9_light_89 : decode cX9_light 89 = .ok (.istore 7, 2) := by decide +kernel
theorem dX9_light_91 : decode cX9_light 91 = .ok (.iload 7, 2) := by decide +kernel
theorem dX9_light_93 : decode cX9_light 93 = .ok (.iload_n 2, 1) := by decide +kernel
theorem dX9_light_94 : decode cX9_light 94 = .ok (.if_icmp .ge 53, 3) := by decide +kernel
theorem dX9_light_97 : decode cX9_light 97 = .ok (.iload 6, 2) := by decide +kernel
theorem dX9_light_99 : decode cX9_light 99 = .ok (.ifCond .eq 48, 3) := by decide +kernel
theorem dX9_light_102 : decode cX9_light 102 = .ok (.aload_n 0, 1) := by decide +kernel
theorem dX9_light_103 : decode cX9_light 103 = .ok (.getfield 47, 3) := by decide +kernel
theorem dX9_light_106 : decode cX9_light 106 = .ok (.bipush 8, 2) := by decide +kernel
theorem dX9_light_108 : decode cX9_light 108 = .ok (.iload_n 1, 1) := by decide +kernel
theorem dX9_light_109 : decode cX9_light 109 = .ok (.imul, 1) := by decide +kernel
theorem dX9_light_110 : decode cX9_light 110 = .ok (.iload 7, 2) := by decide +kernel
theorem dX9_light_112 : decode cX9_light 112 = .ok (.iadd, 1) := by decide +kernel
theorem dX9_light_113 : decode cX9_light 113 = .ok (.iload 5, 2) := by decide +kernel
theorem dX9_light_115 : decode cX9_light 115 = .ok (.bipush 10, 2) := by decide +kernel
theorem dX9_light_117 : decode cX9_light 117 = .ok (.irem, 1) := by decide +kernel
theorem dX9_light_118 : decode cX9_light 118 = .ok (.iastore, 1) := by decide +kernel
theorem dX9_light_119 : decode cX9_light 119 = .ok (.iload 5, 2) := by decide +kernel
theorem dX9_light_121 : decode cX9_light 121 = .ok (.bipush 10, 2) := by decide +kernel
theorem dX9_light_123 : decode cX9_light 123 = .ok (.irem, 1) := by decide +kernel
theorem dX9_light_124 : decode cX9_light 124 = .ok (.ifCond .le 7, 3) := by decide +kernel
theorem dX9_light_127 : decode cX9_light 127 = .ok (.iconst 1, 1) := by decide +kernel
theorem dX9_light_128 : decode cX9_light 128 = .ok (.goto 4, 3) := by decide +kernel
theorem dX9_light_131 : decode cX9_light 131 = .ok (.iconst 0, 1) := by decide +kernel
theorem dX9_light_132 : decode cX9_light 132 = .ok (.istore 6, 2) := by decide +kernel
theorem dX9_light_134 : decode cX9_light 134 = .ok (.iload 5, 2) := by decide +kernel
theorem dX9_light_136 : decode cX9_light 136 = .ok (.bipush 10, 2) := by decide +kernel
theorem dX9_light_138 : decode cX9_light 138 = .ok (.idiv, 1) := by decide +kernel
theorem dX9_light_139 : decode cX9_light 139 = .ok (.istore 5, 2) := by decide +kernel
theorem dX9_light_141 : decode cX9_light 141 = .ok (.iinc 7 1, 3) := by decide +kernel
theorem dX9_light_144 : decode cX9_light 144 = .ok (.goto (-53), 3) := by decide +kernel
theorem dX9_light_147 : decode cX9_light 147 = .ok (.aload_n 0, 1) := by decide +kernel
theorem dX9_light_148 : decode cX9_light 148 = .ok (.getfield 44, 3) := by decide +kernel
theorem dX9_light_151 : decode cX9_light 151 = .ok (.iload_n 1, 1) := by decide +kernel
theorem dX9_light_152 : decode cX9_light 152 = .ok (.iload_n 2, 1) := by decide +kernel
theorem dX9_light_153 : decode cX9_light 153 = .ok (.iastore, 1) := by decide +kernel
theorem dX9_light_154 : decode cX9_light 154 = .ok (.iload 6, 2) := by decide +kernel
theorem dX9_light_156 : decode cX9_light 156 = .ok (.ifCond .eq 26, 3) := by decide +kernel
theorem dX9_light_159 : decode cX9_light 159 = .ok (.iload_n 2, 1) := by decide +kernel
theorem dX9_light_160 : decode cX9_light 160 = .ok (.ifCond .eq 8, 3) := by decide +kernel
theorem dX9_light_163 : decode cX9_light 163 = .ok (.iload 5, 2) := by decide +kernel
theorem dX9_light_165 : decode cX9_light 165 = .ok (.ifCond .ne 17, 3) := by decide +kernel
theorem dX9_light_168 : decode cX9_light 168 = .ok (.aload_n 0, 1) := by decide +kernel
theorem dX9_light_169 : decode cX9_light 169 = .ok (.iload_n 1, 1) := by decide +kernel
theorem dX9_light_170 : decode cX9_light 170 = .ok (.aload_n 0, 1) := by decide +kernel
theorem dX9_light_171 : decode cX9_light 171 = .ok (.getfield 140, 3) := by decide +kernel
theorem dX9_light_174 : decode cX9_light 174 = .ok (.invokevirtual 143, 3) := by decide +kernel
theorem dX9_light_177 : decode cX9_light 177 = .ok (.ifCond .ne 5, 3) := by decide +kernel
theorem dX9_light_180 : decode cX9_light 180 = .ok (.iconst 1, 1) := by decide +kernel
theorem dX9_light_181 : decode cX9_light 181 = .ok (.ireturn, 1) := by decide +kernel
theorem dX9_light_182 : decode cX9_light 182 = .ok (.aload_n 0, 1) := by decide +kernel
theorem dX9_light_183 : decode cX9_light 183 = .ok (.getfield 44, 3) := by decide +kernel
theorem dX9_light_186 : decode cX9_light 186 = .ok (.iload_n 1, 1) := by decide +kernel
theorem dX9_light_187 : decode cX9_light 187 = .ok (.iload 4, 2) := by decide +kernel
theorem dX9_light_189 : decode cX9_light 189 = .ok (.iastore, 1) := by decide +kernel
theorem dX9_light_190 : decode cX9_light 190 = .ok (.iconst 0, 1) := by decide +kernel
theorem dX9_light_191 : decode cX9_light 191 = .ok (.istore 7, 2) := by decide +kernel
theorem dX9_light_193 : decode cX9_light 193 = .ok (.iload 7, 2) := by decide +kernel
theorem dX9_light_195 : decode cX9_light 195 = .ok (.bipush 8, 2) := by decide +kernel
theorem dX9_light_197 : decode cX9_light 197 = .ok (.if_icmp .ge 28, 3) := by decide +kernel
theorem dX9_light_200 : decode cX9_light 200 = .ok (.aload_n 0, 1) := by decide +kernel
