set_option maxRecDepth 20000 in
theorem ggX9_plans_X9_joins : GoodIn wsX9_plans wsX9_joins := goodIn_r _ [13, 14, 15, 16, 17, 18, 19, 20, 21, 22, 23, 2, 4, 24, 25, 26, 12, 27, 28, 29, 30, 31, 32, 33, 34, 35, 36, 37, 38, 39, 40, 41, 42, 43, 44, 45, 46, 47, 48, 49, 50, 51, 52, 53, 54, 55, 56, 57, 58, 59, 60, 61, 62, 63, 64, 65, 66, 67, 68, 69, 70, 71, 72, 89, 90, 91, 92, 93, 94, 95, 96, 97, 98, 99, 100, 101, 102, 103, 104, 105, 106, 107, 108, 109, 110, 111, 112, 113, 114, 115, 116, 117, 118, 119, 120, 121, 122, 123, 124, 125] (by decide +kernel) (by decide +kernel)
set_option maxRecDepth 20000 in
theorem gX9_plans_X9_joins : GoodIn wsX9_plans (wsV RX9 174 RX9 yX9_joins wsX9_joins) := goodIn_app (goodIn_of _ (by decide +kernel)) ggX9_plans_X9_joins
set_option maxRecDepth 20000 in
theorem ggX9_plans_X9_isLittleKnown : GoodIn wsX9_plans wsX9_isLittleKnown := goodIn_r _ [76, 14, 15, 38, 39, 40, 12, 41, 42, 35, 43, 44, 45, 46, 47, 37, 48, 28, 49, 50, 51, 89, 90, 91, 92, 93, 94, 95, 96, 97, 98, 99, 100, 101, 102, 103, 104, 105, 106, 107, 108, 109, 110, 111, 112, 113, 114, 115, 116, 117, 118, 119, 120, 121, 122, 123, 124, 125] (by decide +kernel) (by decide +kernel)
set_option maxRecDepth 20000 in
theorem gX9_plans_X9_isLittleKnown : GoodIn wsX9_plans (wsV RX9 180 RX9 yX9_isLittleKnown wsX9_isLittleKnown) := goodIn_app (goodIn_of _ (by decide +kernel)) ggX9_plans_X9_isLittleKnown
set_option maxRecDepth 20000 in
theorem ggX9_plans_X9_minutesOf : GoodIn wsX9_plans wsX9_minutesOf := goodIn_r _ [80, 81, 82, 83, 12, 84, 14, 15, 49, 50, 51, 89, 90, 91, 92, 93, 94, 95, 96, 97, 98, 99, 100, 101, 102, 103, 104, 105, 106, 107, 108, 109, 110, 111, 112, 113, 114, 115, 116, 117, 118, 119, 120, 121, 122, 123, 124, 125] (by decide +kernel) (by decide +kernel)
set_option maxRecDepth 20000 in
theorem gX9_plans_X9_minutesOf : GoodIn wsX9_plans (wsV RX9 177 RX9 yX9_minutesOf wsX9_minutesOf) := goodIn_app (goodIn_of _ (by decide +kernel)) ggX9_plans_X9_minutesOf
set_option maxRecDepth 20000 in
theorem ggX9_plans_X9_isTaken : GoodIn wsX9_plans wsX9_isTaken := goodIn_r _ [88, 1, 5, 89, 90, 91, 92, 93, 94, 95, 96, 97, 98, 99, 100, 101, 102, 103, 104, 105, 106, 107, 108, 109, 110, 111, 112, 113, 114, 115, 116, 117, 118, 119, 120, 121, 122, 123, 124, 125] (by decide +kernel) (by decide +kernel)
set_option maxRecDepth 20000 in
theorem gX9_plans_X9_isTaken : GoodIn wsX9_plans (wsV RX9 186 RX9 yX9_isTaken wsX9_isTaken) := goodIn_app (goodIn_of _ (by decide +kernel)) ggX9_plans_X9_isTaken
set_option maxRecDepth 20000 in
theorem ggX9_plans_X9_scoreOf : GoodIn wsX9_plans wsX9_scoreOf := goodIn_r _ [72, 14, 15, 16, 21, 22, 19, 23, 89, 90, 91, 92, 93, 94, 95, 96, 97, 98, 99, 100, 101, 102, 103, 104, 105, 106, 107, 108, 109, 110, 111, 112, 113, 114, 115, 116, 117, 118, 119, 120, 121, 122, 123, 124, 125] (by decide +kernel) (by decide +kernel)
set_option maxRecDepth 20000 in
theorem gX9_plans_X9_scoreOf : GoodIn wsX9_plans (wsV RX9 168 RX9 yX9_scoreOf wsX9_scoreOf) := goodIn_app (goodIn_of _ (by decide +kernel)) ggX9_plans_X9_scoreOf
theorem dX9_plans_0 : decode cX9_plans 0 = .ok (.aload_n 0, 1) := by decide +kernel
theorem dX9_plans_1 : decode cX9_plans 1 = .ok (.invokevirtual 174, 3) := by decide +kernel
theorem dX9_plans_4 : decode cX9_plans 4 = .ok (.aload_n 0, 1) := by decide +kernel
theorem dX9_plans_5 : decode cX9_plans 5 = .ok (.iconst 0, 1) := by decide +kernel
theorem dX9_plans_6 : decode cX9_plans 6 = .ok (.putfield 183, 3) := by decide +kernel
theorem dX9_plans_9 : decode cX9_plans 9 = .ok (.iload_n 1, 1) := by decide +kernel
theorem dX9_plans_10 : decode cX9_plans 10 = .ok (.istore_n 2, 1) := by decide +kernel
theorem dX9_plans_11 : decode cX9_plans 11 = .ok (.iconst 0, 1) := by decide +kernel
theorem dX9_plans_12 : decode cX9_plans 12 = .ok (.istore_n 3, 1) := by decide +kernel
theorem dX9_plans_13 : decode cX9_plans 13 = .ok (.iload_n 3, 1) := by decide +kernel
theorem dX9_plans_14 : decode cX9_plans 14 = .ok (.aload_n 0, 1) := by decide +kernel
theorem dX9_plans_15 : decode cX9_plans 15 = .ok (.getfield 165, 3) := by decide +kernel
theorem dX9_plans_18 : decode cX9_plans 18 = .ok (.if_icmp .ge 88, 3) := by decide +kernel
theorem dX9_plans_21 : decode cX9_plans 21 = .ok (.aload_n 0, 1) := by decide +kernel
theorem dX9_plans_22 : decode cX9_plans 22 = .ok (.getfield 183, 3) := by decide +kernel
theorem dX9_plans_25 : decode cX9_plans 25 = .ok (.aload_n 0, 1) := by decide +kernel
theorem dX9_plans_26 : decode cX9_plans 26 = .ok (.getfield 114, 3) := by decide +kernel
theorem dX9_plans_29 : decode cX9_plans 29 = .ok (.if_icmp .ge 77, 3) := by decide +kernel
theorem dX9_plans_32 : decode cX9_plans 32 = .ok (.aload_n 0, 1) := by decide +kernel
theorem dX9_plans_33 : decode cX9_plans 33 = .ok (.aload_n 0, 1) := by decide +kernel
theorem dX9_plans_34 : decode cX9_plans 34 = .ok (.getfield 78, 3) := by decide +kernel
theorem dX9_plans_37 : decode cX9_plans 37 = .ok (.iload_n 3, 1) := by decide +kernel
theorem dX9_plans_38 : decode cX9_plans 38 = .ok (.iaload, 1) := by decide +kernel
theorem dX9_plans_39 : decode cX9_plans 39 = .ok (.invokevirtual 180, 3) := by decide +kernel
theorem dX9_plans_42 : decode cX9_plans 42 = .ok (.ifCond .eq 58, 3) := by decide +kernel
theorem dX9_plans_45 : decode cX9_plans 45 = .ok (.aload_n 0, 1) := by decide +kernel
theorem dX9_plans_46 : decode cX9_plans 46 = .ok (.aload_n 0, 1) := by decide +kernel
theorem dX9_plans_47 : decode cX9_plans 47 = .ok (.getfield 78, 3) := by decide +kernel
theorem dX9_plans_50 : decode cX9_plans 50 = .ok (.iload_n 3, 1) := by decide +kernel
theorem dX9_plans_51 : decode cX9_plans 51 = .ok (.iaload, 1) := by decide +kernel
theorem dX9_plans_52 : decode cX9_plans 52 = .ok (.invokevirtual 177, 3) := by decide +kernel
theorem dX9_plans_55 : decode cX9_plans 55 = .ok (.iload_n 2, 1) := by decide +kernel
theorem dX9_plans_56 : decode cX9_plans 56 = .ok (.if_icmp .le 6, 3) := by decide +kernel
theorem dX9_plans_59 : decode cX9_plans 59 = .ok (.goto 41, 3) := by decide +kernel
theorem dX9_plans_62 : decode cX9_plans 62 = .ok (.aload_n 0, 1) := by decide +kernel
theorem dX9_plans_63 : decode cX9_plans 63 = .ok (.getfield 81, 3) := by decide +kernel
theorem dX9_plans_66 : decode cX9_plans 66 = .ok (.aload_n 0, 1) := by decide +kernel
theorem dX9_plans_67 : decode cX9_plans 67 = .ok (.getfield 183, 3) := by decide +kernel
theorem dX9_plans_70 : decode cX9_plans 70 = .ok (.aload_n 0, 1) := by decide +kernel
theorem dX9_plans_71 : decode cX9_plans 71 = .ok (.getfield 78, 3) := by decide +kernel
theorem dX9_plans_74 : decode cX9_plans 74 = .ok (.iload_n 3, 1) := by decide +kernel
theorem dX9_plans_75 : decode cX9_plans 75 = .ok (.iaload, 1) := by decide +kernel
theorem dX9_plans_76 : decode cX9_plans 76 = .ok (.iastore, 1) := by decide +kernel
theorem dX9_plans_77 : decode cX9_plans 77 = .ok (.aload_n 0, 1) := by decide +kernel
theorem dX9_plans_78 : decode cX9_plans 78 = .ok (.dup, 1) := by decide +kernel
theorem dX9_plans_79 : decode cX9_plans 79 = .ok (.getfield 183, 3) := by decide +kernel
theorem dX9_plans_82 : decode cX9_plans 82 = .ok (.iconst 1, 1) := by decide +kernel
theorem dX9_plans_83 : decode cX9_plans 83 = .ok (.iadd, 1) := by decide +kernel
theorem dX9_plans_84 : decode cX9_plans 84 = .ok (.putfield 183, 3) := by decide +kernel
theorem dX9_plans_87 : decode cX9_plans 87 = .ok (.iload_n 2, 1) := by decide +kernel
theorem dX9_plans_88 : decode cX9_plans 88 = .ok (.aload_n 0, 1) := by decide +kernel
theorem dX9_plans_89 : decode cX9_plans 89 = .ok (.aload_n 0, 1) := by decide +kernel
theorem dX9_plans_90 : decode cX9_plans 90 = .ok (.getfield 78, 3) := by decide +kernel
theorem dX9_plans_93 : decode cX9_plans 93 = .ok (.iload_n 3, 1) := by decide +kernel
theorem dX9_plans_94 : decode cX9_plans 94 = .ok (.iaload, 1) := by decide +kernel
theorem dX9_plans_95 : decode cX9_plans 95 = .ok (.invokevirtual 177, 3) := by decide +kernel
theorem dX9_plans_98 : decode cX9_plans 98 = .ok (.isub, 1) := by decide +kernel
theorem dX9_plans_99 : decode cX9_plans 99 = .ok (.istore_n 2, 1) := by decide +kernel
theorem dX9_plans_100 : decode cX9_plans 100 = .ok (.iinc 3 1, 3) := by decide +kernel
theorem dX9_plans_103 : decode cX9_plans 103 = .ok (.goto (-90), 3) := by decide +kernel
theorem dX9_plans_106 : decode cX9_plans 106 = .ok (.iconst 0, 1) := by decide +kernel
theorem dX9_plans_107 : decode cX9_plans 107 = .ok (.istore_n 3, 1) := by decide +kernel
theorem dX9_plans_108 : decode cX9_plans 108 = .ok (.iconst 0, 1) := by decide +kernel
theorem dX9_plans_109 : decode cX9_plans 109 = .ok (.istore 4, 2) := by decide +kernel
theorem dX9_plans_111 : decode cX9_plans 111 = .ok (.iload 4, 2) := by decide +kernel
theorem dX9_plans_113 : decode cX9_plans 113 = .ok (.aload_n 0, 1) := by decide +kernel
theorem dX9_plans_114 : decode cX9_plans 114 = .ok (.getfield 165, 3) := by decide +kernel
theorem dX9_plans_117 : decode cX9_plans 117 = .ok (.if_icmp .ge 82, 3) := by decide +kernel
theorem dX9_plans_120 : decode cX9_plans 120 = .ok (.iload_n 3, 1) := by decide +kernel
theorem dX9_plans_121 : decode cX9_plans 121 = .ok (.bipush 12, 2) := by decide +kernel
theorem dX9_plans_123 : decode cX9_plans 123 = .ok (.if_icmp .ge 76, 3) := by decide +kernel
theorem dX9_plans_126 : decode cX9_plans 126 = .ok (.aload_n 0, 1) := by decide +kernel
theorem dX9_plans_127 : decode cX9_plans 127 = .ok (.aload_n 0, 1) := by decide +kernel
theorem dX9_plans_128 : decode cX9_plans 128 = .ok (.getfield 78, 3) := by decide +kernel
theorem dX9_plans_131 : decode cX9_plans 131 = .ok (.iload 4, 2) := by decide +kernel
theorem dX9_plans_133 : decode cX9_plans 133 = .ok (.iaload, 1) := by decide +kernel
theorem dX9_plans_134 : decode cX9_plans 134 = .ok (.invokevirtual 186, 3) := by decide +kernel
theorem dX9_plans_137 : decode cX9_plans 137 = .ok (.ifCond .eq 6, 3) := by decide +kernel
theorem dX9_plans_140 : decode cX9_plans 140 = .ok (.goto 53, 3) := by decide +kernel
theorem dX9_plans_143 : decode cX9_plans 143 = .ok (.aload_n 0, 1) := by decide +kernel
theorem dX9_plans_144 : decode cX9_plans 144 = .ok (.getfield 84, 3) := by decide +kernel
theorem dX9_plans_147 : decode cX9_plans 147 = .ok (.iload_n 3, 1) := by decide +kernel
theorem dX9_plans_148 : decode cX9_plans 148 = .ok (.aload_n 0, 1) := by decide +kernel
theorem dX9_plans_149 : decode cX9_plans 149 = .ok (.getfield 78, 3) := by decide +kernel
theorem dX9_plans_152 : decode cX9_plans 152 = .ok (.iload 4, 2) := by decide +kernel
theorem dX9_plans_154 : decode cX9_plans 154 = .ok (.iaload, 1) := by decide +kernel
theorem dX9_plans_155 : decode cX9_plans 155 = .ok (.iastore, 1) := by decide +kernel
theorem dX9_plans_156 : decode cX9_plans 156 = .ok (.aload_n 0, 1) := by decide +kernel
theorem dX9_plans_157 : decode cX9_plans 157 = .ok (.getfield 87, 3) := by decide +kernel
theorem dX9_plans_160 : decode cX9_plans 160 = .ok (.iload_n 3, 1) := by decide +kernel
theorem dX9_plans_161 : decode cX9_plans 161 = .ok (.aload_n 0, 1) := by decide +kernel
theorem dX9_plans_162 : decode cX9_plans 162 = .ok (.aload_n 0, 1) := by decide +kernel
theorem dX9_plans_163 : decode cX9_plans 163 = .ok (.getfield 78, 3) := by decide +kernel
theorem dX9_plans_166 : decode cX9_plans 166 = .ok (.iload 4, 2) := by decide +kernel
theorem dX9_plans_168 : decode cX9_plans 168 = .ok (.iaload, 1) := by decide +kernel
theorem dX9_plans_169 : decode cX9_plans 169 = .ok (.invokevirtual 177, 3) := by decide +kernel
theorem dX9_plans_172 : decode cX9_plans 172 = .ok (.iastore, 1) := by decide +kernel
theorem dX9_plans_173 : decode cX9_plans 173 = .ok (.aload_n 0, 1) := by decide +kernel
theorem dX9_plans_174 : decode cX9_plans 174 = .ok (.getfield 90, 3) := by decide +kernel
theorem dX9_plans_177 : decode cX9_plans 177 = .ok (.iload_n 3, 1) := by decide +kernel
theorem dX9_plans_178 : decode cX9_plans 178 = .ok (.aload_n 0, 1) := by decide +kernel
theorem dX9_plans_179 : decode cX9_plans 179 = .ok (.aload_n 0, 1) := by decide +kernel
theorem dX9_plans_180 : decode cX9_plans 180 = .ok (.getfield 78, 3) := by decide +kernel
theorem dX9_plans_183 : decode cX9_plans 183 = .ok (.iload 4, 2) := by decide +kernel
theorem dX9_plans_185 : decode cX9_plans 185 = .ok (.iaload, 1) := by decide +kernel
theorem dX9_plans_186 : decode cX9_plans 186 = .ok (.invokevirtual 168, 3) := by decide +kernel
theorem dX9_plans_189 : decode cX9_plans 189 = .ok (.iastore, 1) := by decide +kernel
theorem dX9_plans_190 : decode cX9_plans 190 = .ok (.iinc 3 1, 3) := by decide +kernel
theorem dX9_plans_193 : decode cX9_plans 193 = .ok (.iinc 4 1, 3) := by decide +kernel
theorem dX9_plans_196 : decode cX9_plans 196 = .ok (.goto (-85), 3) := by decide +kernel
theorem dX9_plans_199 : decode cX9_plans 199 = .ok (.iconst 0, 1) := by decide +kernel
theorem dX9_plans_200 : decode cX9_plans 200 = .ok (.istore 4, 2) := by decide +kernel
theorem dX9_plans_202 : decode cX9_plans 202 = .ok (.iconst 0, 1) := by decide +kernel
theorem dX9_plans_203 : decode cX9_plans 203 = .ok (.istore 5, 2) := by decide +kernel
theorem dX9_plans_205 : decode cX9_plans 205 = .ok (.iconst 1, 1) := by decide +kernel
theorem dX9_plans_206 : decode cX9_plans 206 = .ok (.istore 6, 2) := by decide +kernel
theorem dX9_plans_208 : decode cX9_plans 208 = .ok (.iload 6, 2) := by decide +kernel
theorem dX9_plans_210 : decode cX9_plans 210 = .ok (.iconst 1, 1) := by decide +kernel
theorem dX9_plans_211 : decode cX9_plans 211 = .ok (.iload_n 3, 1) := by decide +kernel
theorem dX9_plans_212 : decode cX9_plans 212 = .ok (.ishl, 1) := by decide +kernel
theorem dX9_plans_213 : decode cX9_plans 213 = .ok (.if_icmp .ge 91, 3) := by decide +kernel
theorem dX9_plans_216 : decode cX9_plans 216 = .ok (.iconst 0, 1) := by decide +kernel
theorem dX9_plans_217 : decode cX9_plans 217 = .ok (.istore 7, 2) := by decide +kernel
theorem dX9_plans_219 : decode cX9_plans 219 = .ok (.iconst 0, 1) := by decide +kernel
theorem dX9_plans_220 : decode cX9_plans 220 = .ok (.istore 8, 2) := by decide +kernel
theorem dX9_plans_222 : decode cX9_plans 222 = .ok (.iconst 0, 1) := by decide +kernel
theorem dX9_plans_223 : decode cX9_plans 223 = .ok (.istore 9, 2) := by decide +kernel
theorem dX9_plans_225 : decode cX9_plans 225 = .ok (.iload 9, 2) := by decide +kernel
theorem dX9_plans_227 : decode cX9_plans 227 = .ok (.iload_n 3, 1) := by decide +kernel
theorem dX9_plans_228 : decode cX9_plans 228 = .ok (.if_icmp .ge 46, 3) := by decide +kernel
theorem dX9_plans_231 : decode cX9_plans 231 = .ok (.iload 6, 2) := by decide +kernel
theorem dX9_plans_233 : decode cX9_plans 233 = .ok (.iload 9, 2) := by decide +kernel
theorem dX9_plans_235 : decode cX9_plans 235 = .ok (.ishr, 1) := by decide +kernel
theorem dX9_plans_236 : decode cX9_plans 236 = .ok (.iconst 1, 1) := by decide +kernel
theorem dX9_plans_237 : decode cX9_plans 237 = .ok (.iand, 1) := by decide +kernel
theorem dX9_plans_238 : decode cX9_plans 238 = .ok (.ifCond .ne 6, 3) := by decide +kernel
theorem dX9_plans_241 : decode cX9_plans 241 = .ok (.goto 27, 3) := by decide +kernel
theorem dX9_plans_244 : decode cX9_plans 244 = .ok (.iload 7, 2) := by decide +kernel
theorem dX9_plans_246 : decode cX9_plans 246 = .ok (.aload_n 0, 1) := by decide +kernel
theorem dX9_plans_247 : decode cX9_plans 247 = .ok (.getfield 87, 3) := by decide +kernel
theorem dX9_plans_250 : decode cX9_plans 250 = .ok (.iload 9, 2) := by decide +kernel
theorem dX9_plans_252 : decode cX9_plans 252 = .ok (.iaload, 1) := by decide +kernel
theorem dX9_plans_253 : decode cX9_plans 253 = .ok (.iadd, 1) := by decide +kernel
theorem dX9_plans_254 : decode cX9_plans 254 = .ok (.istore 7, 2) := by decide +kernel
theorem dX9_plans_256 : decode cX9_plans 256 = .ok (.iload 8, 2) := by decide +kernel
theorem dX9_plans_258 : decode cX9_plans 258 = .ok (.aload_n 0, 1) := by decide +kernel
theorem dX9_plans_259 : decode cX9_plans 259 = .ok (.getfield 90, 3) := by decide +kernel
theorem dX9_plans_262 : decode cX9_plans 262 = .ok (.iload 9, 2) := by decide +kernel
theorem dX9_plans_264 : decode cX9_plans 264 = .ok (.iaload, 1) := by decide +kernel
theorem dX9_plans_265 : decode cX9_plans 265 = .ok (.iadd, 1) := by decide +kernel
theorem dX9_plans_266 : decode cX9_plans 266 = .ok (.istore 8, 2) := by decide +kernel
theorem dX9_plans_268 : decode cX9_plans 268 = .ok (.iinc 9 1, 3) := by decide +kernel
theorem dX9_plans_271 : decode cX9_plans 271 = .ok (.goto (-46), 3) := by decide +kernel
theorem dX9_plans_274 : decode cX9_plans 274 = .ok (.iload 7, 2) := by decide +kernel
theorem dX9_plans_276 : decode cX9_plans 276 = .ok (.iload_n 2, 1) := by decide +kernel
theorem dX9_plans_277 : decode cX9_plans 277 = .ok (.if_icmp .gt 21, 3) := by decide +kernel
theorem dX9_plans_280 : decode cX9_plans 280 = .ok (.iload 8, 2) := by decide +kernel
theorem dX9_plans_282 : decode cX9_plans 282 = .ok (.iload 5, 2) := by decide +kernel
theorem dX9_plans_284 : decode cX9_plans 284 = .ok (.if_icmp .gt 6, 3) := by decide +kernel
theorem dX9_plans_287 : decode cX9_plans 287 = .ok (.goto 11, 3) := by decide +kernel
theorem dX9_plans_290 : decode cX9_plans 290 = .ok (.iload 6, 2) := by decide +kernel
theorem dX9_plans_292 : decode cX9_plans 292 = .ok (.istore 4, 2) := by decide +kernel
theorem dX9_plans_294 : decode cX9_plans 294 = .ok (.iload 8, 2) := by decide +kernel
theorem dX9_plans_296 : decode cX9_plans 296 = .ok (.istore 5, 2) := by decide +kernel
theorem dX9_plans_298 : decode cX9_plans 298 = .ok (.iinc 6 1, 3) := by decide +kernel
theorem dX9_plans_301 : decode cX9_plans 301 = .ok (.goto (-93), 3) := by decide +kernel
theorem dX9_plans_304 : decode cX9_plans 304 = .ok (.iconst 0, 1) := by decide +kernel
theorem dX9_plans_305 : decode cX9_plans 305 = .ok (.istore 6, 2) := by decide +kernel
theorem dX9_plans_307 : decode cX9_plans 307 = .ok (.iload 6, 2) := by decide +kernel
theorem dX9_plans_309 : decode cX9_plans 309 = .ok (.iload_n 3, 1) := by decide +kernel
theorem dX9_plans_310 : decode cX9_plans 310 = .ok (.if_icmp .ge 48, 3) := by decide +kernel
theorem dX9_plans_313 : decode cX9_plans 313 = .ok (.iload 4, 2) := by decide +kernel
theorem dX9_plans_315 : decode cX9_plans 315 = .ok (.iload 6, 2) := by decide +kernel
theorem dX9_plans_317 : decode cX9_plans 317 = .ok (.ishr, 1) := by decide +kernel
theorem dX9_plans_318 : decode cX9_plans 318 = .ok (.iconst 1, 1) := by decide +kernel
theorem dX9_plans_319 : decode cX9_plans 319 = .ok (.iand, 1) := by decide +kernel
theorem dX9_plans_320 : decode cX9_plans 320 = .ok (.ifCond .ne 6, 3) := by decide +kernel
theorem dX9_plans_323 : decode cX9_plans 323 = .ok (.goto 29, 3) := by decide +kernel
theorem dX9_plans_326 : decode cX9_plans 326 = .ok (.aload_n 0, 1) := by decide +kernel
theorem dX9_plans_327 : decode cX9_plans 327 = .ok (.getfield 81, 3) := by decide +kernel
theorem dX9_plans_330 : decode cX9_plans 330 = .ok (.aload_n 0, 1) := by decide +kernel
theorem dX9_plans_331 : decode cX9_plans 331 = .ok (.getfield 183, 3) := by decide +kernel
theorem dX9_plans_334 : decode cX9_plans 334 = .ok (.aload_n 0, 1) := by decide +kernel
theorem dX9_plans_335 : decode cX9_plans 335 = .ok (.getfield 84, 3) := by decide +kernel
theorem dX9_plans_338 : decode cX9_plans 338 = .ok (.iload 6, 2) := by decide +kernel
theorem dX9_plans_340 : decode cX9_plans 340 = .ok (.iaload, 1) := by decide +kernel
theorem dX9_plans_341 : decode cX9_plans 341 = .ok (.iastore, 1) := by decide +kernel
theorem dX9_plans_342 : decode cX9_plans 342 = .ok (.aload_n 0, 1) := by decide +kernel
theorem dX9_plans_343 : decode cX9_plans 343 = .ok (.dup, 1) := by decide +kernel
theorem dX9_plans_344 : decode cX9_plans 344 = .ok (.getfield 183, 3) := by decide +kernel
theorem dX9_plans_347 : decode cX9_plans 347 = .ok (.iconst 1, 1) := by decide +kernel
theorem dX9_plans_348 : decode cX9_plans 348 = .ok (.iadd, 1) := by decide +kernel
theorem dX9_plans_349 : decode cX9_plans 349 = .ok (.putfield 183, 3) := by decide +kernel
theorem dX9_plans_352 : decode cX9_plans 352 = .ok (.iinc 6 1, 3) := by decide +kernel
theorem dX9_plans_355 : decode cX9_plans 355 = .ok (.goto (-48), 3) := by decide +kernel
theorem dX9_plans_358 : decode cX9_plans 358 = .ok (.return_, 1) := by decide +kernel
