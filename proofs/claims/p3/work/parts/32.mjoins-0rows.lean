set_option maxRecDepth 20000 in
theorem ggX9_joins_X9_isLive : GoodIn wsX9_joins wsX9_isLive := goodIn_r _ [17, 18, 19, 20, 63, 64, 65, 66, 67, 68, 69, 70, 71, 72, 73, 74, 75, 76, 77, 78, 79, 80, 81, 82, 83, 84, 85, 86, 87, 88, 89, 90, 91, 92, 93, 94, 95, 96, 97, 98, 99] (by decide +kernel) (by decide +kernel)
set_option maxRecDepth 20000 in
theorem gX9_joins_X9_isLive : GoodIn wsX9_joins (wsV RX9 103 RX9 yX9_isLive wsX9_isLive) := goodIn_app (goodIn_of _ (by decide +kernel)) ggX9_joins_X9_isLive
set_option maxRecDepth 20000 in
theorem ggX9_joins_X9_score : GoodIn wsX9_joins wsX9_score := goodIn_r _ [24, 25, 26, 27, 28, 29, 30, 16, 31, 32, 33, 34, 35, 36, 37, 38, 1, 18, 39, 40, 41, 63, 64, 65, 66, 67, 68, 69, 70, 71, 72, 73, 74, 75, 76, 77, 78, 79, 80, 81, 82, 83, 84, 85, 86, 87, 88, 89, 90, 91, 92, 93, 94, 95, 96, 97, 98, 99] (by decide +kernel) (by decide +kernel)
set_option maxRecDepth 20000 in
theorem gX9_joins_X9_score : GoodIn wsX9_joins (wsV RX9 152 RX9 yX9_score wsX9_score) := goodIn_app (goodIn_of _ (by decide +kernel)) ggX9_joins_X9_score
set_option maxRecDepth 20000 in
theorem ggX9_joins_X9_hangs : GoodIn wsX9_joins wsX9_hangs := goodIn_r _ [45, 46, 47, 48, 49, 50, 6, 51, 52, 53, 54, 16, 55, 56, 57, 58, 63, 64, 65, 66, 67, 68, 69, 70, 71, 72, 73, 74, 75, 76, 77, 78, 79, 80, 81, 82, 83, 84, 85, 86, 87, 88, 89, 90, 91, 92, 93, 94, 95, 96, 97, 98, 99] (by decide +kernel) (by decide +kernel)
set_option maxRecDepth 20000 in
theorem gX9_joins_X9_hangs : GoodIn wsX9_joins (wsV RX9 155 RX9 yX9_hangs wsX9_hangs) := goodIn_app (goodIn_of _ (by decide +kernel)) ggX9_joins_X9_hangs
set_option maxRecDepth 20000 in
theorem ggX9_joins_X9_scoreOf : GoodIn wsX9_joins wsX9_scoreOf := goodIn_r _ [62, 1, 2, 3, 8, 9, 6, 10, 63, 64, 65, 66, 67, 68, 69, 70, 71, 72, 73, 74, 75, 76, 77, 78, 79, 80, 81, 82, 83, 84, 85, 86, 87, 88, 89, 90, 91, 92, 93, 94, 95, 96, 97, 98, 99] (by decide +kernel) (by decide +kernel)
set_option maxRecDepth 20000 in
theorem gX9_joins_X9_scoreOf : GoodIn wsX9_joins (wsV RX9 168 RX9 yX9_scoreOf wsX9_scoreOf) := goodIn_app (goodIn_of _ (by decide +kernel)) ggX9_joins_X9_scoreOf
theorem dX9_joins_0 : decode cX9_joins 0 = .ok (.iconst 0, 1) := by decide +kernel
theorem dX9_joins_1 : decode cX9_joins 1 = .ok (.istore_n 1, 1) := by decide +kernel
theorem dX9_joins_2 : decode cX9_joins 2 = .ok (.iload_n 1, 1) := by decide +kernel
theorem dX9_joins_3 : decode cX9_joins 3 = .ok (.aload_n 0, 1) := by decide +kernel
theorem dX9_joins_4 : decode cX9_joins 4 = .ok (.getfield 93, 3) := by decide +kernel
theorem dX9_joins_7 : decode cX9_joins 7 = .ok (.if_icmp .ge 51, 3) := by decide +kernel
theorem dX9_joins_10 : decode cX9_joins 10 = .ok (.aload_n 0, 1) := by decide +kernel
theorem dX9_joins_11 : decode cX9_joins 11 = .ok (.getfield 72, 3) := by decide +kernel
theorem dX9_joins_14 : decode cX9_joins 14 = .ok (.iload_n 1, 1) := by decide +kernel
theorem dX9_joins_15 : decode cX9_joins 15 = .ok (.aload_n 0, 1) := by decide +kernel
theorem dX9_joins_16 : decode cX9_joins 16 = .ok (.iload_n 1, 1) := by decide +kernel
theorem dX9_joins_17 : decode cX9_joins 17 = .ok (.invokevirtual 103, 3) := by decide +kernel
theorem dX9_joins_20 : decode cX9_joins 20 = .ok (.ifCond .eq 7, 3) := by decide +kernel
theorem dX9_joins_23 : decode cX9_joins 23 = .ok (.iload_n 1, 1) := by decide +kernel
theorem dX9_joins_24 : decode cX9_joins 24 = .ok (.goto 4, 3) := by decide +kernel
theorem dX9_joins_27 : decode cX9_joins 27 = .ok (.iconst (-1), 1) := by decide +kernel
theorem dX9_joins_28 : decode cX9_joins 28 = .ok (.iastore, 1) := by decide +kernel
theorem dX9_joins_29 : decode cX9_joins 29 = .ok (.aload_n 0, 1) := by decide +kernel
theorem dX9_joins_30 : decode cX9_joins 30 = .ok (.getfield 75, 3) := by decide +kernel
theorem dX9_joins_33 : decode cX9_joins 33 = .ok (.iload_n 1, 1) := by decide +kernel
theorem dX9_joins_34 : decode cX9_joins 34 = .ok (.aload_n 0, 1) := by decide +kernel
theorem dX9_joins_35 : decode cX9_joins 35 = .ok (.iload_n 1, 1) := by decide +kernel
theorem dX9_joins_36 : decode cX9_joins 36 = .ok (.invokevirtual 103, 3) := by decide +kernel
theorem dX9_joins_39 : decode cX9_joins 39 = .ok (.ifCond .eq 11, 3) := by decide +kernel
theorem dX9_joins_42 : decode cX9_joins 42 = .ok (.aload_n 0, 1) := by decide +kernel
theorem dX9_joins_43 : decode cX9_joins 43 = .ok (.iload_n 1, 1) := by decide +kernel
theorem dX9_joins_44 : decode cX9_joins 44 = .ok (.invokevirtual 152, 3) := by decide +kernel
theorem dX9_joins_47 : decode cX9_joins 47 = .ok (.goto 4, 3) := by decide +kernel
theorem dX9_joins_50 : decode cX9_joins 50 = .ok (.iconst 0, 1) := by decide +kernel
theorem dX9_joins_51 : decode cX9_joins 51 = .ok (.iastore, 1) := by decide +kernel
theorem dX9_joins_52 : decode cX9_joins 52 = .ok (.iinc 1 1, 3) := by decide +kernel
theorem dX9_joins_55 : decode cX9_joins 55 = .ok (.goto (-53), 3) := by decide +kernel
theorem dX9_joins_58 : decode cX9_joins 58 = .ok (.iconst 0, 1) := by decide +kernel
theorem dX9_joins_59 : decode cX9_joins 59 = .ok (.istore_n 1, 1) := by decide +kernel
theorem dX9_joins_60 : decode cX9_joins 60 = .ok (.iload_n 1, 1) := by decide +kernel
theorem dX9_joins_61 : decode cX9_joins 61 = .ok (.aload_n 0, 1) := by decide +kernel
theorem dX9_joins_62 : decode cX9_joins 62 = .ok (.getfield 93, 3) := by decide +kernel
theorem dX9_joins_65 : decode cX9_joins 65 = .ok (.if_icmp .ge 145, 3) := by decide +kernel
theorem dX9_joins_68 : decode cX9_joins 68 = .ok (.iload_n 1, 1) := by decide +kernel
theorem dX9_joins_69 : decode cX9_joins 69 = .ok (.iconst 1, 1) := by decide +kernel
theorem dX9_joins_70 : decode cX9_joins 70 = .ok (.iadd, 1) := by decide +kernel
theorem dX9_joins_71 : decode cX9_joins 71 = .ok (.istore_n 2, 1) := by decide +kernel
theorem dX9_joins_72 : decode cX9_joins 72 = .ok (.iload_n 2, 1) := by decide +kernel
theorem dX9_joins_73 : decode cX9_joins 73 = .ok (.aload_n 0, 1) := by decide +kernel
theorem dX9_joins_74 : decode cX9_joins 74 = .ok (.getfield 93, 3) := by decide +kernel
theorem dX9_joins_77 : decode cX9_joins 77 = .ok (.if_icmp .ge 127, 3) := by decide +kernel
theorem dX9_joins_80 : decode cX9_joins 80 = .ok (.aload_n 0, 1) := by decide +kernel
theorem dX9_joins_81 : decode cX9_joins 81 = .ok (.getfield 72, 3) := by decide +kernel
theorem dX9_joins_84 : decode cX9_joins 84 = .ok (.iload_n 1, 1) := by decide +kernel
theorem dX9_joins_85 : decode cX9_joins 85 = .ok (.iaload, 1) := by decide +kernel
theorem dX9_joins_86 : decode cX9_joins 86 = .ok (.iconst (-1), 1) := by decide +kernel
theorem dX9_joins_87 : decode cX9_joins 87 = .ok (.if_icmp .eq 111, 3) := by decide +kernel
theorem dX9_joins_90 : decode cX9_joins 90 = .ok (.aload_n 0, 1) := by decide +kernel
theorem dX9_joins_91 : decode cX9_joins 91 = .ok (.getfield 72, 3) := by decide +kernel
theorem dX9_joins_94 : decode cX9_joins 94 = .ok (.iload_n 2, 1) := by decide +kernel
theorem dX9_joins_95 : decode cX9_joins 95 = .ok (.iaload, 1) := by decide +kernel
theorem dX9_joins_96 : decode cX9_joins 96 = .ok (.iconst (-1), 1) := by decide +kernel
theorem dX9_joins_97 : decode cX9_joins 97 = .ok (.if_icmp .eq 101, 3) := by decide +kernel
theorem dX9_joins_100 : decode cX9_joins 100 = .ok (.aload_n 0, 1) := by decide +kernel
theorem dX9_joins_101 : decode cX9_joins 101 = .ok (.getfield 72, 3) := by decide +kernel
theorem dX9_joins_104 : decode cX9_joins 104 = .ok (.iload_n 1, 1) := by decide +kernel
theorem dX9_joins_105 : decode cX9_joins 105 = .ok (.iaload, 1) := by decide +kernel
theorem dX9_joins_106 : decode cX9_joins 106 = .ok (.aload_n 0, 1) := by decide +kernel
theorem dX9_joins_107 : decode cX9_joins 107 = .ok (.getfield 72, 3) := by decide +kernel
theorem dX9_joins_110 : decode cX9_joins 110 = .ok (.iload_n 2, 1) := by decide +kernel
theorem dX9_joins_111 : decode cX9_joins 111 = .ok (.iaload, 1) := by decide +kernel
theorem dX9_joins_112 : decode cX9_joins 112 = .ok (.if_icmp .eq 86, 3) := by decide +kernel
theorem dX9_joins_115 : decode cX9_joins 115 = .ok (.aload_n 0, 1) := by decide +kernel
theorem dX9_joins_116 : decode cX9_joins 116 = .ok (.iload_n 1, 1) := by decide +kernel
theorem dX9_joins_117 : decode cX9_joins 117 = .ok (.iload_n 2, 1) := by decide +kernel
theorem dX9_joins_118 : decode cX9_joins 118 = .ok (.invokevirtual 155, 3) := by decide +kernel
theorem dX9_joins_121 : decode cX9_joins 121 = .ok (.ifCond .ne 6, 3) := by decide +kernel
theorem dX9_joins_124 : decode cX9_joins 124 = .ok (.goto 74, 3) := by decide +kernel
theorem dX9_joins_127 : decode cX9_joins 127 = .ok (.aload_n 0, 1) := by decide +kernel
theorem dX9_joins_128 : decode cX9_joins 128 = .ok (.getfield 72, 3) := by decide +kernel
theorem dX9_joins_131 : decode cX9_joins 131 = .ok (.iload_n 1, 1) := by decide +kernel
theorem dX9_joins_132 : decode cX9_joins 132 = .ok (.iaload, 1) := by decide +kernel
theorem dX9_joins_133 : decode cX9_joins 133 = .ok (.aload_n 0, 1) := by decide +kernel
theorem dX9_joins_134 : decode cX9_joins 134 = .ok (.getfield 72, 3) := by decide +kernel
theorem dX9_joins_137 : decode cX9_joins 137 = .ok (.iload_n 2, 1) := by decide +kernel
theorem dX9_joins_138 : decode cX9_joins 138 = .ok (.iaload, 1) := by decide +kernel
theorem dX9_joins_139 : decode cX9_joins 139 = .ok (.invokestatic 159, 3) := by decide +kernel
theorem dX9_joins_142 : decode cX9_joins 142 = .ok (.istore_n 3, 1) := by decide +kernel
theorem dX9_joins_143 : decode cX9_joins 143 = .ok (.aload_n 0, 1) := by decide +kernel
theorem dX9_joins_144 : decode cX9_joins 144 = .ok (.getfield 72, 3) := by decide +kernel
theorem dX9_joins_147 : decode cX9_joins 147 = .ok (.iload_n 1, 1) := by decide +kernel
theorem dX9_joins_148 : decode cX9_joins 148 = .ok (.iaload, 1) := by decide +kernel
theorem dX9_joins_149 : decode cX9_joins 149 = .ok (.aload_n 0, 1) := by decide +kernel
theorem dX9_joins_150 : decode cX9_joins 150 = .ok (.getfield 72, 3) := by decide +kernel
theorem dX9_joins_153 : decode cX9_joins 153 = .ok (.iload_n 2, 1) := by decide +kernel
theorem dX9_joins_154 : decode cX9_joins 154 = .ok (.iaload, 1) := by decide +kernel
theorem dX9_joins_155 : decode cX9_joins 155 = .ok (.invokestatic 162, 3) := by decide +kernel
theorem dX9_joins_158 : decode cX9_joins 158 = .ok (.istore 4, 2) := by decide +kernel
theorem dX9_joins_160 : decode cX9_joins 160 = .ok (.iconst 0, 1) := by decide +kernel
theorem dX9_joins_161 : decode cX9_joins 161 = .ok (.istore 5, 2) := by decide +kernel
theorem dX9_joins_163 : decode cX9_joins 163 = .ok (.iload 5, 2) := by decide +kernel
theorem dX9_joins_165 : decode cX9_joins 165 = .ok (.aload_n 0, 1) := by decide +kernel
theorem dX9_joins_166 : decode cX9_joins 166 = .ok (.getfield 93, 3) := by decide +kernel
theorem dX9_joins_169 : decode cX9_joins 169 = .ok (.if_icmp .ge 29, 3) := by decide +kernel
theorem dX9_joins_172 : decode cX9_joins 172 = .ok (.aload_n 0, 1) := by decide +kernel
theorem dX9_joins_173 : decode cX9_joins 173 = .ok (.getfield 72, 3) := by decide +kernel
theorem dX9_joins_176 : decode cX9_joins 176 = .ok (.iload 5, 2) := by decide +kernel
theorem dX9_joins_178 : decode cX9_joins 178 = .ok (.iaload, 1) := by decide +kernel
theorem dX9_joins_179 : decode cX9_joins 179 = .ok (.iload 4, 2) := by decide +kernel
theorem dX9_joins_181 : decode cX9_joins 181 = .ok (.if_icmp .ne 11, 3) := by decide +kernel
theorem dX9_joins_184 : decode cX9_joins 184 = .ok (.aload_n 0, 1) := by decide +kernel
theorem dX9_joins_185 : decode cX9_joins 185 = .ok (.getfield 72, 3) := by decide +kernel
theorem dX9_joins_188 : decode cX9_joins 188 = .ok (.iload 5, 2) := by decide +kernel
theorem dX9_joins_190 : decode cX9_joins 190 = .ok (.iload_n 3, 1) := by decide +kernel
theorem dX9_joins_191 : decode cX9_joins 191 = .ok (.iastore, 1) := by decide +kernel
theorem dX9_joins_192 : decode cX9_joins 192 = .ok (.iinc 5 1, 3) := by decide +kernel
theorem dX9_joins_195 : decode cX9_joins 195 = .ok (.goto (-32), 3) := by decide +kernel
theorem dX9_joins_198 : decode cX9_joins 198 = .ok (.iinc 2 1, 3) := by decide +kernel
theorem dX9_joins_201 : decode cX9_joins 201 = .ok (.goto (-129), 3) := by decide +kernel
theorem dX9_joins_204 : decode cX9_joins 204 = .ok (.iinc 1 1, 3) := by decide +kernel
theorem dX9_joins_207 : decode cX9_joins 207 = .ok (.goto (-147), 3) := by decide +kernel
theorem dX9_joins_210 : decode cX9_joins 210 = .ok (.aload_n 0, 1) := by decide +kernel
theorem dX9_joins_211 : decode cX9_joins 211 = .ok (.iconst 0, 1) := by decide +kernel
theorem dX9_joins_212 : decode cX9_joins 212 = .ok (.putfield 165, 3) := by decide +kernel
theorem dX9_joins_215 : decode cX9_joins 215 = .ok (.iconst 0, 1) := by decide +kernel
theorem dX9_joins_216 : decode cX9_joins 216 = .ok (.istore_n 1, 1) := by decide +kernel
theorem dX9_joins_217 : decode cX9_joins 217 = .ok (.iload_n 1, 1) := by decide +kernel
theorem dX9_joins_218 : decode cX9_joins 218 = .ok (.aload_n 0, 1) := by decide +kernel
theorem dX9_joins_219 : decode cX9_joins 219 = .ok (.getfield 93, 3) := by decide +kernel
theorem dX9_joins_222 : decode cX9_joins 222 = .ok (.if_icmp .ge 90, 3) := by decide +kernel
theorem dX9_joins_225 : decode cX9_joins 225 = .ok (.aload_n 0, 1) := by decide +kernel
theorem dX9_joins_226 : decode cX9_joins 226 = .ok (.getfield 72, 3) := by decide +kernel
theorem dX9_joins_229 : decode cX9_joins 229 = .ok (.iload_n 1, 1) := by decide +kernel
theorem dX9_joins_230 : decode cX9_joins 230 = .ok (.iaload, 1) := by decide +kernel
theorem dX9_joins_231 : decode cX9_joins 231 = .ok (.iload_n 1, 1) := by decide +kernel
theorem dX9_joins_232 : decode cX9_joins 232 = .ok (.if_icmp .eq 6, 3) := by decide +kernel
theorem dX9_joins_235 : decode cX9_joins 235 = .ok (.goto 71, 3) := by decide +kernel
theorem dX9_joins_238 : decode cX9_joins 238 = .ok (.aload_n 0, 1) := by decide +kernel
theorem dX9_joins_239 : decode cX9_joins 239 = .ok (.iload_n 1, 1) := by decide +kernel
theorem dX9_joins_240 : decode cX9_joins 240 = .ok (.invokevirtual 168, 3) := by decide +kernel
theorem dX9_joins_243 : decode cX9_joins 243 = .ok (.istore_n 2, 1) := by decide +kernel
theorem dX9_joins_244 : decode cX9_joins 244 = .ok (.aload_n 0, 1) := by decide +kernel
theorem dX9_joins_245 : decode cX9_joins 245 = .ok (.getfield 165, 3) := by decide +kernel
theorem dX9_joins_248 : decode cX9_joins 248 = .ok (.istore_n 3, 1) := by decide +kernel
theorem dX9_joins_249 : decode cX9_joins 249 = .ok (.iload_n 3, 1) := by decide +kernel
theorem dX9_joins_250 : decode cX9_joins 250 = .ok (.ifCond .le 39, 3) := by decide +kernel
theorem dX9_joins_253 : decode cX9_joins 253 = .ok (.aload_n 0, 1) := by decide +kernel
theorem dX9_joins_254 : decode cX9_joins 254 = .ok (.aload_n 0, 1) := by decide +kernel
theorem dX9_joins_255 : decode cX9_joins 255 = .ok (.getfield 78, 3) := by decide +kernel
theorem dX9_joins_258 : decode cX9_joins 258 = .ok (.iload_n 3, 1) := by decide +kernel
theorem dX9_joins_259 : decode cX9_joins 259 = .ok (.iconst 1, 1) := by decide +kernel
theorem dX9_joins_260 : decode cX9_joins 260 = .ok (.isub, 1) := by decide +kernel
theorem dX9_joins_261 : decode cX9_joins 261 = .ok (.iaload, 1) := by decide +kernel
theorem dX9_joins_262 : decode cX9_joins 262 = .ok (.invokevirtual 168, 3) := by decide +kernel
theorem dX9_joins_265 : decode cX9_joins 265 = .ok (.iload_n 2, 1) := by decide +kernel
theorem dX9_joins_266 : decode cX9_joins 266 = .ok (.if_icmp .ge 23, 3) := by decide +kernel
theorem dX9_joins_269 : decode cX9_joins 269 = .ok (.aload_n 0, 1) := by decide +kernel
theorem dX9_joins_270 : decode cX9_joins 270 = .ok (.getfield 78, 3) := by decide +kernel
theorem dX9_joins_273 : decode cX9_joins 273 = .ok (.iload_n 3, 1) := by decide +kernel
theorem dX9_joins_274 : decode cX9_joins 274 = .ok (.aload_n 0, 1) := by decide +kernel
theorem dX9_joins_275 : decode cX9_joins 275 = .ok (.getfield 78, 3) := by decide +kernel
theorem dX9_joins_278 : decode cX9_joins 278 = .ok (.iload_n 3, 1) := by decide +kernel
theorem dX9_joins_279 : decode cX9_joins 279 = .ok (.iconst 1, 1) := by decide +kernel
theorem dX9_joins_280 : decode cX9_joins 280 = .ok (.isub, 1) := by decide +kernel
theorem dX9_joins_281 : decode cX9_joins 281 = .ok (.iaload, 1) := by decide +kernel
theorem dX9_joins_282 : decode cX9_joins 282 = .ok (.iastore, 1) := by decide +kernel
theorem dX9_joins_283 : decode cX9_joins 283 = .ok (.iinc 3 (-1), 3) := by decide +kernel
theorem dX9_joins_286 : decode cX9_joins 286 = .ok (.goto (-37), 3) := by decide +kernel
theorem dX9_joins_289 : decode cX9_joins 289 = .ok (.aload_n 0, 1) := by decide +kernel
theorem dX9_joins_290 : decode cX9_joins 290 = .ok (.getfield 78, 3) := by decide +kernel
theorem dX9_joins_293 : decode cX9_joins 293 = .ok (.iload_n 3, 1) := by decide +kernel
theorem dX9_joins_294 : decode cX9_joins 294 = .ok (.iload_n 1, 1) := by decide +kernel
theorem dX9_joins_295 : decode cX9_joins 295 = .ok (.iastore, 1) := by decide +kernel
theorem dX9_joins_296 : decode cX9_joins 296 = .ok (.aload_n 0, 1) := by decide +kernel
theorem dX9_joins_297 : decode cX9_joins 297 = .ok (.dup, 1) := by decide +kernel
theorem dX9_joins_298 : decode cX9_joins 298 = .ok (.getfield 165, 3) := by decide +kernel
theorem dX9_joins_301 : decode cX9_joins 301 = .ok (.iconst 1, 1) := by decide +kernel
theorem dX9_joins_302 : decode cX9_joins 302 = .ok (.iadd, 1) := by decide +kernel
theorem dX9_joins_303 : decode cX9_joins 303 = .ok (.putfield 165, 3) := by decide +kernel
theorem dX9_joins_306 : decode cX9_joins 306 = .ok (.iinc 1 1, 3) := by decide +kernel
theorem dX9_joins_309 : decode cX9_joins 309 = .ok (.goto (-92), 3) := by decide +kernel
theorem dX9_joins_312 : decode cX9_joins 312 = .ok (.return_, 1) := by decide +kernel
