theorem dX9_slow_90 : decode cX9_slow 90 = .ok (.iload_n 2, 1) := by decide +kernel
theorem dX9_slow_91 : decode cX9_slow 91 = .ok (.sipush 30000, 3) := by decide +kernel
theorem dX9_slow_94 : decode cX9_slow 94 = .ok (.if_icmp .le 7, 3) := by decide +kernel
theorem dX9_slow_97 : decode cX9_slow 97 = .ok (.iload_n 2, 1) := by decide +kernel
theorem dX9_slow_98 : decode cX9_slow 98 = .ok (.goto 4, 3) := by decide +kernel
theorem dX9_slow_101 : decode cX9_slow 101 = .ok (.iconst (-1), 1) := by decide +kernel
theorem dX9_slow_102 : decode cX9_slow 102 = .ok (.ireturn, 1) := by decide +kernel
theorem dX9_isTaken_0 : decode cX9_isTaken 0 = .ok (.iconst 0, 1) := by decide +kernel
theorem dX9_isTaken_1 : decode cX9_isTaken 1 = .ok (.istore_n 2, 1) := by decide +kernel
theorem dX9_isTaken_2 : decode cX9_isTaken 2 = .ok (.iload_n 2, 1) := by decide +kernel
theorem dX9_isTaken_3 : decode cX9_isTaken 3 = .ok (.aload_n 0, 1) := by decide +kernel
theorem dX9_isTaken_4 : decode cX9_isTaken 4 = .ok (.getfield 183, 3) := by decide +kernel
theorem dX9_isTaken_7 : decode cX9_isTaken 7 = .ok (.if_icmp .ge 21, 3) := by decide +kernel
theorem dX9_isTaken_10 : decode cX9_isTaken 10 = .ok (.aload_n 0, 1) := by decide +kernel
theorem dX9_isTaken_11 : decode cX9_isTaken 11 = .ok (.getfield 81, 3) := by decide +kernel
theorem dX9_isTaken_14 : decode cX9_isTaken 14 = .ok (.iload_n 2, 1) := by decide +kernel
theorem dX9_isTaken_15 : decode cX9_isTaken 15 = .ok (.iaload, 1) := by decide +kernel
theorem dX9_isTaken_16 : decode cX9_isTaken 16 = .ok (.iload_n 1, 1) := by decide +kernel
theorem dX9_isTaken_17 : decode cX9_isTaken 17 = .ok (.if_icmp .ne 5, 3) := by decide +kernel
theorem dX9_isTaken_20 : decode cX9_isTaken 20 = .ok (.iconst 1, 1) := by decide +kernel
theorem dX9_isTaken_21 : decode cX9_isTaken 21 = .ok (.ireturn, 1) := by decide +kernel
theorem dX9_isTaken_22 : decode cX9_isTaken 22 = .ok (.iinc 2 1, 3) := by decide +kernel
theorem dX9_isTaken_25 : decode cX9_isTaken 25 = .ok (.goto (-23), 3) := by decide +kernel
theorem dX9_isTaken_28 : decode cX9_isTaken 28 = .ok (.iconst 0, 1) := by decide +kernel
theorem dX9_isTaken_29 : decode cX9_isTaken 29 = .ok (.ireturn, 1) := by decide +kernel
theorem dX9_plans_0 : decode cX9_plans 0 = .ok (.aload_n 0, 1) := by decide +kernel
theorem dX9_plans_1 : decode cX9_plans 1 = .ok (.invokevirtual 174, 3) := by decide +kernel
theorem dX9_plans_4 : decode cX9_plans 4 = .ok (.aload_n 0, 1) := by decide +kernel
theorem dX9_plans_5 : decode cX9_plans 5 = .ok (.iconst 0, 1) := by decide +kernel
theorem dX9_plans_6 : decode cX9_plans 6 = .ok (.putfield 183, 3) := by decide +kernel
theorem dX9_plans_9 : decode cX9_plans 9 = .ok (.iload_n 1, 1) := by decide +kernel
theorem dX9_plans_10 : decode cX9_plans 10 = .ok (.istore_n 2, 1) := by decide +kernel
theorem dX9_plans_11 : decode cX9_plans 11 = .ok (.iconst 0, 1) := by decide +kernel
theorem dX9_plans_12 : decode cX9_plans 12 = .ok (.istore_n 3, 1) := by decide +kernel
theorem dX9_plans_13 : decode cX9_plans 13 = .ok (.iload_n 3, 1) := by decide +kernel
theorem dX9_plans_14 : decode cX9_plans 14 = .ok (.aload_n 0, 1) := by decide +kernel
theorem dX9_plans_15 : decode cX9_plans 15 = .ok (.getfield 165, 3) := by decide +kernel
theorem dX9_plans_18 : decode cX9_plans 18 = .ok (.if_icmp .ge 88, 3) := by decide +kernel
theorem dX9_plans_21 : decode cX9_plans 21 = .ok (.aload_n 0, 1) := by decide +kernel
theorem dX9_plans_22 : decode cX9_plans 22 = .ok (.getfield 183, 3) := by decide +kernel
theorem dX9_plans_25 : decode cX9_plans 25 = .ok (.aload_n 0, 1) := by decide +kernel
theorem dX9_plans_26 : decode cX9_plans 26 = .ok (.getfield 114, 3) := by decide +kernel
theorem dX9_plans_29 : decode cX9_plans 29 = .ok (.if_icmp .ge 77, 3) := by decide +kernel
theorem dX9_plans_32 : decode cX9_plans 32 = .ok (.aload_n 0, 1) := by decide +kernel
theorem dX9_plans_33 : decode cX9_plans 33 = .ok (.aload_n 0, 1) := by decide +kernel
theorem dX9_plans_34 : decode cX9_plans 34 = .ok (.getfield 78, 3) := by decide +kernel
theorem dX9_plans_37 : decode cX9_plans 37 = .ok (.iload_n 3, 1) := by decide +kernel
theorem dX9_plans_38 : decode cX9_plans 38 = .ok (.iaload, 1) := by decide +kernel
theorem dX9_plans_39 : decode cX9_plans 39 = .ok (.invokevirtual 180, 3) := by decide +kernel
theorem dX9_plans_42 : decode cX9_plans 42 = .ok (.ifCond .eq 58, 3) := by decide +kernel
theorem dX9_plans_45 : decode cX9_plans 45 = .ok (.aload_n 0, 1) := by decide +kernel
theorem dX9_plans_46 : decode cX9_plans 46 = .ok (.aload_n 0, 1) := by decide +kernel
theorem dX9_plans_47 : decode cX9_plans 47 = .ok (.getfield 78, 3) := by decide +kernel
theorem dX9_plans_50 : decode cX9_plans 50 = .ok (.iload_n 3, 1) := by decide +kernel
theorem dX9_plans_51 : decode cX9_plans 51 = .ok (.iaload, 1) := by decide +kernel
theorem dX9_plans_52 : decode cX9_plans 52 = .ok (.invokevirtual 177, 3) := by decide +kernel
theorem dX9_plans_55 : decode cX9_plans 55 = .ok (.iload_n 2, 1) := by decide +kernel
theorem dX9_plans_56 : decode cX9_plans 56 = .ok (.if_icmp .le 6, 3) := by decide +kernel
theorem dX9_plans_59 : decode cX9_plans 59 = .ok (.goto 41, 3) := by decide +kernel
theorem dX9_plans_62 : decode cX9_plans 62 = .ok (.aload_n 0, 1) := by decide +kernel
theorem dX9_plans_63 : decode cX9_plans 63 = .ok (.getfield 81, 3) := by decide +kernel
theorem dX9_plans_66 : decode cX9_plans 66 = .ok (.aload_n 0, 1) := by decide +kernel
theorem dX9_plans_67 : decode cX9_plans 67 = .ok (.getfield 183, 3) := by decide +kernel
theorem dX9_plans_70 : decode cX9_plans 70 = .ok (.aload_n 0, 1) := by decide +kernel
theorem dX9_plans_71 : decode cX9_plans 71 = .ok (.getfield 78, 3) := by decide +kernel
theorem dX9_plans_74 : decode cX9_plans 74 = .ok (.iload_n 3, 1) := by decide +kernel
theorem dX9_plans_75 : decode cX9_plans 75 = .ok (.iaload, 1) := by decide +kernel
theorem dX9_plans_76 : decode cX9_plans 76 = .ok (.iastore, 1) := by decide +kernel
theorem dX9_plans_77 : decode cX9_plans 77 = .ok (.aload_n 0, 1) := by decide +kernel
theorem dX9_plans_78 : decode cX9_plans 78 = .ok (.dup, 1) := by decide +kernel
theorem dX9_plans_79 : decode cX9_plans 79 = .ok (.getfield 183, 3) := by decide +kernel
theorem dX9_plans_82 : decode cX9_plans 82 = .ok (.iconst 1, 1) := by decide +kernel
theorem dX9_plans_83 : decode cX9_plans 83 = .ok (.iadd, 1) := by decide +kernel
theorem dX9_plans_84 : decode cX9_plans 84 = .ok (.putfield 183, 3) := by decide +kernel
theorem dX9_plans_87 : decode cX9_plans 87 = .ok (.iload_n 2, 1) := by decide +kernel
theorem dX9_plans_88 : decode cX9_plans 88 = .ok (.aload_n 0, 1) := by decide +kernel
theorem dX9_plans_89 : decode cX9_plans 89 = .ok (.aload_n 0, 1) := by decide +kernel
theorem dX9_plans_90 : decode cX9_plans 90 = .ok (.getfield 78, 3) := by decide +kernel
theorem dX9_plans_93 : decode cX9_plans 93 = .ok (.iload_n 3, 1) := by decide +kernel
theorem dX9_plans_94 : decode cX9_plans 94 = .ok (.iaload, 1) := by decide +kernel
theorem dX9_plans_95 : decode cX9_plans 95 = .ok (.invokevirtual 177, 3) := by decide +kernel
theorem dX9_plans_98 : decode cX9_plans 98 = .ok (.isub, 1) := by decide +kernel
theorem dX9_plans_99 : decode cX9_plans 99 = .ok (.istore_n 2, 1) := by decide +kernel
theorem dX9_plans_100 : decode cX9_plans 100 = .ok (.iinc 3 1, 3) := by decide +kernel
theorem dX9_plans_103 : decode cX9_plans 103 = .ok (.goto (-90), 3) := by decide +kernel
theorem dX9_plans_106 : decode cX9_plans 106 = .ok (.iconst 0, 1) := by decide +kernel
theorem dX9_plans_107 : decode cX9_plans 107 = .ok (.istore_n 3, 1) := by decide +kernel
theorem dX9_plans_108 : decode cX9_plans 108 = .ok (.iconst 0, 1) := by decide +kernel
theorem dX9_plans_109 : decode cX9_plans 109 = .ok (.istore 4, 2) := by decide +kernel
theorem dX9_plans_111 : decode cX9_plans 111 = .ok (.iload 4, 2) := by decide +kernel
theorem dX9_plans_113 : decode cX9_plans 113 = .ok (.aload_n 0, 1) := by decide +kernel
theorem dX9_plans_114 : decode cX9_plans 114 = .ok (.getfield 165, 3) := by decide +kernel
theorem dX9_plans_117 : decode cX9_plans 117 = .ok (.if_icmp .ge 82, 3) := by decide +kernel
theorem dX9_plans_120 : decode cX9_plans 120 = .ok (.iload_n 3, 1) := by decide +kernel
theorem dX9_plans_121 : decode cX9_plans 121 = .ok (.bipush 12, 2) := by decide +kernel
theorem dX9_plans_123 : decode cX9_plans 123 = .ok (.if_icmp .ge 76, 3) := by decide +kernel
theorem dX9_plans_126 : decode cX9_plans 126 = .ok (.aload_n 0, 1) := by decide +kernel
theorem dX9_plans_127 : decode cX9_plans 127 = .ok (.aload_n 0, 1) := by decide +kernel
theorem dX9_plans_128 : decode cX9_plans 128 = .ok (.getfield 78, 3) := by decide +kernel
theorem dX9_plans_131 : decode cX9_plans 131 = .ok (.iload 4, 2) := by decide +kernel
theorem dX9_plans_133 : decode cX9_plans 133 = .ok (.iaload, 1) := by decide +kernel
theorem dX9_plans_134 : decode cX9_plans 134 = .ok (.invokevirtual 186, 3) := by decide +kernel
theorem dX9_plans_137 : decode cX9_plans 137 = .ok (.ifCond .eq 6, 3) := by decide +kernel
theorem dX9_plans_140 : decode cX9_plans 140 = .ok (.goto 53, 3) := by decide +kernel
theorem dX9_plans_143 : decode cX9_plans 143 = .ok (.aload_n 0, 1) := by decide +kernel
theorem dX9_plans_144 : decode cX9_plans 144 = .ok (.getfield 84, 3) := by decide +kernel
theorem dX9_plans_147 : decode cX9_plans 147 = .ok (.iload_n 3, 1) := by decide +kernel
theorem dX9_plans_148 : decode cX9_plans 148 = .ok (.aload_n 0, 1) := by decide +kernel
theorem dX9_plans_149 : decode cX9_plans 149 = .ok (.getfield 78, 3) := by decide +kernel
theorem dX9_plans_152 : decode cX9_plans 152 = .ok (.iload 4, 2) := by decide +kernel
theorem dX9_plans_154 : decode cX9_plans 154 = .ok (.iaload, 1) := by decide +kernel
theorem dX9_plans_155 : decode cX9_plans 155 = .ok (.iastore, 1) := by decide +kernel
theorem dX9_plans_156 : decode cX9_plans 156 = .ok (.aload_n 0, 1) := by decide +kernel
theorem dX9_plans_157 : decode cX9_plans 157 = .ok (.getfield 87, 3) := by decide +kernel
theorem dX9_plans_160 : decode cX9_plans 160 = .ok (.iload_n 3, 1) := by decide +kernel
theorem dX9_plans_161 : decode cX9_plans 161 = .ok (.aload_n 0, 1) := by decide +kernel
theorem dX9_plans_162 : decode cX9_plans 162 = .ok (.aload_n 0, 1) := by decide +kernel
theorem dX9_plans_163 : decode cX9_plans 163 = .ok (.getfield 78, 3) := by decide +kernel
theorem dX9_plans_166 : decode cX9_plans 166 = .ok (.iload 4, 2) := by decide +kernel
theorem dX9_plans_168 : decode cX9_plans 168 = .ok (.iaload, 1) := by decide +kernel
theorem dX9_plans_169 : decode cX9_plans 169 = .ok (.invokevirtual 177, 3) := by decide +kernel
theorem dX9_plans_172 : decode cX9_plans 172 = .ok (.iastore, 1) := by decide +kernel
theorem dX9_plans_173 : decode cX9_plans 173 = .ok (.aload_n 0, 1) := by decide +kernel
theorem dX9_plans_174 : decode cX9_plans 174 = .ok (.getfield 90, 3) := by decide +kernel
theorem dX9_plans_177 : decode cX9_plans 177 = .ok (.iload_n 3, 1) := by decide +kernel
theorem dX9_plans_178 : decode cX9_plans 178 = .ok (.aload_n 0, 1) := by decide +kernel
theorem dX9_plans_179 : decode cX9_plans 179 = .ok (.aload_n 0, 1) := by decide +kernel
theorem dX9_plans_180 : decode cX9_plans 180 = .ok (.getfield 78, 3) := by decide +kernel
theorem dX9_plans_183 : decode cX9_plans 183 = .ok (.iload 4, 2) := by decide +kernel
theorem dX9_plans_185 : decode cX9_plans 185 = .ok (.iaload, 1) := by decide +kernel
theorem dX9_plans_186 : decode cX9_plans 186 = .ok (.invokevirtual 168, 3) := by decide +kernel
theorem dX9_plans_189 : decode cX9_plans 189 = .ok (.iastore, 1) := by decide +kernel
theorem dX9_plans_190 : decode cX9_plans 190 = .ok (.iinc 3 1, 3) := by decide +kernel
theorem dX9_plans_193 : decode cX9_plans 193 = .ok (.iinc 4 1, 3) := by decide +kernel
theorem dX9_plans_196 : decode cX9_plans 196 = .ok (.goto (-85), 3) := by decide +kernel
theorem dX9_plans_199 : decode cX9_plans 199 = .ok (.iconst 0, 1) := by decide +kernel
theorem dX9_plans_200 : decode cX9_plans 200 = .ok (.istore 4, 2) := by decide +kernel
theorem dX9_plans_202 : decode cX9_plans 202 = .ok (.iconst 0, 1) := by decide +kernel
theorem dX9_plans_203 : decode cX9_plans 203 = .ok (.istore 5, 2) := by decide +kernel
theorem dX9_plans_205 : decode cX9_plans 205 = .ok (.iconst 1, 1) := by decide +kernel
theorem dX9_plans_206 : decode cX9_plans 206 = .ok (.istore 6, 2) := by decide +kernel
theorem dX9_plans_208 : decode cX9_plans 208 = .ok (.iload 6, 2) := by decide +kernel
theorem dX9_plans_210 : decode cX9_plans 210 = .ok (.iconst 1, 1) := by decide +kernel
theorem dX9_plans_211 : decode cX9_plans 211 = .ok (.iload_n 3, 1) := by decide +kernel
theorem dX9_plans_212 : decode cX9_plans 212 = .ok (.ishl, 1) := by decide +kernel
theorem dX9_plans_213 : decode cX9_plans 213 = .ok (.if_icmp .ge 91, 3) := by decide +kernel
theorem dX9_plans_216 : decode cX9_plans 216 = .ok (.iconst 0, 1) := by decide +kernel
theorem dX9_plans_217 : decode cX9_plans 217 = .ok (.istore 7, 2) := by decide +kernel
theorem dX9_plans_219 : decode cX9_plans 219 = .ok (.iconst 0, 1) := by decide +kernel
theorem dX9_plans_220 : decode cX9_plans 220 = .ok (.istore 8, 2) := by decide +kernel
theorem dX9_plans_222 : decode cX9_plans 222 = .ok (.iconst 0, 1) := by decide +kernel
theorem dX9_plans_223 : decode cX9_plans 223 = .ok (.istore 9, 2) := by decide +kernel
theorem dX9_plans_225 : decode cX9_plans 225 = .ok (.iload 9, 2) := by decide +kernel
theorem dX9_plans_227 : decode cX9_plans 227 = .ok (.iload_n 3, 1) := by decide +kernel
theorem dX9_plans_228 : decode cX9_plans 228 = .ok (.if_icmp .ge 46, 3) := by decide +kernel
theorem dX9_plans_231 : decode cX9_plans 231 = .ok (.iload 6, 2) := by decide +kernel
theorem dX9_plans_233 : decode cX9_plans 233 = .ok (.iload 9, 2) := by decide +kernel
theorem dX9_plans_235 : decode cX9_plans 235 = .ok (.ishr, 1) := by decide +kernel
theorem dX9_plans_236 : decode cX9_plans 236 = .ok (.iconst 1, 1) := by decide +kernel
theorem dX9_plans_237 : decode cX9_plans 237 = .ok (.iand, 1) := by decide +kernel
theorem dX9_plans_238 : decode cX9_plans 238 = .ok (.ifCond .ne 6, 3) := by decide +kernel
theorem dX9_plans_241 : decode cX9_plans 241 = .ok (.goto 27, 3) := by decide +kernel
theorem dX9_plans_244 : decode cX9_plans 244 = .ok (.iload 7, 2) := by decide +kernel
theorem dX9_plans_246 : decode cX9_plans 246 = .ok (.aload_n 0, 1) := by decide +kernel
theorem dX9_plans_247 : decode cX9_plans 247 = .ok (.getfield 87, 3) := by decide +kernel
theorem dX9_plans_250 : decode cX9_plans 250 = .ok (.iload 9, 2) := by decide +kernel
theorem dX9_plans_252 : decode cX9_plans 252 = .ok (.iaload, 1) := by decide +kernel
theorem dX9_plans_253 : decode cX9_plans 253 = .ok (.iadd, 1) := by decide +kernel
theorem dX9_plans_254 : decode cX9_plans 254 = .ok (.istore 7, 2) := by decide +kernel
theorem dX9_plans_256 : decode cX9_plans 256 = .ok (.iload 8, 2) := by decide +kernel
theorem dX9_plans_258 : decode cX9_plans 258 = .ok (.aload_n 0, 1) := by decide +kernel
theorem dX9_plans_259 : decode cX9_plans 259 = .ok (.getfield 90, 3) := by decide +kernel
theorem dX9_plans_262 : decode cX9_plans 262 = .ok (.iload 9, 2) := by decide +kernel
theorem dX9_plans_264 : decode cX9_plans 264 = .ok (.iaload, 1) := by decide +kernel
theorem dX9_plans_265 : decode cX9_plans 265 = .ok (.iadd, 1) := by decide +kernel
theorem dX9_plans_266 : decode cX9_plans 266 = .ok (.istore 8, 2) := by decide +kernel
theorem dX9_plans_268 : decode cX9_plans 268 = .ok (.iinc 9 1, 3) := by decide +kernel
theorem dX9_plans_271 : decode cX9_plans 271 = .ok (.goto (-46), 3) := by decide +kernel
theorem dX9_plans_274 : decode cX9_plans 274 = .ok (.iload 7, 2) := by decide +kernel
theorem dX9_plans_276 : decode cX9_plans 276 = .ok (.iload_n 2, 1) := by decide +kernel
theorem dX9_plans_277 : decode cX9_plans 277 = .ok (.if_icmp .gt 21, 3) := by decide +kernel
theorem dX9_plans_280 : decode cX9_plans 280 = .ok (.iload 8, 2) := by decide +kernel
theorem dX9_plans_282 : decode cX9_plans 282 = .ok (.iload 5, 2) := by decide +kernel
theorem dX9_plans_284 : decode cX9_plans 284 = .ok (.if_icmp .gt 6, 3) := by decide +kernel
theorem dX9_plans_287 : decode cX9_plans 287 = .ok (.goto 11, 3) := by decide +kernel
theorem dX9_plans_290 : decode cX9_plans 290 = .ok (.iload 6, 2) := by decide +kernel
theorem dX9_plans_292 : decode cX9_plans 292 = .ok (.istore 4, 2) := by decide +kernel
theorem dX9_plans_294 : decode cX9_plans 294 = .ok (.iload 8, 2) := by decide +kernel
theorem dX9_plans_296 : decode cX9_plans 296 = .ok (.istore 5, 2) := by decide +kernel
theorem dX9_plans_298 : decode cX9_plans 298 = .ok (.iinc 6 1, 3) := by decide +kernel
theorem dX9_plans_301 : decode cX9_plans 301 = .ok (.goto (-93), 3) := by decide +kernel
theorem dX9_plans_304 : decode cX9_plans 304 = .ok (.iconst 0, 1) := by decide +kernel
theorem dX9_plans_305 : decode cX9_plans 305 = .ok (.istore 6, 2) := by decide +kernel
theorem dX9_plans_307 : decode cX9_plans 307 = .ok (.iload 6, 2) := by decide +kernel
theorem dX9_plans_309 : decode cX9_plans 309 = .ok (.iload_n 3, 1) := by decide +kernel
theorem dX9_plans_310 : decode cX9_plans 310 = .ok (.if_icmp .ge 48, 3) := by decide +kernel
theorem dX9_plans_313 : decode cX9_plans 313 = .ok (.iload 4, 2) := by decide +kernel
theorem dX9_plans_315 : decode cX9_plans 315 = .ok (.iload 6, 2) := by decide +kernel
theorem dX9_plans_317 : decode cX9_plans 317 = .ok (.ishr, 1) := by decide +kernel
theorem dX9_plans_318 : decode cX9_plans 318 = .ok (.iconst 1, 1) := by decide +kernel
theorem dX9_plans_319 : decode cX9_plans 319 = .ok (.iand, 1) := by decide +kernel
theorem dX9_plans_320 : decode cX9_plans 320 = .ok (.ifCond .ne 6, 3) := by decide +kernel
theorem dX9_plans_323 : decode cX9_plans 323 = .ok (.goto 29, 3) := by decide +kernel
theorem dX9_plans_326 : decode cX9_plans 326 = .ok (.aload_n 0, 1) := by decide +kernel
theorem dX9_plans_327 : decode cX9_plans 327 = .ok (.getfield 81, 3) := by decide +kernel
theorem dX9_plans_330 : decode cX9_plans 330 = .ok (.aload_n 0, 1) := by decide +kernel
theorem dX9_plans_331 : decode cX9_plans 331 = .ok (.getfield 183, 3) := by decide +kernel
theorem dX9_plans_334 : decode cX9_plans 334 = .ok (.aload_n 0, 1) := by decide +kernel
theorem dX9_plans_335 : decode cX9_plans 335 = .ok (.getfield 84, 3) := by decide +kernel
theorem dX9_plans_338 : decode cX9_plans 338 = .ok (.iload 6, 2) := by decide +kernel
theorem dX9_plans_340 : decode cX9_plans 340 = .ok (.iaload, 1) := by decide +kernel
theorem dX9_plans_341 : decode cX9_plans 341 = .ok (.iastore, 1) := by decide +kernel
theorem dX9_plans_342 : decode cX9_plans 342 = .ok (.aload_n 0, 1) := by decide +kernel
theorem dX9_plans_343 : decode cX9_plans 343 = .ok (.dup, 1) := by decide +kernel
theorem dX9_plans_344 : decode cX9_plans 344 = .ok (.getfield 183, 3) := by decide +kernel
theorem dX9_plans_347 : decode cX9_plans 347 = .ok (.iconst 1, 1) := by decide +kernel
theorem dX9_plans_348 : decode cX9_plans 348 = .ok (.iadd, 1) := by decide +kernel
theorem dX9_plans_349 : decode cX9_plans 349 = .ok (.putfield 183, 3) := by decide +kernel
theorem dX9_plans_352 : decode cX9_plans 352 = .ok (.iinc 6 1, 3) := by decide +kernel
theorem dX9_plans_355 : decode cX9_plans 355 = .ok (.goto (-48), 3) := by decide +kernel
theorem dX9_plans_358 : decode cX9_plans 358 = .ok (.return_, 1) := by decide +kernel
theorem dX9_isPlan_0 : decode cX9_isPlan 0 = .ok (.iload_n 0, 1) := by decide +kernel
theorem dX9_isPlan_1 : decode cX9_isPlan 1 = .ok (.iconst 0, 1) := by decide +kernel
theorem dX9_isPlan_2 : decode cX9_isPlan 2 = .ok (.sipush 300, 3) := by decide +kernel
theorem dX9_isPlan_5 : decode cX9_isPlan 5 = .ok (.invokestatic 96, 3) := by decide +kernel
theorem dX9_isPlan_8 : decode cX9_isPlan 8 = .ok (.ireturn, 1) := by decide +kernel
theorem dX9_plan_0 : decode cX9_plan 0 = .ok (.iload_n 1, 1) := by decide +kernel
theorem dX9_plan_1 : decode cX9_plan 1 = .ok (.invokestatic 189, 3) := by decide +kernel
theorem dX9_plan_4 : decode cX9_plan 4 = .ok (.ifCond .ne 5, 3) := by decide +kernel
theorem dX9_plan_7 : decode cX9_plan 7 = .ok (.iconst (-1), 1) := by decide +kernel
theorem dX9_plan_8 : decode cX9_plan 8 = .ok (.ireturn, 1) := by decide +kernel
theorem dX9_plan_9 : decode cX9_plan 9 = .ok (.aload_n 0, 1) := by decide +kernel
theorem dX9_plan_10 : decode cX9_plan 10 = .ok (.iload_n 1, 1) := by decide +kernel
theorem dX9_plan_11 : decode cX9_plan 11 = .ok (.invokevirtual 192, 3) := by decide +kernel
theorem dX9_plan_14 : decode cX9_plan 14 = .ok (.iload_n 2, 1) := by decide +kernel
theorem dX9_plan_15 : decode cX9_plan 15 = .ok (.iconst (-1), 1) := by decide +kernel
theorem dX9_plan_16 : decode cX9_plan 16 = .ok (.if_icmp .ne 10, 3) := by decide +kernel
theorem dX9_plan_19 : decode cX9_plan 19 = .ok (.aload_n 0, 1) := by decide +kernel
theorem dX9_plan_20 : decode cX9_plan 20 = .ok (.getfield 183, 3) := by decide +kernel
theorem dX9_plan_23 : decode cX9_plan 23 = .ok (.goto 27, 3) := by decide +kernel
theorem dX9_plan_26 : decode cX9_plan 26 = .ok (.iload_n 2, 1) := by decide +kernel
theorem dX9_plan_27 : decode cX9_plan 27 = .ok (.iconst 0, 1) := by decide +kernel
theorem dX9_plan_28 : decode cX9_plan 28 = .ok (.aload_n 0, 1) := by decide +kernel
theorem dX9_plan_29 : decode cX9_plan 29 = .ok (.getfield 183, 3) := by decide +kernel
theorem dX9_plan_32 : decode cX9_plan 32 = .ok (.iconst 1, 1) := by decide +kernel
theorem dX9_plan_33 : decode cX9_plan 33 = .ok (.isub, 1) := by decide +kernel
theorem dX9_plan_34 : decode cX9_plan 34 = .ok (.invokestatic 96, 3) := by decide +kernel
theorem dX9_plan_37 : decode cX9_plan 37 = .ok (.ifCond .eq 12, 3) := by decide +kernel
theorem dX9_plan_40 : decode cX9_plan 40 = .ok (.aload_n 0, 1) := by decide +kernel
theorem dX9_plan_41 : decode cX9_plan 41 = .ok (.getfield 81, 3) := by decide +kernel
theorem dX9_plan_44 : decode cX9_plan 44 = .ok (.iload_n 2, 1) := by decide +kernel
theorem dX9_plan_45 : decode cX9_plan 45 = .ok (.iaload, 1) := by decide +kernel
theorem dX9_plan_46 : decode cX9_plan 46 = .ok (.goto 4, 3) := by decide +kernel
theorem dX9_plan_49 : decode cX9_plan 49 = .ok (.iconst (-1), 1) := by decide +kernel
theorem dX9_plan_50 : decode cX9_plan 50 = .ok (.ireturn, 1) := by decide +kernel
theorem dX9_worth_0 : decode cX9_worth 0 = .ok (.iload_n 1, 1) := by decide +kernel
theorem dX9_worth_1 : decode cX9_worth 1 = .ok (.invokestatic 189, 3) := by decide +kernel
theorem dX9_worth_4 : decode cX9_worth 4 = .ok (.ifCond .eq 12, 3) := by decide +kernel
theorem dX9_worth_7 : decode cX9_worth 7 = .ok (.iload_n 2, 1) := by decide +kernel
theorem dX9_worth_8 : decode cX9_worth 8 = .ok (.iconst 0, 1) := by decide +kernel
theorem dX9_worth_9 : decode cX9_worth 9 = .ok (.iconst 2, 1) := by decide +kernel
theorem dX9_worth_10 : decode cX9_worth 10 = .ok (.invokestatic 96, 3) := by decide +kernel
theorem dX9_worth_13 : decode cX9_worth 13 = .ok (.ifCond .ne 5, 3) := by decide +kernel
theorem dX9_worth_16 : decode cX9_worth 16 = .ok (.iconst (-1), 1) := by decide +kernel
theorem dX9_worth_17 : decode cX9_worth 17 = .ok (.ireturn, 1) := by decide +kernel
theorem dX9_worth_18 : decode cX9_worth 18 = .ok (.aload_n 0, 1) := by decide +kernel
theorem dX9_worth_19 : decode cX9_worth 19 = .ok (.iload_n 1, 1) := by decide +kernel
theorem dX9_worth_20 : decode cX9_worth 20 = .ok (.invokevirtual 192, 3) := by decide +kernel
theorem dX9_worth_23 : decode cX9_worth 23 = .ok (.iconst 0, 1) := by decide +kernel
theorem dX9_worth_24 : decode cX9_worth 24 = .ok (.istore_n 3, 1) := by decide +kernel
theorem dX9_worth_25 : decode cX9_worth 25 = .ok (.iconst 0, 1) := by decide +kernel
theorem dX9_worth_26 : decode cX9_worth 26 = .ok (.istore 4, 2) := by decide +kernel
theorem dX9_worth_28 : decode cX9_worth 28 = .ok (.iload 4, 2) := by decide +kernel
theorem dX9_worth_30 : decode cX9_worth 30 = .ok (.aload_n 0, 1) := by decide +kernel
theorem dX9_worth_31 : decode cX9_worth 31 = .ok (.getfield 165, 3) := by decide +kernel
theorem dX9_worth_34 : decode cX9_worth 34 = .ok (.if_icmp .ge 82, 3) := by decide +kernel
theorem dX9_worth_37 : decode cX9_worth 37 = .ok (.aload_n 0, 1) := by decide +kernel
theorem dX9_worth_38 : decode cX9_worth 38 = .ok (.aload_n 0, 1) := by decide +kernel
theorem dX9_worth_39 : decode cX9_worth 39 = .ok (.getfield 78, 3) := by decide +kernel
theorem dX9_worth_42 : decode cX9_worth 42 = .ok (.iload 4, 2) := by decide +kernel
theorem dX9_worth_44 : decode cX9_worth 44 = .ok (.iaload, 1) := by decide +kernel
theorem dX9_worth_45 : decode cX9_worth 45 = .ok (.invokevirtual 186, 3) := by decide +kernel
theorem dX9_worth_48 : decode cX9_worth 48 = .ok (.istore 5, 2) := by decide +kernel
theorem dX9_worth_50 : decode cX9_worth 50 = .ok (.iload_n 3, 1) := by decide +kernel
theorem dX9_worth_51 : decode cX9_worth 51 = .ok (.iload_n 2, 1) := by decide +kernel
theorem dX9_worth_52 : decode cX9_worth 52 = .ok (.iconst 2, 1) := by decide +kernel
theorem dX9_worth_53 : decode cX9_worth 53 = .ok (.if_icmp .ne 26, 3) := by decide +kernel
theorem dX9_worth_56 : decode cX9_worth 56 = .ok (.iload 5, 2) := by decide +kernel
theorem dX9_worth_58 : decode cX9_worth 58 = .ok (.ifCond .eq 17, 3) := by decide +kernel
theorem dX9_worth_61 : decode cX9_worth 61 = .ok (.aload_n 0, 1) := by decide +kernel
theorem dX9_worth_62 : decode cX9_worth 62 = .ok (.aload_n 0, 1) := by decide +kernel
theorem dX9_worth_63 : decode cX9_worth 63 = .ok (.getfield 78, 3) := by decide +kernel
theorem dX9_worth_66 : decode cX9_worth 66 = .ok (.iload 4, 2) := by decide +kernel
theorem dX9_worth_68 : decode cX9_worth 68 = .ok (.iaload, 1) := by decide +kernel
theorem dX9_worth_69 : decode cX9_worth 69 = .ok (.invokevirtual 177, 3) := by decide +kernel
theorem dX9_worth_72 : decode cX9_worth 72 = .ok (.goto 36, 3) := by decide +kernel
theorem dX9_worth_75 : decode cX9_worth 75 = .ok (.iconst 0, 1) := by decide +kernel
theorem dX9_worth_76 : decode cX9_worth 76 = .ok (.goto 32, 3) := by decide +kernel
theorem dX9_worth_79 : decode cX9_worth 79 = .ok (.iload 5, 2) := by decide +kernel
theorem dX9_worth_81 : decode cX9_worth 81 = .ok (.iload_n 2, 1) := by decide +kernel
theorem dX9_worth_82 : decode cX9_worth 82 = .ok (.ifCond .ne 7, 3) := by decide +kernel
theorem dX9_worth_85 : decode cX9_worth 85 = .ok (.iconst 1, 1) := by decide +kernel
theorem dX9_worth_86 : decode cX9_worth 86 = .ok (.goto 4, 3) := by decide +kernel
theorem dX9_worth_89 : decode cX9_worth 89 = .ok (.iconst 0, 1) := by decide +kernel
theorem dX9_worth_90 : decode cX9_worth 90 = .ok (.if_icmp .ne 17, 3) := by decide +kernel
theorem dX9_worth_93 : decode cX9_worth 93 = .ok (.aload_n 0, 1) := by decide +kernel
theorem dX9_worth_94 : decode cX9_worth 94 = .ok (.aload_n 0, 1) := by decide +kernel
theorem dX9_worth_95 : decode cX9_worth 95 = .ok (.getfield 78, 3) := by decide +kernel
theorem dX9_worth_98 : decode cX9_worth 98 = .ok (.iload 4, 2) := by decide +kernel
theorem dX9_worth_100 : decode cX9_worth 100 = .ok (.iaload, 1) := by decide +kernel
theorem dX9_worth_101 : decode cX9_worth 101 = .ok (.invokevirtual 168, 3) := by decide +kernel
theorem dX9_worth_104 : decode cX9_worth 104 = .ok (.goto 4, 3) := by decide +kernel
theorem dX9_worth_107 : decode cX9_worth 107 = .ok (.iconst 0, 1) := by decide +kernel
theorem dX9_worth_108 : decode cX9_worth 108 = .ok (.iadd, 1) := by decide +kernel
theorem dX9_worth_109 : decode cX9_worth 109 = .ok (.istore_n 3, 1) := by decide +kernel
theorem dX9_worth_110 : decode cX9_worth 110 = .ok (.iinc 4 1, 3) := by decide +kernel
theorem dX9_worth_113 : decode cX9_worth 113 = .ok (.goto (-85), 3) := by decide +kernel
theorem dX9_worth_116 : decode cX9_worth 116 = .ok (.iload_n 3, 1) := by decide +kernel
theorem dX9_worth_117 : decode cX9_worth 117 = .ok (.ireturn, 1) := by decide +kernel
theorem dX9_source_0 : decode cX9_source 0 = .ok (.iload_n 1, 1) := by decide +kernel
theorem dX9_source_1 : decode cX9_source 1 = .ok (.iconst 0, 1) := by decide +kernel
theorem dX9_source_2 : decode cX9_source 2 = .ok (.bipush 9, 2) := by decide +kernel
theorem dX9_source_4 : decode cX9_source 4 = .ok (.invokestatic 96, 3) := by decide +kernel
theorem dX9_source_7 : decode cX9_source 7 = .ok (.ifCond .eq 13, 3) := by decide +kernel
theorem dX9_source_10 : decode cX9_source 10 = .ok (.iload_n 2, 1) := by decide +kernel
theorem dX9_source_11 : decode cX9_source 11 = .ok (.iconst 0, 1) := by decide +kernel
theorem dX9_source_12 : decode cX9_source 12 = .ok (.bipush 6, 2) := by decide +kernel
theorem dX9_source_14 : decode cX9_source 14 = .ok (.invokestatic 96, 3) := by decide +kernel
theorem dX9_source_17 : decode cX9_source 17 = .ok (.ifCond .ne 5, 3) := by decide +kernel
theorem dX9_source_20 : decode cX9_source 20 = .ok (.iconst (-1), 1) := by decide +kernel
theorem dX9_source_21 : decode cX9_source 21 = .ok (.ireturn, 1) := by decide +kernel
theorem dX9_source_22 : decode cX9_source 22 = .ok (.iconst 0, 1) := by decide +kernel
theorem dX9_source_23 : decode cX9_source 23 = .ok (.istore_n 3, 1) := by decide +kernel
theorem dX9_source_24 : decode cX9_source 24 = .ok (.iconst 0, 1) := by decide +kernel
theorem dX9_source_25 : decode cX9_source 25 = .ok (.istore 4, 2) := by decide +kernel
theorem dX9_source_27 : decode cX9_source 27 = .ok (.iload 4, 2) := by decide +kernel
theorem dX9_source_29 : decode cX9_source 29 = .ok (.aload_n 0, 1) := by decide +kernel
theorem dX9_source_30 : decode cX9_source 30 = .ok (.getfield 93, 3) := by decide +kernel
theorem dX9_source_33 : decode cX9_source 33 = .ok (.if_icmp .ge 164, 3) := by decide +kernel
theorem dX9_source_36 : decode cX9_source 36 = .ok (.aload_n 0, 1) := by decide +kernel
theorem dX9_source_37 : decode cX9_source 37 = .ok (.getfield 23, 3) := by decide +kernel
theorem dX9_source_40 : decode cX9_source 40 = .ok (.iload 4, 2) := by decide +kernel
theorem dX9_source_42 : decode cX9_source 42 = .ok (.iaload, 1) := by decide +kernel
theorem dX9_source_43 : decode cX9_source 43 = .ok (.iload_n 1, 1) := by decide +kernel
theorem dX9_source_44 : decode cX9_source 44 = .ok (.if_icmp .eq 6, 3) := by decide +kernel
theorem dX9_source_47 : decode cX9_source 47 = .ok (.goto 144, 3) := by decide +kernel
theorem dX9_source_50 : decode cX9_source 50 = .ok (.aload_n 0, 1) := by decide +kernel
theorem dX9_source_51 : decode cX9_source 51 = .ok (.getfield 47, 3) := by decide +kernel
theorem dX9_source_54 : decode cX9_source 54 = .ok (.iload 4, 2) := by decide +kernel
theorem dX9_source_56 : decode cX9_source 56 = .ok (.baload, 1) := by decide +kernel
theorem dX9_source_57 : decode cX9_source 57 = .ok (.ifCond .ne 17, 3) := by decide +kernel
theorem dX9_source_60 : decode cX9_source 60 = .ok (.aload_n 0, 1) := by decide +kernel
theorem dX9_source_61 : decode cX9_source 61 = .ok (.getfield 51, 3) := by decide +kernel
theorem dX9_source_64 : decode cX9_source 64 = .ok (.iload 4, 2) := by decide +kernel
theorem dX9_source_66 : decode cX9_source 66 = .ok (.baload, 1) := by decide +kernel
theorem dX9_source_67 : decode cX9_source 67 = .ok (.ifCond .ne 7, 3) := by decide +kernel
theorem dX9_source_70 : decode cX9_source 70 = .ok (.iconst 1, 1) := by decide +kernel
theorem dX9_source_71 : decode cX9_source 71 = .ok (.goto 4, 3) := by decide +kernel
theorem dX9_source_74 : decode cX9_source 74 = .ok (.iconst 0, 1) := by decide +kernel
theorem dX9_source_75 : decode cX9_source 75 = .ok (.istore 5, 2) := by decide +kernel
theorem dX9_source_77 : decode cX9_source 77 = .ok (.iload_n 3, 1) := by decide +kernel
theorem dX9_source_78 : decode cX9_source 78 = .ok (.iload_n 2, 1) := by decide +kernel
theorem dX9_source_79 : decode cX9_source 79 = .ok (.iconst 1, 1) := by decide +kernel
theorem dX9_source_80 : decode cX9_source 80 = .ok (.if_icmp .ne 13, 3) := by decide +kernel
theorem dX9_source_83 : decode cX9_source 83 = .ok (.aload_n 0, 1) := by decide +kernel
theorem dX9_source_84 : decode cX9_source 84 = .ok (.getfield 35, 3) := by decide +kernel
theorem dX9_source_87 : decode cX9_source 87 = .ok (.iload 4, 2) := by decide +kernel
theorem dX9_source_89 : decode cX9_source 89 = .ok (.iaload, 1) := by decide +kernel
theorem dX9_source_90 : decode cX9_source 90 = .ok (.goto 99, 3) := by decide +kernel
theorem dX9_source_93 : decode cX9_source 93 = .ok (.iload_n 2, 1) := by decide +kernel
theorem dX9_source_94 : decode cX9_source 94 = .ok (.ifCond .eq 87, 3) := by decide +kernel
theorem dX9_source_97 : decode cX9_source 97 = .ok (.iload_n 2, 1) := by decide +kernel
theorem dX9_source_98 : decode cX9_source 98 = .ok (.iconst 2, 1) := by decide +kernel
theorem dX9_source_99 : decode cX9_source 99 = .ok (.if_icmp .ne 13, 3) := by decide +kernel
theorem dX9_source_102 : decode cX9_source 102 = .ok (.aload_n 0, 1) := by decide +kernel
theorem dX9_source_103 : decode cX9_source 103 = .ok (.getfield 47, 3) := by decide +kernel
theorem dX9_source_106 : decode cX9_source 106 = .ok (.iload 4, 2) := by decide +kernel
theorem dX9_source_108 : decode cX9_source 108 = .ok (.baload, 1) := by decide +kernel
theorem dX9_source_109 : decode cX9_source 109 = .ok (.ifCond .ne 72, 3) := by decide +kernel
theorem dX9_source_112 : decode cX9_source 112 = .ok (.iload_n 2, 1) := by decide +kernel
theorem dX9_source_113 : decode cX9_source 113 = .ok (.iconst 3, 1) := by decide +kernel
theorem dX9_source_114 : decode cX9_source 114 = .ok (.if_icmp .ne 13, 3) := by decide +kernel
theorem dX9_source_117 : decode cX9_source 117 = .ok (.aload_n 0, 1) := by decide +kernel
theorem dX9_source_118 : decode cX9_source 118 = .ok (.getfield 51, 3) := by decide +kernel
theorem dX9_source_121 : decode cX9_source 121 = .ok (.iload 4, 2) := by decide +kernel
theorem dX9_source_123 : decode cX9_source 123 = .ok (.baload, 1) := by decide +kernel
theorem dX9_source_124 : decode cX9_source 124 = .ok (.ifCond .ne 57, 3) := by decide +kernel
theorem dX9_source_127 : decode cX9_source 127 = .ok (.iload_n 2, 1) := by decide +kernel
theorem dX9_source_128 : decode cX9_source 128 = .ok (.iconst 4, 1) := by decide +kernel
theorem dX9_source_129 : decode cX9_source 129 = .ok (.if_icmp .ne 14, 3) := by decide +kernel
theorem dX9_source_132 : decode cX9_source 132 = .ok (.aload_n 0, 1) := by decide +kernel
theorem dX9_source_133 : decode cX9_source 133 = .ok (.getfield 38, 3) := by decide +kernel
theorem dX9_source_136 : decode cX9_source 136 = .ok (.iload 4, 2) := by decide +kernel
theorem dX9_source_138 : decode cX9_source 138 = .ok (.iaload, 1) := by decide +kernel
theorem dX9_source_139 : decode cX9_source 139 = .ok (.iconst 1, 1) := by decide +kernel
theorem dX9_source_140 : decode cX9_source 140 = .ok (.if_icmp .eq 41, 3) := by decide +kernel
theorem dX9_source_143 : decode cX9_source 143 = .ok (.iload_n 2, 1) := by decide +kernel
theorem dX9_source_144 : decode cX9_source 144 = .ok (.iconst 5, 1) := by decide +kernel
theorem dX9_source_145 : decode cX9_source 145 = .ok (.if_icmp .ne 14, 3) := by decide +kernel
theorem dX9_source_148 : decode cX9_source 148 = .ok (.aload_n 0, 1) := by decide +kernel
theorem dX9_source_149 : decode cX9_source 149 = .ok (.getfield 38, 3) := by decide +kernel
theorem dX9_source_152 : decode cX9_source 152 = .ok (.iload 4, 2) := by decide +kernel
theorem dX9_source_154 : decode cX9_source 154 = .ok (.iaload, 1) := by decide +kernel
theorem dX9_source_155 : decode cX9_source 155 = .ok (.iconst 2, 1) := by decide +kernel
theorem dX9_source_156 : decode cX9_source 156 = .ok (.if_icmp .eq 25, 3) := by decide +kernel
theorem dX9_source_159 : decode cX9_source 159 = .ok (.iload_n 2, 1) := by decide +kernel
theorem dX9_source_160 : decode cX9_source 160 = .ok (.bipush 6, 2) := by decide +kernel
theorem dX9_source_162 : decode cX9_source 162 = .ok (.if_icmp .ne 23, 3) := by decide +kernel
theorem dX9_source_165 : decode cX9_source 165 = .ok (.aload_n 0, 1) := by decide +kernel
theorem dX9_source_166 : decode cX9_source 166 = .ok (.getfield 38, 3) := by decide +kernel
theorem dX9_source_169 : decode cX9_source 169 = .ok (.iload 4, 2) := by decide +kernel
theorem dX9_source_171 : decode cX9_source 171 = .ok (.iaload, 1) := by decide +kernel
theorem dX9_source_172 : decode cX9_source 172 = .ok (.iconst 1, 1) := by decide +kernel
theorem dX9_source_173 : decode cX9_source 173 = .ok (.if_icmp .ne 12, 3) := by decide +kernel
theorem dX9_source_176 : decode cX9_source 176 = .ok (.iload 5, 2) := by decide +kernel
theorem dX9_source_178 : decode cX9_source 178 = .ok (.ifCond .ne 7, 3) := by decide +kernel
theorem dX9_source_181 : decode cX9_source 181 = .ok (.iconst 1, 1) := by decide +kernel
theorem dX9_source_182 : decode cX9_source 182 = .ok (.goto 4, 3) := by decide +kernel
theorem dX9_source_185 : decode cX9_source 185 = .ok (.iconst 0, 1) := by decide +kernel
theorem dX9_source_186 : decode cX9_source 186 = .ok (.invokestatic 107, 3) := by decide +kernel
theorem dX9_source_189 : decode cX9_source 189 = .ok (.iadd, 1) := by decide +kernel
theorem dX9_source_190 : decode cX9_source 190 = .ok (.istore_n 3, 1) := by decide +kernel
theorem dX9_source_191 : decode cX9_source 191 = .ok (.iinc 4 1, 3) := by decide +kernel
theorem dX9_source_194 : decode cX9_source 194 = .ok (.goto (-167), 3) := by decide +kernel
theorem dX9_source_197 : decode cX9_source 197 = .ok (.iload_n 3, 1) := by decide +kernel
theorem dX9_source_198 : decode cX9_source 198 = .ok (.ireturn, 1) := by decide +kernel
theorem dX9_count_0 : decode cX9_count 0 = .ok (.iload_n 1, 1) := by decide +kernel
theorem dX9_count_1 : decode cX9_count 1 = .ok (.tableswitch 108 0 5 #[39, 44, 49, 89, 98, 103], 39) := by decide +kernel
theorem dX9_count_40 : decode cX9_count 40 = .ok (.aload_n 0, 1) := by decide +kernel
theorem dX9_count_41 : decode cX9_count 41 = .ok (.getfield 100, 3) := by decide +kernel
theorem dX9_count_44 : decode cX9_count 44 = .ok (.ireturn, 1) := by decide +kernel
theorem dX9_count_45 : decode cX9_count 45 = .ok (.aload_n 0, 1) := by decide +kernel
theorem dX9_count_46 : decode cX9_count 46 = .ok (.getfield 93, 3) := by decide +kernel
theorem dX9_count_49 : decode cX9_count 49 = .ok (.ireturn, 1) := by decide +kernel
theorem dX9_count_50 : decode cX9_count 50 = .ok (.iconst 0, 1) := by decide +kernel
theorem dX9_count_51 : decode cX9_count 51 = .ok (.istore_n 2, 1) := by decide +kernel
theorem dX9_count_52 : decode cX9_count 52 = .ok (.iconst 0, 1) := by decide +kernel
theorem dX9_count_53 : decode cX9_count 53 = .ok (.istore_n 3, 1) := by decide +kernel
theorem dX9_count_54 : decode cX9_count 54 = .ok (.iload_n 3, 1) := by decide +kernel
theorem dX9_count_55 : decode cX9_count 55 = .ok (.aload_n 0, 1) := by decide +kernel
theorem dX9_count_56 : decode cX9_count 56 = .ok (.getfield 93, 3) := by decide +kernel
theorem dX9_count_59 : decode cX9_count 59 = .ok (.if_icmp .ge 29, 3) := by decide +kernel
theorem dX9_count_62 : decode cX9_count 62 = .ok (.iload_n 2, 1) := by decide +kernel
theorem dX9_count_63 : decode cX9_count 63 = .ok (.aload_n 0, 1) := by decide +kernel
theorem dX9_count_64 : decode cX9_count 64 = .ok (.getfield 38, 3) := by decide +kernel
theorem dX9_count_67 : decode cX9_count 67 = .ok (.iload_n 3, 1) := by decide +kernel
theorem dX9_count_68 : decode cX9_count 68 = .ok (.iaload, 1) := by decide +kernel
theorem dX9_count_69 : decode cX9_count 69 = .ok (.ifCond .ne 7, 3) := by decide +kernel
theorem dX9_count_72 : decode cX9_count 72 = .ok (.iconst 1, 1) := by decide +kernel
theorem dX9_count_73 : decode cX9_count 73 = .ok (.goto 4, 3) := by decide +kernel
theorem dX9_count_76 : decode cX9_count 76 = .ok (.iconst 0, 1) := by decide +kernel
theorem dX9_count_77 : decode cX9_count 77 = .ok (.invokestatic 107, 3) := by decide +kernel
theorem dX9_count_80 : decode cX9_count 80 = .ok (.iadd, 1) := by decide +kernel
theorem dX9_count_81 : decode cX9_count 81 = .ok (.istore_n 2, 1) := by decide +kernel
theorem dX9_count_82 : decode cX9_count 82 = .ok (.iinc 3 1, 3) := by decide +kernel
theorem dX9_count_85 : decode cX9_count 85 = .ok (.goto (-31), 3) := by decide +kernel
theorem dX9_count_88 : decode cX9_count 88 = .ok (.iload_n 2, 1) := by decide +kernel
theorem dX9_count_89 : decode cX9_count 89 = .ok (.ireturn, 1) := by decide +kernel
theorem dX9_count_90 : decode cX9_count 90 = .ok (.aload_n 0, 1) := by decide +kernel
theorem dX9_count_91 : decode cX9_count 91 = .ok (.invokevirtual 174, 3) := by decide +kernel
theorem dX9_count_94 : decode cX9_count 94 = .ok (.aload_n 0, 1) := by decide +kernel
theorem dX9_count_95 : decode cX9_count 95 = .ok (.getfield 165, 3) := by decide +kernel
theorem dX9_count_98 : decode cX9_count 98 = .ok (.ireturn, 1) := by decide +kernel
theorem dX9_count_99 : decode cX9_count 99 = .ok (.aload_n 0, 1) := by decide +kernel
theorem dX9_count_100 : decode cX9_count 100 = .ok (.getfield 111, 3) := by decide +kernel
theorem dX9_count_103 : decode cX9_count 103 = .ok (.ireturn, 1) := by decide +kernel
theorem dX9_count_104 : decode cX9_count 104 = .ok (.aload_n 0, 1) := by decide +kernel
theorem dX9_count_105 : decode cX9_count 105 = .ok (.getfield 124, 3) := by decide +kernel
theorem dX9_count_108 : decode cX9_count 108 = .ok (.ireturn, 1) := by decide +kernel
theorem dX9_count_109 : decode cX9_count 109 = .ok (.iconst (-1), 1) := by decide +kernel
theorem dX9_count_110 : decode cX9_count 110 = .ok (.ireturn, 1) := by decide +kernel
theorem dJ6_bitCount_0f7a4_0 : decode cJ6_bitCount_0f7a4 0 = .ok (.iload_n 0, 1) := by decide +kernel
theorem dJ6_bitCount_0f7a4_1 : decode cJ6_bitCount_0f7a4 1 = .ok (.iload_n 0, 1) := by decide +kernel
theorem dJ6_bitCount_0f7a4_2 : decode cJ6_bitCount_0f7a4 2 = .ok (.iconst 1, 1) := by decide +kernel
theorem dJ6_bitCount_0f7a4_3 : decode cJ6_bitCount_0f7a4 3 = .ok (.iushr, 1) := by decide +kernel
theorem dJ6_bitCount_0f7a4_4 : decode cJ6_bitCount_0f7a4 4 = .ok (.ldc_w 265, 3) := by decide +kernel
theorem dJ6_bitCount_0f7a4_7 : decode cJ6_bitCount_0f7a4 7 = .ok (.iand, 1) := by decide +kernel
theorem dJ6_bitCount_0f7a4_8 : decode cJ6_bitCount_0f7a4 8 = .ok (.isub, 1) := by decide +kernel
theorem dJ6_bitCount_0f7a4_9 : decode cJ6_bitCount_0f7a4 9 = .ok (.istore_n 0, 1) := by decide +kernel
theorem dJ6_bitCount_0f7a4_10 : decode cJ6_bitCount_0f7a4 10 = .ok (.iload_n 0, 1) := by decide +kernel
theorem dJ6_bitCount_0f7a4_11 : decode cJ6_bitCount_0f7a4 11 = .ok (.ldc_w 266, 3) := by decide +kernel
theorem dJ6_bitCount_0f7a4_14 : decode cJ6_bitCount_0f7a4 14 = .ok (.iand, 1) := by decide +kernel
theorem dJ6_bitCount_0f7a4_15 : decode cJ6_bitCount_0f7a4 15 = .ok (.iload_n 0, 1) := by decide +kernel
theorem dJ6_bitCount_0f7a4_16 : decode cJ6_bitCount_0f7a4 16 = .ok (.iconst 2, 1) := by decide +kernel
theorem dJ6_bitCount_0f7a4_17 : decode cJ6_bitCount_0f7a4 17 = .ok (.iushr, 1) := by decide +kernel
theorem dJ6_bitCount_0f7a4_18 : decode cJ6_bitCount_0f7a4 18 = .ok (.ldc_w 266, 3) := by decide +kernel
theorem dJ6_bitCount_0f7a4_21 : decode cJ6_bitCount_0f7a4 21 = .ok (.iand, 1) := by decide +kernel
theorem dJ6_bitCount_0f7a4_22 : decode cJ6_bitCount_0f7a4 22 = .ok (.iadd, 1) := by decide +kernel
theorem dJ6_bitCount_0f7a4_23 : decode cJ6_bitCount_0f7a4 23 = .ok (.istore_n 0, 1) := by decide +kernel
theorem dJ6_bitCount_0f7a4_24 : decode cJ6_bitCount_0f7a4 24 = .ok (.iload_n 0, 1) := by decide +kernel
theorem dJ6_bitCount_0f7a4_25 : decode cJ6_bitCount_0f7a4 25 = .ok (.iload_n 0, 1) := by decide +kernel
theorem dJ6_bitCount_0f7a4_26 : decode cJ6_bitCount_0f7a4 26 = .ok (.iconst 4, 1) := by decide +kernel
theorem dJ6_bitCount_0f7a4_27 : decode cJ6_bitCount_0f7a4 27 = .ok (.iushr, 1) := by decide +kernel
theorem dJ6_bitCount_0f7a4_28 : decode cJ6_bitCount_0f7a4 28 = .ok (.iadd, 1) := by decide +kernel
theorem dJ6_bitCount_0f7a4_29 : decode cJ6_bitCount_0f7a4 29 = .ok (.ldc_w 267, 3) := by decide +kernel
theorem dJ6_bitCount_0f7a4_32 : decode cJ6_bitCount_0f7a4 32 = .ok (.iand, 1) := by decide +kernel
theorem dJ6_bitCount_0f7a4_33 : decode cJ6_bitCount_0f7a4 33 = .ok (.istore_n 0, 1) := by decide +kernel
theorem dJ6_bitCount_0f7a4_34 : decode cJ6_bitCount_0f7a4 34 = .ok (.iload_n 0, 1) := by decide +kernel
theorem dJ6_bitCount_0f7a4_35 : decode cJ6_bitCount_0f7a4 35 = .ok (.iload_n 0, 1) := by decide +kernel
theorem dJ6_bitCount_0f7a4_36 : decode cJ6_bitCount_0f7a4 36 = .ok (.bipush 8, 2) := by decide +kernel
theorem dJ6_bitCount_0f7a4_38 : decode cJ6_bitCount_0f7a4 38 = .ok (.iushr, 1) := by decide +kernel
theorem dJ6_bitCount_0f7a4_39 : decode cJ6_bitCount_0f7a4 39 = .ok (.iadd, 1) := by decide +kernel
theorem dJ6_bitCount_0f7a4_40 : decode cJ6_bitCount_0f7a4 40 = .ok (.istore_n 0, 1) := by decide +kernel
theorem dJ6_bitCount_0f7a4_41 : decode cJ6_bitCount_0f7a4 41 = .ok (.iload_n 0, 1) := by decide +kernel
theorem dJ6_bitCount_0f7a4_42 : decode cJ6_bitCount_0f7a4 42 = .ok (.iload_n 0, 1) := by decide +kernel
theorem dJ6_bitCount_0f7a4_43 : decode cJ6_bitCount_0f7a4 43 = .ok (.bipush 16, 2) := by decide +kernel
theorem dJ6_bitCount_0f7a4_45 : decode cJ6_bitCount_0f7a4 45 = .ok (.iushr, 1) := by decide +kernel
theorem dJ6_bitCount_0f7a4_46 : decode cJ6_bitCount_0f7a4 46 = .ok (.iadd, 1) := by decide +kernel
theorem dJ6_bitCount_0f7a4_47 : decode cJ6_bitCount_0f7a4 47 = .ok (.istore_n 0, 1) := by decide +kernel
theorem dJ6_bitCount_0f7a4_48 : decode cJ6_bitCount_0f7a4 48 = .ok (.iload_n 0, 1) := by decide +kernel
theorem dJ6_bitCount_0f7a4_49 : decode cJ6_bitCount_0f7a4 49 = .ok (.bipush 63, 2) := by decide +kernel
theorem dJ6_bitCount_0f7a4_51 : decode cJ6_bitCount_0f7a4 51 = .ok (.iand, 1) := by decide +kernel
theorem dJ6_bitCount_0f7a4_52 : decode cJ6_bitCount_0f7a4 52 = .ok (.ireturn, 1) := by decide +kernel
theorem dJ9_abs_0f7a4_0 : decode cJ9_abs_0f7a4 0 = .ok (.iload_n 0, 1) := by decide +kernel
theorem dJ9_abs_0f7a4_1 : decode cJ9_abs_0f7a4 1 = .ok (.ifCond .ge 8, 3) := by decide +kernel
theorem dJ9_abs_0f7a4_4 : decode cJ9_abs_0f7a4 4 = .ok (.iload_n 0, 1) := by decide +kernel
theorem dJ9_abs_0f7a4_5 : decode cJ9_abs_0f7a4 5 = .ok (.ineg, 1) := by decide +kernel
theorem dJ9_abs_0f7a4_6 : decode cJ9_abs_0f7a4 6 = .ok (.goto 4, 3) := by decide +kernel
theorem dJ9_abs_0f7a4_9 : decode cJ9_abs_0f7a4 9 = .ok (.iload_n 0, 1) := by decide +kernel
theorem dJ9_abs_0f7a4_10 : decode cJ9_abs_0f7a4 10 = .ok (.ireturn, 1) := by decide +kernel
theorem dJ9_max_7cf53_0 : decode cJ9_max_7cf53 0 = .ok (.iload_n 0, 1) := by decide +kernel
theorem dJ9_max_7cf53_1 : decode cJ9_max_7cf53 1 = .ok (.iload_n 1, 1) := by decide +kernel
theorem dJ9_max_7cf53_2 : decode cJ9_max_7cf53 2 = .ok (.if_icmp .lt 7, 3) := by decide +kernel
theorem dJ9_max_7cf53_5 : decode cJ9_max_7cf53 5 = .ok (.iload_n 0, 1) := by decide +kernel
theorem dJ9_max_7cf53_6 : decode cJ9_max_7cf53 6 = .ok (.goto 4, 3) := by decide +kernel
theorem dJ9_max_7cf53_9 : decode cJ9_max_7cf53 9 = .ok (.iload_n 1, 1) := by decide +kernel
theorem dJ9_max_7cf53_10 : decode cJ9_max_7cf53 10 = .ok (.ireturn, 1) := by decide +kernel
theorem dJ9_min_7cf53_0 : decode cJ9_min_7cf53 0 = .ok (.iload_n 0, 1) := by decide +kernel
theorem dJ9_min_7cf53_1 : decode cJ9_min_7cf53 1 = .ok (.iload_n 1, 1) := by decide +kernel
theorem dJ9_min_7cf53_2 : decode cJ9_min_7cf53 2 = .ok (.if_icmp .gt 7, 3) := by decide +kernel
theorem dJ9_min_7cf53_5 : decode cJ9_min_7cf53 5 = .ok (.iload_n 0, 1) := by decide +kernel
theorem dJ9_min_7cf53_6 : decode cJ9_min_7cf53 6 = .ok (.goto 4, 3) := by decide +kernel
theorem dJ9_min_7cf53_9 : decode cJ9_min_7cf53 9 = .ok (.iload_n 1, 1) := by decide +kernel
theorem dJ9_min_7cf53_10 : decode cJ9_min_7cf53 10 = .ok (.ireturn, 1) := by decide +kernel
theorem dL_law_0 : decode cL_law 0 = .ok (.new 7, 3) := by decide +kernel
theorem dL_law_3 : decode cL_law 3 = .ok (.dup, 1) := by decide +kernel
theorem dL_law_4 : decode cL_law 4 = .ok (.invokespecial 9, 3) := by decide +kernel
theorem dL_law_7 : decode cL_law 7 = .ok (.astore_n 1, 1) := by decide +kernel
theorem dL_law_8 : decode cL_law 8 = .ok (.new 10, 3) := by decide +kernel
theorem dL_law_11 : decode cL_law 11 = .ok (.dup, 1) := by decide +kernel
theorem dL_law_12 : decode cL_law 12 = .ok (.invokespecial 12, 3) := by decide +kernel
theorem dL_law_15 : decode cL_law 15 = .ok (.astore_n 2, 1) := by decide +kernel
theorem dL_law_16 : decode cL_law 16 = .ok (.iconst 0, 1) := by decide +kernel
theorem dL_law_17 : decode cL_law 17 = .ok (.istore_n 3, 1) := by decide +kernel
theorem dL_law_18 : decode cL_law 18 = .ok (.iload_n 3, 1) := by decide +kernel
theorem dL_law_19 : decode cL_law 19 = .ok (.aload_n 0, 1) := by decide +kernel
theorem dL_law_20 : decode cL_law 20 = .ok (.arraylength, 1) := by decide +kernel
theorem dL_law_21 : decode cL_law 21 = .ok (.iconst 5, 1) := by decide +kernel
theorem dL_law_22 : decode cL_law 22 = .ok (.isub, 1) := by decide +kernel
theorem dL_law_23 : decode cL_law 23 = .ok (.if_icmp .gt 675, 3) := by decide +kernel
theorem dL_law_26 : decode cL_law 26 = .ok (.aload_n 0, 1) := by decide +kernel
theorem dL_law_27 : decode cL_law 27 = .ok (.iload_n 3, 1) := by decide +kernel
theorem dL_law_28 : decode cL_law 28 = .ok (.iaload, 1) := by decide +kernel
theorem dL_law_29 : decode cL_law 29 = .ok (.bipush 15, 2) := by decide +kernel
theorem dL_law_31 : decode cL_law 31 = .ok (.iand, 1) := by decide +kernel
theorem dL_law_32 : decode cL_law 32 = .ok (.tableswitch 660 0 15 #[80, 103, 156, 199, 232, 291, 350, 383, 426, 459, 482, 515, 538, 571, 604, 637], 80) := by decide +kernel
theorem dL_law_112 : decode cL_law 112 = .ok (.aload_n 1, 1) := by decide +kernel
theorem dL_law_113 : decode cL_law 113 = .ok (.aload_n 0, 1) := by decide +kernel
theorem dL_law_114 : decode cL_law 114 = .ok (.iload_n 3, 1) := by decide +kernel
theorem dL_law_115 : decode cL_law 115 = .ok (.iconst 1, 1) := by decide +kernel
theorem dL_law_116 : decode cL_law 116 = .ok (.iadd, 1) := by decide +kernel
theorem dL_law_117 : decode cL_law 117 = .ok (.iaload, 1) := by decide +kernel
theorem dL_law_118 : decode cL_law 118 = .ok (.invokevirtual 13, 3) := by decide +kernel
theorem dL_law_121 : decode cL_law 121 = .ok (.aload_n 2, 1) := by decide +kernel
theorem dL_law_122 : decode cL_law 122 = .ok (.aload_n 0, 1) := by decide +kernel
theorem dL_law_123 : decode cL_law 123 = .ok (.iload_n 3, 1) := by decide +kernel
theorem dL_law_124 : decode cL_law 124 = .ok (.iconst 1, 1) := by decide +kernel
theorem dL_law_125 : decode cL_law 125 = .ok (.iadd, 1) := by decide +kernel
theorem dL_law_126 : decode cL_law 126 = .ok (.iaload, 1) := by decide +kernel
theorem dL_law_127 : decode cL_law 127 = .ok (.invokevirtual 17, 3) := by decide +kernel
theorem dL_law_130 : decode cL_law 130 = .ok (.if_icmp .eq 562, 3) := by decide +kernel
theorem dL_law_133 : decode cL_law 133 = .ok (.iconst 0, 1) := by decide +kernel
theorem dL_law_134 : decode cL_law 134 = .ok (.ireturn, 1) := by decide +kernel
theorem dL_law_135 : decode cL_law 135 = .ok (.aload_n 1, 1) := by decide +kernel
theorem dL_law_136 : decode cL_law 136 = .ok (.aload_n 0, 1) := by decide +kernel
theorem dL_law_137 : decode cL_law 137 = .ok (.iload_n 3, 1) := by decide +kernel
theorem dL_law_138 : decode cL_law 138 = .ok (.iconst 1, 1) := by decide +kernel
theorem dL_law_139 : decode cL_law 139 = .ok (.iadd, 1) := by decide +kernel
theorem dL_law_140 : decode cL_law 140 = .ok (.iaload, 1) := by decide +kernel
theorem dL_law_141 : decode cL_law 141 = .ok (.aload_n 0, 1) := by decide +kernel
theorem dL_law_142 : decode cL_law 142 = .ok (.iload_n 3, 1) := by decide +kernel
theorem dL_law_143 : decode cL_law 143 = .ok (.iconst 2, 1) := by decide +kernel
theorem dL_law_144 : decode cL_law 144 = .ok (.iadd, 1) := by decide +kernel
theorem dL_law_145 : decode cL_law 145 = .ok (.iaload, 1) := by decide +kernel
theorem dL_law_146 : decode cL_law 146 = .ok (.aload_n 0, 1) := by decide +kernel
theorem dL_law_147 : decode cL_law 147 = .ok (.iload_n 3, 1) := by decide +kernel
theorem dL_law_148 : decode cL_law 148 = .ok (.iconst 3, 1) := by decide +kernel
theorem dL_law_149 : decode cL_law 149 = .ok (.iadd, 1) := by decide +kernel
theorem dL_law_150 : decode cL_law 150 = .ok (.iaload, 1) := by decide +kernel
theorem dL_law_151 : decode cL_law 151 = .ok (.aload_n 0, 1) := by decide +kernel
theorem dL_law_152 : decode cL_law 152 = .ok (.iload_n 3, 1) := by decide +kernel
theorem dL_law_153 : decode cL_law 153 = .ok (.iconst 4, 1) := by decide +kernel
theorem dL_law_154 : decode cL_law 154 = .ok (.iadd, 1) := by decide +kernel
theorem dL_law_155 : decode cL_law 155 = .ok (.iaload, 1) := by decide +kernel
theorem dL_law_156 : decode cL_law 156 = .ok (.invokevirtual 18, 3) := by decide +kernel
theorem dL_law_159 : decode cL_law 159 = .ok (.aload_n 2, 1) := by decide +kernel
theorem dL_law_160 : decode cL_law 160 = .ok (.aload_n 0, 1) := by decide +kernel
theorem dL_law_161 : decode cL_law 161 = .ok (.iload_n 3, 1) := by decide +kernel
theorem dL_law_162 : decode cL_law 162 = .ok (.iconst 1, 1) := by decide +kernel
theorem dL_law_163 : decode cL_law 163 = .ok (.iadd, 1) := by decide +kernel
theorem dL_law_164 : decode cL_law 164 = .ok (.iaload, 1) := by decide +kernel
theorem dL_law_165 : decode cL_law 165 = .ok (.aload_n 0, 1) := by decide +kernel
theorem dL_law_166 : decode cL_law 166 = .ok (.iload_n 3, 1) := by decide +kernel
theorem dL_law_167 : decode cL_law 167 = .ok (.iconst 2, 1) := by decide +kernel
theorem dL_law_168 : decode cL_law 168 = .ok (.iadd, 1) := by decide +kernel
theorem dL_law_169 : decode cL_law 169 = .ok (.iaload, 1) := by decide +kernel
theorem dL_law_170 : decode cL_law 170 = .ok (.aload_n 0, 1) := by decide +kernel
theorem dL_law_171 : decode cL_law 171 = .ok (.iload_n 3, 1) := by decide +kernel
theorem dL_law_172 : decode cL_law 172 = .ok (.iconst 3, 1) := by decide +kernel
theorem dL_law_173 : decode cL_law 173 = .ok (.iadd, 1) := by decide +kernel
theorem dL_law_174 : decode cL_law 174 = .ok (.iaload, 1) := by decide +kernel
theorem dL_law_175 : decode cL_law 175 = .ok (.aload_n 0, 1) := by decide +kernel
theorem dL_law_176 : decode cL_law 176 = .ok (.iload_n 3, 1) := by decide +kernel
theorem dL_law_177 : decode cL_law 177 = .ok (.iconst 4, 1) := by decide +kernel
theorem dL_law_178 : decode cL_law 178 = .ok (.iadd, 1) := by decide +kernel
theorem dL_law_179 : decode cL_law 179 = .ok (.iaload, 1) := by decide +kernel
theorem dL_law_180 : decode cL_law 180 = .ok (.invokevirtual 22, 3) := by decide +kernel
theorem dL_law_183 : decode cL_law 183 = .ok (.if_icmp .eq 509, 3) := by decide +kernel
theorem dL_law_186 : decode cL_law 186 = .ok (.iconst 0, 1) := by decide +kernel
theorem dL_law_187 : decode cL_law 187 = .ok (.ireturn, 1) := by decide +kernel
theorem dL_law_188 : decode cL_law 188 = .ok (.aload_n 1, 1) := by decide +kernel
theorem dL_law_189 : decode cL_law 189 = .ok (.aload_n 0, 1) := by decide +kernel
theorem dL_law_190 : decode cL_law 190 = .ok (.iload_n 3, 1) := by decide +kernel
theorem dL_law_191 : decode cL_law 191 = .ok (.iconst 1, 1) := by decide +kernel
theorem dL_law_192 : decode cL_law 192 = .ok (.iadd, 1) := by decide +kernel
theorem dL_law_193 : decode cL_law 193 = .ok (.iaload, 1) := by decide +kernel
theorem dL_law_194 : decode cL_law 194 = .ok (.aload_n 0, 1) := by decide +kernel
theorem dL_law_195 : decode cL_law 195 = .ok (.iload_n 3, 1) := by decide +kernel
theorem dL_law_196 : decode cL_law 196 = .ok (.iconst 2, 1) := by decide +kernel
theorem dL_law_197 : decode cL_law 197 = .ok (.iadd, 1) := by decide +kernel
theorem dL_law_198 : decode cL_law 198 = .ok (.iaload, 1) := by decide +kernel
theorem dL_law_199 : decode cL_law 199 = .ok (.aload_n 0, 1) := by decide +kernel
theorem dL_law_200 : decode cL_law 200 = .ok (.iload_n 3, 1) := by decide +kernel
theorem dL_law_201 : decode cL_law 201 = .ok (.iconst 3, 1) := by decide +kernel
theorem dL_law_202 : decode cL_law 202 = .ok (.iadd, 1) := by decide +kernel
theorem dL_law_203 : decode cL_law 203 = .ok (.iaload, 1) := by decide +kernel
theorem dL_law_204 : decode cL_law 204 = .ok (.invokevirtual 23, 3) := by decide +kernel
theorem dL_law_207 : decode cL_law 207 = .ok (.aload_n 2, 1) := by decide +kernel
theorem dL_law_208 : decode cL_law 208 = .ok (.aload_n 0, 1) := by decide +kernel
theorem dL_law_209 : decode cL_law 209 = .ok (.iload_n 3, 1) := by decide +kernel
theorem dL_law_210 : decode cL_law 210 = .ok (.iconst 1, 1) := by decide +kernel
theorem dL_law_211 : decode cL_law 211 = .ok (.iadd, 1) := by decide +kernel
theorem dL_law_212 : decode cL_law 212 = .ok (.iaload, 1) := by decide +kernel
theorem dL_law_213 : decode cL_law 213 = .ok (.aload_n 0, 1) := by decide +kernel
theorem dL_law_214 : decode cL_law 214 = .ok (.iload_n 3, 1) := by decide +kernel
theorem dL_law_215 : decode cL_law 215 = .ok (.iconst 2, 1) := by decide +kernel
theorem dL_law_216 : decode cL_law 216 = .ok (.iadd, 1) := by decide +kernel
theorem dL_law_217 : decode cL_law 217 = .ok (.iaload, 1) := by decide +kernel
theorem dL_law_218 : decode cL_law 218 = .ok (.aload_n 0, 1) := by decide +kernel
theorem dL_law_219 : decode cL_law 219 = .ok (.iload_n 3, 1) := by decide +kernel
theorem dL_law_220 : decode cL_law 220 = .ok (.iconst 3, 1) := by decide +kernel
theorem dL_law_221 : decode cL_law 221 = .ok (.iadd, 1) := by decide +kernel
theorem dL_law_222 : decode cL_law 222 = .ok (.iaload, 1) := by decide +kernel
theorem dL_law_223 : decode cL_law 223 = .ok (.invokevirtual 27, 3) := by decide +kernel
theorem dL_law_226 : decode cL_law 226 = .ok (.if_icmp .eq 466, 3) := by decide +kernel
theorem dL_law_229 : decode cL_law 229 = .ok (.iconst 0, 1) := by decide +kernel
theorem dL_law_230 : decode cL_law 230 = .ok (.ireturn, 1) := by decide +kernel
theorem dL_law_231 : decode cL_law 231 = .ok (.aload_n 1, 1) := by decide +kernel
theorem dL_law_232 : decode cL_law 232 = .ok (.aload_n 0, 1) := by decide +kernel
theorem dL_law_233 : decode cL_law 233 = .ok (.iload_n 3, 1) := by decide +kernel
theorem dL_law_234 : decode cL_law 234 = .ok (.iconst 1, 1) := by decide +kernel
theorem dL_law_235 : decode cL_law 235 = .ok (.iadd, 1) := by decide +kernel
theorem dL_law_236 : decode cL_law 236 = .ok (.iaload, 1) := by decide +kernel
theorem dL_law_237 : decode cL_law 237 = .ok (.aload_n 0, 1) := by decide +kernel
theorem dL_law_238 : decode cL_law 238 = .ok (.iload_n 3, 1) := by decide +kernel
theorem dL_law_239 : decode cL_law 239 = .ok (.iconst 2, 1) := by decide +kernel
theorem dL_law_240 : decode cL_law 240 = .ok (.iadd, 1) := by decide +kernel
theorem dL_law_241 : decode cL_law 241 = .ok (.iaload, 1) := by decide +kernel
theorem dL_law_242 : decode cL_law 242 = .ok (.invokevirtual 28, 3) := by decide +kernel
theorem dL_law_245 : decode cL_law 245 = .ok (.aload_n 2, 1) := by decide +kernel
theorem dL_law_246 : decode cL_law 246 = .ok (.aload_n 0, 1) := by decide +kernel
theorem dL_law_247 : decode cL_law 247 = .ok (.iload_n 3, 1) := by decide +kernel
theorem dL_law_248 : decode cL_law 248 = .ok (.iconst 1, 1) := by decide +kernel
theorem dL_law_249 : decode cL_law 249 = .ok (.iadd, 1) := by decide +kernel
theorem dL_law_250 : decode cL_law 250 = .ok (.iaload, 1) := by decide +kernel
theorem dL_law_251 : decode cL_law 251 = .ok (.aload_n 0, 1) := by decide +kernel
theorem dL_law_252 : decode cL_law 252 = .ok (.iload_n 3, 1) := by decide +kernel
theorem dL_law_253 : decode cL_law 253 = .ok (.iconst 2, 1) := by decide +kernel
theorem dL_law_254 : decode cL_law 254 = .ok (.iadd, 1) := by decide +kernel
theorem dL_law_255 : decode cL_law 255 = .ok (.iaload, 1) := by decide +kernel
theorem dL_law_256 : decode cL_law 256 = .ok (.invokevirtual 32, 3) := by decide +kernel
theorem dL_law_259 : decode cL_law 259 = .ok (.if_icmp .eq 433, 3) := by decide +kernel
theorem dL_law_262 : decode cL_law 262 = .ok (.iconst 0, 1) := by decide +kernel
theorem dL_law_263 : decode cL_law 263 = .ok (.ireturn, 1) := by decide +kernel
theorem dL_law_264 : decode cL_law 264 = .ok (.aload_n 1, 1) := by decide +kernel
theorem dL_law_265 : decode cL_law 265 = .ok (.aload_n 0, 1) := by decide +kernel
theorem dL_law_266 : decode cL_law 266 = .ok (.iload_n 3, 1) := by decide +kernel
theorem dL_law_267 : decode cL_law 267 = .ok (.iconst 1, 1) := by decide +kernel
theorem dL_law_268 : decode cL_law 268 = .ok (.iadd, 1) := by decide +kernel
theorem dL_law_269 : decode cL_law 269 = .ok (.iaload, 1) := by decide +kernel
theorem dL_law_270 : decode cL_law 270 = .ok (.aload_n 0, 1) := by decide +kernel
theorem dL_law_271 : decode cL_law 271 = .ok (.iload_n 3, 1) := by decide +kernel
theorem dL_law_272 : decode cL_law 272 = .ok (.iconst 2, 1) := by decide +kernel
theorem dL_law_273 : decode cL_law 273 = .ok (.iadd, 1) := by decide +kernel
theorem dL_law_274 : decode cL_law 274 = .ok (.iaload, 1) := by decide +kernel
theorem dL_law_275 : decode cL_law 275 = .ok (.aload_n 0, 1) := by decide +kernel
theorem dL_law_276 : decode cL_law 276 = .ok (.iload_n 3, 1) := by decide +kernel
theorem dL_law_277 : decode cL_law 277 = .ok (.iconst 3, 1) := by decide +kernel
theorem dL_law_278 : decode cL_law 278 = .ok (.iadd, 1) := by decide +kernel
theorem dL_law_279 : decode cL_law 279 = .ok (.iaload, 1) := by decide +kernel
theorem dL_law_280 : decode cL_law 280 = .ok (.ifCond .eq 7, 3) := by decide +kernel
theorem dL_law_283 : decode cL_law 283 = .ok (.iconst 1, 1) := by decide +kernel
theorem dL_law_284 : decode cL_law 284 = .ok (.goto 4, 3) := by decide +kernel
theorem dL_law_287 : decode cL_law 287 = .ok (.iconst 0, 1) := by decide +kernel
theorem dL_law_288 : decode cL_law 288 = .ok (.invokevirtual 33, 3) := by decide +kernel
theorem dL_law_291 : decode cL_law 291 = .ok (.aload_n 2, 1) := by decide +kernel
theorem dL_law_292 : decode cL_law 292 = .ok (.aload_n 0, 1) := by decide +kernel
theorem dL_law_293 : decode cL_law 293 = .ok (.iload_n 3, 1) := by decide +kernel
theorem dL_law_294 : decode cL_law 294 = .ok (.iconst 1, 1) := by decide +kernel
theorem dL_law_295 : decode cL_law 295 = .ok (.iadd, 1) := by decide +kernel
theorem dL_law_296 : decode cL_law 296 = .ok (.iaload, 1) := by decide +kernel
theorem dL_law_297 : decode cL_law 297 = .ok (.aload_n 0, 1) := by decide +kernel
theorem dL_law_298 : decode cL_law 298 = .ok (.iload_n 3, 1) := by decide +kernel
theorem dL_law_299 : decode cL_law 299 = .ok (.iconst 2, 1) := by decide +kernel
theorem dL_law_300 : decode cL_law 300 = .ok (.iadd, 1) := by decide +kernel
theorem dL_law_301 : decode cL_law 301 = .ok (.iaload, 1) := by decide +kernel
theorem dL_law_302 : decode cL_law 302 = .ok (.aload_n 0, 1) := by decide +kernel
theorem dL_law_303 : decode cL_law 303 = .ok (.iload_n 3, 1) := by decide +kernel
theorem dL_law_304 : decode cL_law 304 = .ok (.iconst 3, 1) := by decide +kernel
theorem dL_law_305 : decode cL_law 305 = .ok (.iadd, 1) := by decide +kernel
theorem dL_law_306 : decode cL_law 306 = .ok (.iaload, 1) := by decide +kernel
theorem dL_law_307 : decode cL_law 307 = .ok (.ifCond .eq 7, 3) := by decide +kernel
theorem dL_law_310 : decode cL_law 310 = .ok (.iconst 1, 1) := by decide +kernel
theorem dL_law_311 : decode cL_law 311 = .ok (.goto 4, 3) := by decide +kernel
theorem dL_law_314 : decode cL_law 314 = .ok (.iconst 0, 1) := by decide +kernel
theorem dL_law_315 : decode cL_law 315 = .ok (.invokevirtual 37, 3) := by decide +kernel
theorem dL_law_318 : decode cL_law 318 = .ok (.if_icmp .eq 374, 3) := by decide +kernel
theorem dL_law_321 : decode cL_law 321 = .ok (.iconst 0, 1) := by decide +kernel
theorem dL_law_322 : decode cL_law 322 = .ok (.ireturn, 1) := by decide +kernel
theorem dL_law_323 : decode cL_law 323 = .ok (.aload_n 1, 1) := by decide +kernel
theorem dL_law_324 : decode cL_law 324 = .ok (.aload_n 0, 1) := by decide +kernel
theorem dL_law_325 : decode cL_law 325 = .ok (.iload_n 3, 1) := by decide +kernel
theorem dL_law_326 : decode cL_law 326 = .ok (.iconst 1, 1) := by decide +kernel
theorem dL_law_327 : decode cL_law 327 = .ok (.iadd, 1) := by decide +kernel
theorem dL_law_328 : decode cL_law 328 = .ok (.iaload, 1) := by decide +kernel
theorem dL_law_329 : decode cL_law 329 = .ok (.aload_n 0, 1) := by decide +kernel
theorem dL_law_330 : decode cL_law 330 = .ok (.iload_n 3, 1) := by decide +kernel
theorem dL_law_331 : decode cL_law 331 = .ok (.iconst 2, 1) := by decide +kernel
theorem dL_law_332 : decode cL_law 332 = .ok (.iadd, 1) := by decide +kernel
theorem dL_law_333 : decode cL_law 333 = .ok (.iaload, 1) := by decide +kernel
theorem dL_law_334 : decode cL_law 334 = .ok (.aload_n 0, 1) := by decide +kernel
theorem dL_law_335 : decode cL_law 335 = .ok (.iload_n 3, 1) := by decide +kernel
theorem dL_law_336 : decode cL_law 336 = .ok (.iconst 3, 1) := by decide +kernel
theorem dL_law_337 : decode cL_law 337 = .ok (.iadd, 1) := by decide +kernel
theorem dL_law_338 : decode cL_law 338 = .ok (.iaload, 1) := by decide +kernel
theorem dL_law_339 : decode cL_law 339 = .ok (.ifCond .eq 7, 3) := by decide +kernel
theorem dL_law_342 : decode cL_law 342 = .ok (.iconst 1, 1) := by decide +kernel
theorem dL_law_343 : decode cL_law 343 = .ok (.goto 4, 3) := by decide +kernel
theorem dL_law_346 : decode cL_law 346 = .ok (.iconst 0, 1) := by decide +kernel
theorem dL_law_347 : decode cL_law 347 = .ok (.invokevirtual 38, 3) := by decide +kernel
theorem dL_law_350 : decode cL_law 350 = .ok (.aload_n 2, 1) := by decide +kernel
theorem dL_law_351 : decode cL_law 351 = .ok (.aload_n 0, 1) := by decide +kernel
theorem dL_law_352 : decode cL_law 352 = .ok (.iload_n 3, 1) := by decide +kernel
theorem dL_law_353 : decode cL_law 353 = .ok (.iconst 1, 1) := by decide +kernel
theorem dL_law_354 : decode cL_law 354 = .ok (.iadd, 1) := by decide +kernel
theorem dL_law_355 : decode cL_law 355 = .ok (.iaload, 1) := by decide +kernel
theorem dL_law_356 : decode cL_law 356 = .ok (.aload_n 0, 1) := by decide +kernel
theorem dL_law_357 : decode cL_law 357 = .ok (.iload_n 3, 1) := by decide +kernel
theorem dL_law_358 : decode cL_law 358 = .ok (.iconst 2, 1) := by decide +kernel
theorem dL_law_359 : decode cL_law 359 = .ok (.iadd, 1) := by decide +kernel
theorem dL_law_360 : decode cL_law 360 = .ok (.iaload, 1) := by decide +kernel
theorem dL_law_361 : decode cL_law 361 = .ok (.aload_n 0, 1) := by decide +kernel
theorem dL_law_362 : decode cL_law 362 = .ok (.iload_n 3, 1) := by decide +kernel
theorem dL_law_363 : decode cL_law 363 = .ok (.iconst 3, 1) := by decide +kernel
theorem dL_law_364 : decode cL_law 364 = .ok (.iadd, 1) := by decide +kernel
theorem dL_law_365 : decode cL_law 365 = .ok (.iaload, 1) := by decide +kernel
theorem dL_law_366 : decode cL_law 366 = .ok (.ifCond .eq 7, 3) := by decide +kernel
theorem dL_law_369 : decode cL_law 369 = .ok (.iconst 1, 1) := by decide +kernel
theorem dL_law_370 : decode cL_law 370 = .ok (.goto 4, 3) := by decide +kernel
theorem dL_law_373 : decode cL_law 373 = .ok (.iconst 0, 1) := by decide +kernel
theorem dL_law_374 : decode cL_law 374 = .ok (.invokevirtual 42, 3) := by decide +kernel
theorem dL_law_377 : decode cL_law 377 = .ok (.if_icmp .eq 315, 3) := by decide +kernel
theorem dL_law_380 : decode cL_law 380 = .ok (.iconst 0, 1) := by decide +kernel
theorem dL_law_381 : decode cL_law 381 = .ok (.ireturn, 1) := by decide +kernel
theorem dL_law_382 : decode cL_law 382 = .ok (.aload_n 1, 1) := by decide +kernel
theorem dL_law_383 : decode cL_law 383 = .ok (.aload_n 0, 1) := by decide +kernel
theorem dL_law_384 : decode cL_law 384 = .ok (.iload_n 3, 1) := by decide +kernel
theorem dL_law_385 : decode cL_law 385 = .ok (.iconst 1, 1) := by decide +kernel
theorem dL_law_386 : decode cL_law 386 = .ok (.iadd, 1) := by decide +kernel
theorem dL_law_387 : decode cL_law 387 = .ok (.iaload, 1) := by decide +kernel
theorem dL_law_388 : decode cL_law 388 = .ok (.aload_n 0, 1) := by decide +kernel
theorem dL_law_389 : decode cL_law 389 = .ok (.iload_n 3, 1) := by decide +kernel
theorem dL_law_390 : decode cL_law 390 = .ok (.iconst 2, 1) := by decide +kernel
theorem dL_law_391 : decode cL_law 391 = .ok (.iadd, 1) := by decide +kernel
theorem dL_law_392 : decode cL_law 392 = .ok (.iaload, 1) := by decide +kernel
theorem dL_law_393 : decode cL_law 393 = .ok (.invokevirtual 43, 3) := by decide +kernel
theorem dL_law_396 : decode cL_law 396 = .ok (.aload_n 2, 1) := by decide +kernel
theorem dL_law_397 : decode cL_law 397 = .ok (.aload_n 0, 1) := by decide +kernel
theorem dL_law_398 : decode cL_law 398 = .ok (.iload_n 3, 1) := by decide +kernel
theorem dL_law_399 : decode cL_law 399 = .ok (.iconst 1, 1) := by decide +kernel
theorem dL_law_400 : decode cL_law 400 = .ok (.iadd, 1) := by decide +kernel
theorem dL_law_401 : decode cL_law 401 = .ok (.iaload, 1) := by decide +kernel
theorem dL_law_402 : decode cL_law 402 = .ok (.aload_n 0, 1) := by decide +kernel
theorem dL_law_403 : decode cL_law 403 = .ok (.iload_n 3, 1) := by decide +kernel
theorem dL_law_404 : decode cL_law 404 = .ok (.iconst 2, 1) := by decide +kernel
theorem dL_law_405 : decode cL_law 405 = .ok (.iadd, 1) := by decide +kernel
theorem dL_law_406 : decode cL_law 406 = .ok (.iaload, 1) := by decide +kernel
theorem dL_law_407 : decode cL_law 407 = .ok (.invokevirtual 47, 3) := by decide +kernel
theorem dL_law_410 : decode cL_law 410 = .ok (.if_icmp .eq 282, 3) := by decide +kernel
theorem dL_law_413 : decode cL_law 413 = .ok (.iconst 0, 1) := by decide +kernel
theorem dL_law_414 : decode cL_law 414 = .ok (.ireturn, 1) := by decide +kernel
theorem dL_law_415 : decode cL_law 415 = .ok (.aload_n 1, 1) := by decide +kernel
theorem dL_law_416 : decode cL_law 416 = .ok (.aload_n 0, 1) := by decide +kernel
theorem dL_law_417 : decode cL_law 417 = .ok (.iload_n 3, 1) := by decide +kernel
theorem dL_law_418 : decode cL_law 418 = .ok (.iconst 1, 1) := by decide +kernel
theorem dL_law_419 : decode cL_law 419 = .ok (.iadd, 1) := by decide +kernel
theorem dL_law_420 : decode cL_law 420 = .ok (.iaload, 1) := by decide +kernel
theorem dL_law_421 : decode cL_law 421 = .ok (.aload_n 0, 1) := by decide +kernel
theorem dL_law_422 : decode cL_law 422 = .ok (.iload_n 3, 1) := by decide +kernel
theorem dL_law_423 : decode cL_law 423 = .ok (.iconst 2, 1) := by decide +kernel
theorem dL_law_424 : decode cL_law 424 = .ok (.iadd, 1) := by decide +kernel
theorem dL_law_425 : decode cL_law 425 = .ok (.iaload, 1) := by decide +kernel
theorem dL_law_426 : decode cL_law 426 = .ok (.aload_n 0, 1) := by decide +kernel
theorem dL_law_427 : decode cL_law 427 = .ok (.iload_n 3, 1) := by decide +kernel
theorem dL_law_428 : decode cL_law 428 = .ok (.iconst 3, 1) := by decide +kernel
theorem dL_law_429 : decode cL_law 429 = .ok (.iadd, 1) := by decide +kernel
theorem dL_law_430 : decode cL_law 430 = .ok (.iaload, 1) := by decide +kernel
theorem dL_law_431 : decode cL_law 431 = .ok (.invokevirtual 48, 3) := by decide +kernel
theorem dL_law_434 : decode cL_law 434 = .ok (.aload_n 2, 1) := by decide +kernel
theorem dL_law_435 : decode cL_law 435 = .ok (.aload_n 0, 1) := by decide +kernel
theorem dL_law_436 : decode cL_law 436 = .ok (.iload_n 3, 1) := by decide +kernel
theorem dL_law_437 : decode cL_law 437 = .ok (.iconst 1, 1) := by decide +kernel
theorem dL_law_438 : decode cL_law 438 = .ok (.iadd, 1) := by decide +kernel
theorem dL_law_439 : decode cL_law 439 = .ok (.iaload, 1) := by decide +kernel
theorem dL_law_440 : decode cL_law 440 = .ok (.aload_n 0, 1) := by decide +kernel
theorem dL_law_441 : decode cL_law 441 = .ok (.iload_n 3, 1) := by decide +kernel
theorem dL_law_442 : decode cL_law 442 = .ok (.iconst 2, 1) := by decide +kernel
theorem dL_law_443 : decode cL_law 443 = .ok (.iadd, 1) := by decide +kernel
theorem dL_law_444 : decode cL_law 444 = .ok (.iaload, 1) := by decide +kernel
theorem dL_law_445 : decode cL_law 445 = .ok (.aload_n 0, 1) := by decide +kernel
theorem dL_law_446 : decode cL_law 446 = .ok (.iload_n 3, 1) := by decide +kernel
theorem dL_law_447 : decode cL_law 447 = .ok (.iconst 3, 1) := by decide +kernel
theorem dL_law_448 : decode cL_law 448 = .ok (.iadd, 1) := by decide +kernel
theorem dL_law_449 : decode cL_law 449 = .ok (.iaload, 1) := by decide +kernel
theorem dL_law_450 : decode cL_law 450 = .ok (.invokevirtual 51, 3) := by decide +kernel
theorem dL_law_453 : decode cL_law 453 = .ok (.if_icmp .eq 239, 3) := by decide +kernel
theorem dL_law_456 : decode cL_law 456 = .ok (.iconst 0, 1) := by decide +kernel
theorem dL_law_457 : decode cL_law 457 = .ok (.ireturn, 1) := by decide +kernel
theorem dL_law_458 : decode cL_law 458 = .ok (.aload_n 1, 1) := by decide +kernel
theorem dL_law_459 : decode cL_law 459 = .ok (.aload_n 0, 1) := by decide +kernel
theorem dL_law_460 : decode cL_law 460 = .ok (.iload_n 3, 1) := by decide +kernel
theorem dL_law_461 : decode cL_law 461 = .ok (.iconst 1, 1) := by decide +kernel
theorem dL_law_462 : decode cL_law 462 = .ok (.iadd, 1) := by decide +kernel
theorem dL_law_463 : decode cL_law 463 = .ok (.iaload, 1) := by decide +kernel
theorem dL_law_464 : decode cL_law 464 = .ok (.aload_n 0, 1) := by decide +kernel
theorem dL_law_465 : decode cL_law 465 = .ok (.iload_n 3, 1) := by decide +kernel
theorem dL_law_466 : decode cL_law 466 = .ok (.iconst 2, 1) := by decide +kernel
theorem dL_law_467 : decode cL_law 467 = .ok (.iadd, 1) := by decide +kernel
theorem dL_law_468 : decode cL_law 468 = .ok (.iaload, 1) := by decide +kernel
theorem dL_law_469 : decode cL_law 469 = .ok (.invokevirtual 52, 3) := by decide +kernel
theorem dL_law_472 : decode cL_law 472 = .ok (.aload_n 2, 1) := by decide +kernel
theorem dL_law_473 : decode cL_law 473 = .ok (.aload_n 0, 1) := by decide +kernel
theorem dL_law_474 : decode cL_law 474 = .ok (.iload_n 3, 1) := by decide +kernel
theorem dL_law_475 : decode cL_law 475 = .ok (.iconst 1, 1) := by decide +kernel
theorem dL_law_476 : decode cL_law 476 = .ok (.iadd, 1) := by decide +kernel
theorem dL_law_477 : decode cL_law 477 = .ok (.iaload, 1) := by decide +kernel
theorem dL_law_478 : decode cL_law 478 = .ok (.aload_n 0, 1) := by decide +kernel
theorem dL_law_479 : decode cL_law 479 = .ok (.iload_n 3, 1) := by decide +kernel
theorem dL_law_480 : decode cL_law 480 = .ok (.iconst 2, 1) := by decide +kernel
theorem dL_law_481 : decode cL_law 481 = .ok (.iadd, 1) := by decide +kernel
theorem dL_law_482 : decode cL_law 482 = .ok (.iaload, 1) := by decide +kernel
theorem dL_law_483 : decode cL_law 483 = .ok (.invokevirtual 55, 3) := by decide +kernel
theorem dL_law_486 : decode cL_law 486 = .ok (.if_icmp .eq 206, 3) := by decide +kernel
theorem dL_law_489 : decode cL_law 489 = .ok (.iconst 0, 1) := by decide +kernel
theorem dL_law_490 : decode cL_law 490 = .ok (.ireturn, 1) := by decide +kernel
theorem dL_law_491 : decode cL_law 491 = .ok (.aload_n 1, 1) := by decide +kernel
theorem dL_law_492 : decode cL_law 492 = .ok (.aload_n 0, 1) := by decide +kernel
theorem dL_law_493 : decode cL_law 493 = .ok (.iload_n 3, 1) := by decide +kernel
theorem dL_law_494 : decode cL_law 494 = .ok (.iconst 1, 1) := by decide +kernel
theorem dL_law_495 : decode cL_law 495 = .ok (.iadd, 1) := by decide +kernel
theorem dL_law_496 : decode cL_law 496 = .ok (.iaload, 1) := by decide +kernel
theorem dL_law_497 : decode cL_law 497 = .ok (.invokevirtual 56, 3) := by decide +kernel
theorem dL_law_500 : decode cL_law 500 = .ok (.aload_n 2, 1) := by decide +kernel
theorem dL_law_501 : decode cL_law 501 = .ok (.aload_n 0, 1) := by decide +kernel
theorem dL_law_502 : decode cL_law 502 = .ok (.iload_n 3, 1) := by decide +kernel
theorem dL_law_503 : decode cL_law 503 = .ok (.iconst 1, 1) := by decide +kernel
theorem dL_law_504 : decode cL_law 504 = .ok (.iadd, 1) := by decide +kernel
theorem dL_law_505 : decode cL_law 505 = .ok (.iaload, 1) := by decide +kernel
theorem dL_law_506 : decode cL_law 506 = .ok (.invokevirtual 59, 3) := by decide +kernel
theorem dL_law_509 : decode cL_law 509 = .ok (.if_icmp .eq 183, 3) := by decide +kernel
theorem dL_law_512 : decode cL_law 512 = .ok (.iconst 0, 1) := by decide +kernel
theorem dL_law_513 : decode cL_law 513 = .ok (.ireturn, 1) := by decide +kernel
theorem dL_law_514 : decode cL_law 514 = .ok (.aload_n 1, 1) := by decide +kernel
theorem dL_law_515 : decode cL_law 515 = .ok (.aload_n 0, 1) := by decide +kernel
theorem dL_law_516 : decode cL_law 516 = .ok (.iload_n 3, 1) := by decide +kernel
theorem dL_law_517 : decode cL_law 517 = .ok (.iconst 1, 1) := by decide +kernel
theorem dL_law_518 : decode cL_law 518 = .ok (.iadd, 1) := by decide +kernel
theorem dL_law_519 : decode cL_law 519 = .ok (.iaload, 1) := by decide +kernel
theorem dL_law_520 : decode cL_law 520 = .ok (.aload_n 0, 1) := by decide +kernel
theorem dL_law_521 : decode cL_law 521 = .ok (.iload_n 3, 1) := by decide +kernel
theorem dL_law_522 : decode cL_law 522 = .ok (.iconst 2, 1) := by decide +kernel
theorem dL_law_523 : decode cL_law 523 = .ok (.iadd, 1) := by decide +kernel
theorem dL_law_524 : decode cL_law 524 = .ok (.iaload, 1) := by decide +kernel
theorem dL_law_525 : decode cL_law 525 = .ok (.invokevirtual 60, 3) := by decide +kernel
theorem dL_law_528 : decode cL_law 528 = .ok (.aload_n 2, 1) := by decide +kernel
theorem dL_law_529 : decode cL_law 529 = .ok (.aload_n 0, 1) := by decide +kernel
theorem dL_law_530 : decode cL_law 530 = .ok (.iload_n 3, 1) := by decide +kernel
theorem dL_law_531 : decode cL_law 531 = .ok (.iconst 1, 1) := by decide +kernel
theorem dL_law_532 : decode cL_law 532 = .ok (.iadd, 1) := by decide +kernel
theorem dL_law_533 : decode cL_law 533 = .ok (.iaload, 1) := by decide +kernel
theorem dL_law_534 : decode cL_law 534 = .ok (.aload_n 0, 1) := by decide +kernel
theorem dL_law_535 : decode cL_law 535 = .ok (.iload_n 3, 1) := by decide +kernel
theorem dL_law_536 : decode cL_law 536 = .ok (.iconst 2, 1) := by decide +kernel
theorem dL_law_537 : decode cL_law 537 = .ok (.iadd, 1) := by decide +kernel
theorem dL_law_538 : decode cL_law 538 = .ok (.iaload, 1) := by decide +kernel
theorem dL_law_539 : decode cL_law 539 = .ok (.invokevirtual 63, 3) := by decide +kernel
theorem dL_law_542 : decode cL_law 542 = .ok (.if_icmp .eq 150, 3) := by decide +kernel
theorem dL_law_545 : decode cL_law 545 = .ok (.iconst 0, 1) := by decide +kernel
theorem dL_law_546 : decode cL_law 546 = .ok (.ireturn, 1) := by decide +kernel
theorem dL_law_547 : decode cL_law 547 = .ok (.aload_n 1, 1) := by decide +kernel
theorem dL_law_548 : decode cL_law 548 = .ok (.aload_n 0, 1) := by decide +kernel
theorem dL_law_549 : decode cL_law 549 = .ok (.iload_n 3, 1) := by decide +kernel
theorem dL_law_550 : decode cL_law 550 = .ok (.iconst 1, 1) := by decide +kernel
theorem dL_law_551 : decode cL_law 551 = .ok (.iadd, 1) := by decide +kernel
theorem dL_law_552 : decode cL_law 552 = .ok (.iaload, 1) := by decide +kernel
theorem dL_law_553 : decode cL_law 553 = .ok (.invokevirtual 64, 3) := by decide +kernel
theorem dL_law_556 : decode cL_law 556 = .ok (.aload_n 2, 1) := by decide +kernel
theorem dL_law_557 : decode cL_law 557 = .ok (.aload_n 0, 1) := by decide +kernel
theorem dL_law_558 : decode cL_law 558 = .ok (.iload_n 3, 1) := by decide +kernel
theorem dL_law_559 : decode cL_law 559 = .ok (.iconst 1, 1) := by decide +kernel
theorem dL_law_560 : decode cL_law 560 = .ok (.iadd, 1) := by decide +kernel
theorem dL_law_561 : decode cL_law 561 = .ok (.iaload, 1) := by decide +kernel
theorem dL_law_562 : decode cL_law 562 = .ok (.invokevirtual 67, 3) := by decide +kernel
theorem dL_law_565 : decode cL_law 565 = .ok (.if_icmp .eq 127, 3) := by decide +kernel
theorem dL_law_568 : decode cL_law 568 = .ok (.iconst 0, 1) := by decide +kernel
theorem dL_law_569 : decode cL_law 569 = .ok (.ireturn, 1) := by decide +kernel
theorem dL_law_570 : decode cL_law 570 = .ok (.aload_n 1, 1) := by decide +kernel
theorem dL_law_571 : decode cL_law 571 = .ok (.aload_n 0, 1) := by decide +kernel
theorem dL_law_572 : decode cL_law 572 = .ok (.iload_n 3, 1) := by decide +kernel
theorem dL_law_573 : decode cL_law 573 = .ok (.iconst 1, 1) := by decide +kernel
theorem dL_law_574 : decode cL_law 574 = .ok (.iadd, 1) := by decide +kernel
theorem dL_law_575 : decode cL_law 575 = .ok (.iaload, 1) := by decide +kernel
theorem dL_law_576 : decode cL_law 576 = .ok (.aload_n 0, 1) := by decide +kernel
theorem dL_law_577 : decode cL_law 577 = .ok (.iload_n 3, 1) := by decide +kernel
theorem dL_law_578 : decode cL_law 578 = .ok (.iconst 2, 1) := by decide +kernel
theorem dL_law_579 : decode cL_law 579 = .ok (.iadd, 1) := by decide +kernel
theorem dL_law_580 : decode cL_law 580 = .ok (.iaload, 1) := by decide +kernel
theorem dL_law_581 : decode cL_law 581 = .ok (.invokevirtual 68, 3) := by decide +kernel
theorem dL_law_584 : decode cL_law 584 = .ok (.aload_n 2, 1) := by decide +kernel
theorem dL_law_585 : decode cL_law 585 = .ok (.aload_n 0, 1) := by decide +kernel
theorem dL_law_586 : decode cL_law 586 = .ok (.iload_n 3, 1) := by decide +kernel
theorem dL_law_587 : decode cL_law 587 = .ok (.iconst 1, 1) := by decide +kernel
theorem dL_law_588 : decode cL_law 588 = .ok (.iadd, 1) := by decide +kernel
theorem dL_law_589 : decode cL_law 589 = .ok (.iaload, 1) := by decide +kernel
theorem dL_law_590 : decode cL_law 590 = .ok (.aload_n 0, 1) := by decide +kernel
theorem dL_law_591 : decode cL_law 591 = .ok (.iload_n 3, 1) := by decide +kernel
theorem dL_law_592 : decode cL_law 592 = .ok (.iconst 2, 1) := by decide +kernel
theorem dL_law_593 : decode cL_law 593 = .ok (.iadd, 1) := by decide +kernel
theorem dL_law_594 : decode cL_law 594 = .ok (.iaload, 1) := by decide +kernel
theorem dL_law_595 : decode cL_law 595 = .ok (.invokevirtual 71, 3) := by decide +kernel
theorem dL_law_598 : decode cL_law 598 = .ok (.if_icmp .eq 94, 3) := by decide +kernel
theorem dL_law_601 : decode cL_law 601 = .ok (.iconst 0, 1) := by decide +kernel
theorem dL_law_602 : decode cL_law 602 = .ok (.ireturn, 1) := by decide +kernel
theorem dL_law_603 : decode cL_law 603 = .ok (.aload_n 1, 1) := by decide +kernel
theorem dL_law_604 : decode cL_law 604 = .ok (.aload_n 0, 1) := by decide +kernel
theorem dL_law_605 : decode cL_law 605 = .ok (.iload_n 3, 1) := by decide +kernel
theorem dL_law_606 : decode cL_law 606 = .ok (.iconst 1, 1) := by decide +kernel
theorem dL_law_607 : decode cL_law 607 = .ok (.iadd, 1) := by decide +kernel
theorem dL_law_608 : decode cL_law 608 = .ok (.iaload, 1) := by decide +kernel
theorem dL_law_609 : decode cL_law 609 = .ok (.aload_n 0, 1) := by decide +kernel
theorem dL_law_610 : decode cL_law 610 = .ok (.iload_n 3, 1) := by decide +kernel
theorem dL_law_611 : decode cL_law 611 = .ok (.iconst 2, 1) := by decide +kernel
theorem dL_law_612 : decode cL_law 612 = .ok (.iadd, 1) := by decide +kernel
theorem dL_law_613 : decode cL_law 613 = .ok (.iaload, 1) := by decide +kernel
theorem dL_law_614 : decode cL_law 614 = .ok (.invokevirtual 72, 3) := by decide +kernel
theorem dL_law_617 : decode cL_law 617 = .ok (.aload_n 2, 1) := by decide +kernel
theorem dL_law_618 : decode cL_law 618 = .ok (.aload_n 0, 1) := by decide +kernel
theorem dL_law_619 : decode cL_law 619 = .ok (.iload_n 3, 1) := by decide +kernel
theorem dL_law_620 : decode cL_law 620 = .ok (.iconst 1, 1) := by decide +kernel
theorem dL_law_621 : decode cL_law 621 = .ok (.iadd, 1) := by decide +kernel
theorem dL_law_622 : decode cL_law 622 = .ok (.iaload, 1) := by decide +kernel
theorem dL_law_623 : decode cL_law 623 = .ok (.aload_n 0, 1) := by decide +kernel
theorem dL_law_624 : decode cL_law 624 = .ok (.iload_n 3, 1) := by decide +kernel
theorem dL_law_625 : decode cL_law 625 = .ok (.iconst 2, 1) := by decide +kernel
theorem dL_law_626 : decode cL_law 626 = .ok (.iadd, 1) := by decide +kernel
theorem dL_law_627 : decode cL_law 627 = .ok (.iaload, 1) := by decide +kernel
theorem dL_law_628 : decode cL_law 628 = .ok (.invokevirtual 75, 3) := by decide +kernel
theorem dL_law_631 : decode cL_law 631 = .ok (.if_icmp .eq 61, 3) := by decide +kernel
theorem dL_law_634 : decode cL_law 634 = .ok (.iconst 0, 1) := by decide +kernel
theorem dL_law_635 : decode cL_law 635 = .ok (.ireturn, 1) := by decide +kernel
theorem dL_law_636 : decode cL_law 636 = .ok (.aload_n 1, 1) := by decide +kernel
theorem dL_law_637 : decode cL_law 637 = .ok (.aload_n 0, 1) := by decide +kernel
theorem dL_law_638 : decode cL_law 638 = .ok (.iload_n 3, 1) := by decide +kernel
theorem dL_law_639 : decode cL_law 639 = .ok (.iconst 1, 1) := by decide +kernel
theorem dL_law_640 : decode cL_law 640 = .ok (.iadd, 1) := by decide +kernel
theorem dL_law_641 : decode cL_law 641 = .ok (.iaload, 1) := by decide +kernel
theorem dL_law_642 : decode cL_law 642 = .ok (.aload_n 0, 1) := by decide +kernel
theorem dL_law_643 : decode cL_law 643 = .ok (.iload_n 3, 1) := by decide +kernel
theorem dL_law_644 : decode cL_law 644 = .ok (.iconst 2, 1) := by decide +kernel
theorem dL_law_645 : decode cL_law 645 = .ok (.iadd, 1) := by decide +kernel
theorem dL_law_646 : decode cL_law 646 = .ok (.iaload, 1) := by decide +kernel
theorem dL_law_647 : decode cL_law 647 = .ok (.invokevirtual 76, 3) := by decide +kernel
theorem dL_law_650 : decode cL_law 650 = .ok (.aload_n 2, 1) := by decide +kernel
theorem dL_law_651 : decode cL_law 651 = .ok (.aload_n 0, 1) := by decide +kernel
theorem dL_law_652 : decode cL_law 652 = .ok (.iload_n 3, 1) := by decide +kernel
theorem dL_law_653 : decode cL_law 653 = .ok (.iconst 1, 1) := by decide +kernel
theorem dL_law_654 : decode cL_law 654 = .ok (.iadd, 1) := by decide +kernel
theorem dL_law_655 : decode cL_law 655 = .ok (.iaload, 1) := by decide +kernel
theorem dL_law_656 : decode cL_law 656 = .ok (.aload_n 0, 1) := by decide +kernel
theorem dL_law_657 : decode cL_law 657 = .ok (.iload_n 3, 1) := by decide +kernel
theorem dL_law_658 : decode cL_law 658 = .ok (.iconst 2, 1) := by decide +kernel
theorem dL_law_659 : decode cL_law 659 = .ok (.iadd, 1) := by decide +kernel
theorem dL_law_660 : decode cL_law 660 = .ok (.iaload, 1) := by decide +kernel
theorem dL_law_661 : decode cL_law 661 = .ok (.invokevirtual 79, 3) := by decide +kernel
theorem dL_law_664 : decode cL_law 664 = .ok (.if_icmp .eq 28, 3) := by decide +kernel
theorem dL_law_667 : decode cL_law 667 = .ok (.iconst 0, 1) := by decide +kernel
theorem dL_law_668 : decode cL_law 668 = .ok (.ireturn, 1) := by decide +kernel
theorem dL_law_669 : decode cL_law 669 = .ok (.aload_n 1, 1) := by decide +kernel
theorem dL_law_670 : decode cL_law 670 = .ok (.aload_n 0, 1) := by decide +kernel
theorem dL_law_671 : decode cL_law 671 = .ok (.iload_n 3, 1) := by decide +kernel
theorem dL_law_672 : decode cL_law 672 = .ok (.iconst 1, 1) := by decide +kernel
theorem dL_law_673 : decode cL_law 673 = .ok (.iadd, 1) := by decide +kernel
theorem dL_law_674 : decode cL_law 674 = .ok (.iaload, 1) := by decide +kernel
theorem dL_law_675 : decode cL_law 675 = .ok (.invokevirtual 80, 3) := by decide +kernel
theorem dL_law_678 : decode cL_law 678 = .ok (.aload_n 2, 1) := by decide +kernel
theorem dL_law_679 : decode cL_law 679 = .ok (.aload_n 0, 1) := by decide +kernel
theorem dL_law_680 : decode cL_law 680 = .ok (.iload_n 3, 1) := by decide +kernel
theorem dL_law_681 : decode cL_law 681 = .ok (.iconst 1, 1) := by decide +kernel
theorem dL_law_682 : decode cL_law 682 = .ok (.iadd, 1) := by decide +kernel
theorem dL_law_683 : decode cL_law 683 = .ok (.iaload, 1) := by decide +kernel
theorem dL_law_684 : decode cL_law 684 = .ok (.invokevirtual 83, 3) := by decide +kernel
theorem dL_law_687 : decode cL_law 687 = .ok (.if_icmp .eq 5, 3) := by decide +kernel
theorem dL_law_690 : decode cL_law 690 = .ok (.iconst 0, 1) := by decide +kernel
theorem dL_law_691 : decode cL_law 691 = .ok (.ireturn, 1) := by decide +kernel
theorem dL_law_692 : decode cL_law 692 = .ok (.iinc 3 5, 3) := by decide +kernel
theorem dL_law_695 : decode cL_law 695 = .ok (.goto (-677), 3) := by decide +kernel
theorem dL_law_698 : decode cL_law 698 = .ok (.iconst 1, 1) := by decide +kernel
theorem dL_law_699 : decode cL_law 699 = .ok (.ireturn, 1) := by decide +kernel
