set_option maxRecDepth 20000 in
theorem ggX9_alarm_X9_isIn : GoodIn wsX9_alarm wsX9_isIn := goodIn_r _ [20] (by decide +kernel) (by decide +kernel)
set_option maxRecDepth 20000 in
theorem gX9_alarm_X9_isIn : GoodIn wsX9_alarm (va_wsS RX9 96 yX9_isIn wsX9_isIn) := goodIn_app (goodIn_of _ (by decide +kernel)) ggX9_alarm_X9_isIn
set_option maxRecDepth 20000 in
theorem ggX9_alarm_X9_isLive : GoodIn wsX9_alarm wsX9_isLive := goodIn_r _ [24, 25, 8, 9, 29, 30, 31, 32, 33, 34, 35, 36, 37, 38, 39, 40, 41, 42, 43, 44, 45, 46, 47, 48, 49, 50, 51, 52, 53, 54, 55, 56, 57, 58, 59, 60, 61, 62, 63, 64, 65] (by decide +kernel) (by decide +kernel)
set_option maxRecDepth 20000 in
theorem gX9_alarm_X9_isLive : GoodIn wsX9_alarm (wsV RX9 103 RX9 yX9_isLive wsX9_isLive) := goodIn_app (goodIn_of _ (by decide +kernel)) ggX9_alarm_X9_isLive
set_option maxRecDepth 20000 in
theorem ggX9_alarm_X9_one : GoodIn wsX9_alarm wsX9_one := goodIn_r _ [28] (by decide +kernel) (by decide +kernel)
set_option maxRecDepth 20000 in
theorem gX9_alarm_X9_one : GoodIn wsX9_alarm (va_wsS RX9 107 yX9_one wsX9_one) := goodIn_app (goodIn_of _ (by decide +kernel)) ggX9_alarm_X9_one
theorem dX9_alarm_0 : decode cX9_alarm 0 = .ok (.iload_n 1, 1) := by decide +kernel
theorem dX9_alarm_1 : decode cX9_alarm 1 = .ok (.iconst 0, 1) := by decide +kernel
theorem dX9_alarm_2 : decode cX9_alarm 2 = .ok (.bipush 9, 2) := by decide +kernel
theorem dX9_alarm_4 : decode cX9_alarm 4 = .ok (.invokestatic 96, 3) := by decide +kernel
theorem dX9_alarm_7 : decode cX9_alarm 7 = .ok (.ifCond .eq 35, 3) := by decide +kernel
theorem dX9_alarm_10 : decode cX9_alarm 10 = .ok (.iload_n 2, 1) := by decide +kernel
theorem dX9_alarm_11 : decode cX9_alarm 11 = .ok (.iconst 0, 1) := by decide +kernel
theorem dX9_alarm_12 : decode cX9_alarm 12 = .ok (.bipush 39, 2) := by decide +kernel
theorem dX9_alarm_14 : decode cX9_alarm 14 = .ok (.invokestatic 96, 3) := by decide +kernel
theorem dX9_alarm_17 : decode cX9_alarm 17 = .ok (.ifCond .eq 25, 3) := by decide +kernel
theorem dX9_alarm_20 : decode cX9_alarm 20 = .ok (.iload_n 3, 1) := by decide +kernel
theorem dX9_alarm_21 : decode cX9_alarm 21 = .ok (.iconst 0, 1) := by decide +kernel
theorem dX9_alarm_22 : decode cX9_alarm 22 = .ok (.sipush 4095, 3) := by decide +kernel
theorem dX9_alarm_25 : decode cX9_alarm 25 = .ok (.invokestatic 96, 3) := by decide +kernel
theorem dX9_alarm_28 : decode cX9_alarm 28 = .ok (.ifCond .eq 14, 3) := by decide +kernel
theorem dX9_alarm_31 : decode cX9_alarm 31 = .ok (.iload 4, 2) := by decide +kernel
theorem dX9_alarm_33 : decode cX9_alarm 33 = .ok (.iconst 1, 1) := by decide +kernel
theorem dX9_alarm_34 : decode cX9_alarm 34 = .ok (.bipush 100, 2) := by decide +kernel
theorem dX9_alarm_36 : decode cX9_alarm 36 = .ok (.invokestatic 96, 3) := by decide +kernel
theorem dX9_alarm_39 : decode cX9_alarm 39 = .ok (.ifCond .ne 6, 3) := by decide +kernel
theorem dX9_alarm_42 : decode cX9_alarm 42 = .ok (.bipush (-2), 2) := by decide +kernel
theorem dX9_alarm_44 : decode cX9_alarm 44 = .ok (.ireturn, 1) := by decide +kernel
theorem dX9_alarm_45 : decode cX9_alarm 45 = .ok (.aload_n 0, 1) := by decide +kernel
theorem dX9_alarm_46 : decode cX9_alarm 46 = .ok (.getfield 93, 3) := by decide +kernel
theorem dX9_alarm_49 : decode cX9_alarm 49 = .ok (.iconst 1, 1) := by decide +kernel
theorem dX9_alarm_50 : decode cX9_alarm 50 = .ok (.isub, 1) := by decide +kernel
theorem dX9_alarm_51 : decode cX9_alarm 51 = .ok (.istore 5, 2) := by decide +kernel
theorem dX9_alarm_53 : decode cX9_alarm 53 = .ok (.iload 5, 2) := by decide +kernel
theorem dX9_alarm_55 : decode cX9_alarm 55 = .ok (.ifCond .lt 96, 3) := by decide +kernel
theorem dX9_alarm_58 : decode cX9_alarm 58 = .ok (.aload_n 0, 1) := by decide +kernel
theorem dX9_alarm_59 : decode cX9_alarm 59 = .ok (.iload 5, 2) := by decide +kernel
theorem dX9_alarm_61 : decode cX9_alarm 61 = .ok (.invokevirtual 103, 3) := by decide +kernel
theorem dX9_alarm_64 : decode cX9_alarm 64 = .ok (.ifCond .eq 81, 3) := by decide +kernel
theorem dX9_alarm_67 : decode cX9_alarm 67 = .ok (.aload_n 0, 1) := by decide +kernel
theorem dX9_alarm_68 : decode cX9_alarm 68 = .ok (.getfield 23, 3) := by decide +kernel
theorem dX9_alarm_71 : decode cX9_alarm 71 = .ok (.iload 5, 2) := by decide +kernel
theorem dX9_alarm_73 : decode cX9_alarm 73 = .ok (.iaload, 1) := by decide +kernel
theorem dX9_alarm_74 : decode cX9_alarm 74 = .ok (.iload_n 1, 1) := by decide +kernel
theorem dX9_alarm_75 : decode cX9_alarm 75 = .ok (.if_icmp .ne 70, 3) := by decide +kernel
theorem dX9_alarm_78 : decode cX9_alarm 78 = .ok (.aload_n 0, 1) := by decide +kernel
theorem dX9_alarm_79 : decode cX9_alarm 79 = .ok (.getfield 26, 3) := by decide +kernel
theorem dX9_alarm_82 : decode cX9_alarm 82 = .ok (.iload 5, 2) := by decide +kernel
theorem dX9_alarm_84 : decode cX9_alarm 84 = .ok (.iaload, 1) := by decide +kernel
theorem dX9_alarm_85 : decode cX9_alarm 85 = .ok (.iload_n 2, 1) := by decide +kernel
theorem dX9_alarm_86 : decode cX9_alarm 86 = .ok (.if_icmp .ne 59, 3) := by decide +kernel
theorem dX9_alarm_89 : decode cX9_alarm 89 = .ok (.aload_n 0, 1) := by decide +kernel
theorem dX9_alarm_90 : decode cX9_alarm 90 = .ok (.getfield 29, 3) := by decide +kernel
theorem dX9_alarm_93 : decode cX9_alarm 93 = .ok (.iload 5, 2) := by decide +kernel
theorem dX9_alarm_95 : decode cX9_alarm 95 = .ok (.iaload, 1) := by decide +kernel
theorem dX9_alarm_96 : decode cX9_alarm 96 = .ok (.iload_n 3, 1) := by decide +kernel
theorem dX9_alarm_97 : decode cX9_alarm 97 = .ok (.if_icmp .ne 48, 3) := by decide +kernel
theorem dX9_alarm_100 : decode cX9_alarm 100 = .ok (.aload_n 0, 1) := by decide +kernel
theorem dX9_alarm_101 : decode cX9_alarm 101 = .ok (.getfield 100, 3) := by decide +kernel
theorem dX9_alarm_104 : decode cX9_alarm 104 = .ok (.aload_n 0, 1) := by decide +kernel
theorem dX9_alarm_105 : decode cX9_alarm 105 = .ok (.getfield 20, 3) := by decide +kernel
theorem dX9_alarm_108 : decode cX9_alarm 108 = .ok (.iload 5, 2) := by decide +kernel
theorem dX9_alarm_110 : decode cX9_alarm 110 = .ok (.iaload, 1) := by decide +kernel
theorem dX9_alarm_111 : decode cX9_alarm 111 = .ok (.isub, 1) := by decide +kernel
theorem dX9_alarm_112 : decode cX9_alarm 112 = .ok (.bipush 10, 2) := by decide +kernel
theorem dX9_alarm_114 : decode cX9_alarm 114 = .ok (.if_icmp .le 6, 3) := by decide +kernel
theorem dX9_alarm_117 : decode cX9_alarm 117 = .ok (.goto 28, 3) := by decide +kernel
theorem dX9_alarm_120 : decode cX9_alarm 120 = .ok (.aload_n 0, 1) := by decide +kernel
theorem dX9_alarm_121 : decode cX9_alarm 121 = .ok (.getfield 35, 3) := by decide +kernel
theorem dX9_alarm_124 : decode cX9_alarm 124 = .ok (.iload 5, 2) := by decide +kernel
theorem dX9_alarm_126 : decode cX9_alarm 126 = .ok (.dup2, 1) := by decide +kernel
theorem dX9_alarm_127 : decode cX9_alarm 127 = .ok (.iaload, 1) := by decide +kernel
theorem dX9_alarm_128 : decode cX9_alarm 128 = .ok (.iconst 1, 1) := by decide +kernel
theorem dX9_alarm_129 : decode cX9_alarm 129 = .ok (.iadd, 1) := by decide +kernel
theorem dX9_alarm_130 : decode cX9_alarm 130 = .ok (.iastore, 1) := by decide +kernel
theorem dX9_alarm_131 : decode cX9_alarm 131 = .ok (.aload_n 0, 1) := by decide +kernel
theorem dX9_alarm_132 : decode cX9_alarm 132 = .ok (.getfield 20, 3) := by decide +kernel
theorem dX9_alarm_135 : decode cX9_alarm 135 = .ok (.iload 5, 2) := by decide +kernel
theorem dX9_alarm_137 : decode cX9_alarm 137 = .ok (.aload_n 0, 1) := by decide +kernel
theorem dX9_alarm_138 : decode cX9_alarm 138 = .ok (.getfield 100, 3) := by decide +kernel
theorem dX9_alarm_141 : decode cX9_alarm 141 = .ok (.iastore, 1) := by decide +kernel
theorem dX9_alarm_142 : decode cX9_alarm 142 = .ok (.iload 5, 2) := by decide +kernel
theorem dX9_alarm_144 : decode cX9_alarm 144 = .ok (.ireturn, 1) := by decide +kernel
theorem dX9_alarm_145 : decode cX9_alarm 145 = .ok (.iinc 5 (-1), 3) := by decide +kernel
theorem dX9_alarm_148 : decode cX9_alarm 148 = .ok (.goto (-95), 3) := by decide +kernel
theorem dX9_alarm_151 : decode cX9_alarm 151 = .ok (.aload_n 0, 1) := by decide +kernel
theorem dX9_alarm_152 : decode cX9_alarm 152 = .ok (.getfield 93, 3) := by decide +kernel
theorem dX9_alarm_155 : decode cX9_alarm 155 = .ok (.sipush 200, 3) := by decide +kernel
theorem dX9_alarm_158 : decode cX9_alarm 158 = .ok (.if_icmp .ne 6, 3) := by decide +kernel
theorem dX9_alarm_161 : decode cX9_alarm 161 = .ok (.bipush (-3), 2) := by decide +kernel
theorem dX9_alarm_163 : decode cX9_alarm 163 = .ok (.ireturn, 1) := by decide +kernel
theorem dX9_alarm_164 : decode cX9_alarm 164 = .ok (.aload_n 0, 1) := by decide +kernel
theorem dX9_alarm_165 : decode cX9_alarm 165 = .ok (.getfield 93, 3) := by decide +kernel
theorem dX9_alarm_168 : decode cX9_alarm 168 = .ok (.istore 5, 2) := by decide +kernel
theorem dX9_alarm_170 : decode cX9_alarm 170 = .ok (.iconst 0, 1) := by decide +kernel
theorem dX9_alarm_171 : decode cX9_alarm 171 = .ok (.istore 6, 2) := by decide +kernel
theorem dX9_alarm_173 : decode cX9_alarm 173 = .ok (.iconst 0, 1) := by decide +kernel
theorem dX9_alarm_174 : decode cX9_alarm 174 = .ok (.istore 7, 2) := by decide +kernel
theorem dX9_alarm_176 : decode cX9_alarm 176 = .ok (.iload 7, 2) := by decide +kernel
theorem dX9_alarm_178 : decode cX9_alarm 178 = .ok (.iload 5, 2) := by decide +kernel
theorem dX9_alarm_180 : decode cX9_alarm 180 = .ok (.if_icmp .ge 70, 3) := by decide +kernel
theorem dX9_alarm_183 : decode cX9_alarm 183 = .ok (.iload 6, 2) := by decide +kernel
theorem dX9_alarm_185 : decode cX9_alarm 185 = .ok (.aload_n 0, 1) := by decide +kernel
theorem dX9_alarm_186 : decode cX9_alarm 186 = .ok (.getfield 23, 3) := by decide +kernel
theorem dX9_alarm_189 : decode cX9_alarm 189 = .ok (.iload 7, 2) := by decide +kernel
theorem dX9_alarm_191 : decode cX9_alarm 191 = .ok (.iaload, 1) := by decide +kernel
theorem dX9_alarm_192 : decode cX9_alarm 192 = .ok (.iload_n 1, 1) := by decide +kernel
theorem dX9_alarm_193 : decode cX9_alarm 193 = .ok (.if_icmp .ne 44, 3) := by decide +kernel
theorem dX9_alarm_196 : decode cX9_alarm 196 = .ok (.aload_n 0, 1) := by decide +kernel
theorem dX9_alarm_197 : decode cX9_alarm 197 = .ok (.getfield 47, 3) := by decide +kernel
theorem dX9_alarm_200 : decode cX9_alarm 200 = .ok (.iload 7, 2) := by decide +kernel
theorem dX9_alarm_202 : decode cX9_alarm 202 = .ok (.baload, 1) := by decide +kernel
theorem dX9_alarm_203 : decode cX9_alarm 203 = .ok (.ifCond .ne 34, 3) := by decide +kernel
theorem dX9_alarm_206 : decode cX9_alarm 206 = .ok (.aload_n 0, 1) := by decide +kernel
theorem dX9_alarm_207 : decode cX9_alarm 207 = .ok (.getfield 51, 3) := by decide +kernel
theorem dX9_alarm_210 : decode cX9_alarm 210 = .ok (.iload 7, 2) := by decide +kernel
theorem dX9_alarm_212 : decode cX9_alarm 212 = .ok (.baload, 1) := by decide +kernel
theorem dX9_alarm_213 : decode cX9_alarm 213 = .ok (.ifCond .ne 24, 3) := by decide +kernel
theorem dX9_alarm_216 : decode cX9_alarm 216 = .ok (.aload_n 0, 1) := by decide +kernel
theorem dX9_alarm_217 : decode cX9_alarm 217 = .ok (.getfield 100, 3) := by decide +kernel
theorem dX9_alarm_220 : decode cX9_alarm 220 = .ok (.aload_n 0, 1) := by decide +kernel
theorem dX9_alarm_221 : decode cX9_alarm 221 = .ok (.getfield 16, 3) := by decide +kernel
theorem dX9_alarm_224 : decode cX9_alarm 224 = .ok (.iload 7, 2) := by decide +kernel
theorem dX9_alarm_226 : decode cX9_alarm 226 = .ok (.iaload, 1) := by decide +kernel
theorem dX9_alarm_227 : decode cX9_alarm 227 = .ok (.isub, 1) := by decide +kernel
theorem dX9_alarm_228 : decode cX9_alarm 228 = .ok (.bipush 10, 2) := by decide +kernel
theorem dX9_alarm_230 : decode cX9_alarm 230 = .ok (.if_icmp .ge 7, 3) := by decide +kernel
theorem dX9_alarm_233 : decode cX9_alarm 233 = .ok (.iconst 1, 1) := by decide +kernel
theorem dX9_alarm_234 : decode cX9_alarm 234 = .ok (.goto 4, 3) := by decide +kernel
theorem dX9_alarm_237 : decode cX9_alarm 237 = .ok (.iconst 0, 1) := by decide +kernel
theorem dX9_alarm_238 : decode cX9_alarm 238 = .ok (.invokestatic 107, 3) := by decide +kernel
theorem dX9_alarm_241 : decode cX9_alarm 241 = .ok (.iadd, 1) := by decide +kernel
theorem dX9_alarm_242 : decode cX9_alarm 242 = .ok (.istore 6, 2) := by decide +kernel
theorem dX9_alarm_244 : decode cX9_alarm 244 = .ok (.iinc 7 1, 3) := by decide +kernel
theorem dX9_alarm_247 : decode cX9_alarm 247 = .ok (.goto (-71), 3) := by decide +kernel
theorem dX9_alarm_250 : decode cX9_alarm 250 = .ok (.iconst 0, 1) := by decide +kernel
theorem dX9_alarm_251 : decode cX9_alarm 251 = .ok (.istore 7, 2) := by decide +kernel
theorem dX9_alarm_253 : decode cX9_alarm 253 = .ok (.iload 7, 2) := by decide +kernel
theorem dX9_alarm_255 : decode cX9_alarm 255 = .ok (.aload_n 0, 1) := by decide +kernel
theorem dX9_alarm_256 : decode cX9_alarm 256 = .ok (.getfield 111, 3) := by decide +kernel
theorem dX9_alarm_259 : decode cX9_alarm 259 = .ok (.if_icmp .ge 66, 3) := by decide +kernel
theorem dX9_alarm_262 : decode cX9_alarm 262 = .ok (.aload_n 0, 1) := by decide +kernel
theorem dX9_alarm_263 : decode cX9_alarm 263 = .ok (.getfield 47, 3) := by decide +kernel
theorem dX9_alarm_266 : decode cX9_alarm 266 = .ok (.iload 5, 2) := by decide +kernel
theorem dX9_alarm_268 : decode cX9_alarm 268 = .ok (.aload_n 0, 1) := by decide +kernel
theorem dX9_alarm_269 : decode cX9_alarm 269 = .ok (.getfield 47, 3) := by decide +kernel
theorem dX9_alarm_272 : decode cX9_alarm 272 = .ok (.iload 5, 2) := by decide +kernel
theorem dX9_alarm_274 : decode cX9_alarm 274 = .ok (.baload, 1) := by decide +kernel
theorem dX9_alarm_275 : decode cX9_alarm 275 = .ok (.ifCond .ne 38, 3) := by decide +kernel
theorem dX9_alarm_278 : decode cX9_alarm 278 = .ok (.aload_n 0, 1) := by decide +kernel
theorem dX9_alarm_279 : decode cX9_alarm 279 = .ok (.getfield 54, 3) := by decide +kernel
theorem dX9_alarm_282 : decode cX9_alarm 282 = .ok (.iload 7, 2) := by decide +kernel
theorem dX9_alarm_284 : decode cX9_alarm 284 = .ok (.iaload, 1) := by decide +kernel
theorem dX9_alarm_285 : decode cX9_alarm 285 = .ok (.iload_n 1, 1) := by decide +kernel
theorem dX9_alarm_286 : decode cX9_alarm 286 = .ok (.if_icmp .ne 31, 3) := by decide +kernel
theorem dX9_alarm_289 : decode cX9_alarm 289 = .ok (.aload_n 0, 1) := by decide +kernel
theorem dX9_alarm_290 : decode cX9_alarm 290 = .ok (.getfield 100, 3) := by decide +kernel
theorem dX9_alarm_293 : decode cX9_alarm 293 = .ok (.aload_n 0, 1) := by decide +kernel
theorem dX9_alarm_294 : decode cX9_alarm 294 = .ok (.getfield 57, 3) := by decide +kernel
theorem dX9_alarm_297 : decode cX9_alarm 297 = .ok (.iload 7, 2) := by decide +kernel
theorem dX9_alarm_299 : decode cX9_alarm 299 = .ok (.iaload, 1) := by decide +kernel
theorem dX9_alarm_300 : decode cX9_alarm 300 = .ok (.aload_n 0, 1) := by decide +kernel
theorem dX9_alarm_301 : decode cX9_alarm 301 = .ok (.getfield 60, 3) := by decide +kernel
theorem dX9_alarm_304 : decode cX9_alarm 304 = .ok (.iload 7, 2) := by decide +kernel
theorem dX9_alarm_306 : decode cX9_alarm 306 = .ok (.iaload, 1) := by decide +kernel
theorem dX9_alarm_307 : decode cX9_alarm 307 = .ok (.invokestatic 96, 3) := by decide +kernel
theorem dX9_alarm_310 : decode cX9_alarm 310 = .ok (.ifCond .eq 7, 3) := by decide +kernel
theorem dX9_alarm_313 : decode cX9_alarm 313 = .ok (.iconst 1, 1) := by decide +kernel
theorem dX9_alarm_314 : decode cX9_alarm 314 = .ok (.goto 4, 3) := by decide +kernel
theorem dX9_alarm_317 : decode cX9_alarm 317 = .ok (.iconst 0, 1) := by decide +kernel
theorem dX9_alarm_318 : decode cX9_alarm 318 = .ok (.bastore, 1) := by decide +kernel
theorem dX9_alarm_319 : decode cX9_alarm 319 = .ok (.iinc 7 1, 3) := by decide +kernel
theorem dX9_alarm_322 : decode cX9_alarm 322 = .ok (.goto (-69), 3) := by decide +kernel
theorem dX9_alarm_325 : decode cX9_alarm 325 = .ok (.aload_n 0, 1) := by decide +kernel
theorem dX9_alarm_326 : decode cX9_alarm 326 = .ok (.getfield 51, 3) := by decide +kernel
theorem dX9_alarm_329 : decode cX9_alarm 329 = .ok (.iload 5, 2) := by decide +kernel
theorem dX9_alarm_331 : decode cX9_alarm 331 = .ok (.aload_n 0, 1) := by decide +kernel
theorem dX9_alarm_332 : decode cX9_alarm 332 = .ok (.getfield 47, 3) := by decide +kernel
theorem dX9_alarm_335 : decode cX9_alarm 335 = .ok (.iload 5, 2) := by decide +kernel
theorem dX9_alarm_337 : decode cX9_alarm 337 = .ok (.baload, 1) := by decide +kernel
theorem dX9_alarm_338 : decode cX9_alarm 338 = .ok (.ifCond .ne 16, 3) := by decide +kernel
theorem dX9_alarm_341 : decode cX9_alarm 341 = .ok (.iload 6, 2) := by decide +kernel
theorem dX9_alarm_343 : decode cX9_alarm 343 = .ok (.aload_n 0, 1) := by decide +kernel
theorem dX9_alarm_344 : decode cX9_alarm 344 = .ok (.getfield 7, 3) := by decide +kernel
theorem dX9_alarm_347 : decode cX9_alarm 347 = .ok (.if_icmp .lt 7, 3) := by decide +kernel
theorem dX9_alarm_350 : decode cX9_alarm 350 = .ok (.iconst 1, 1) := by decide +kernel
theorem dX9_alarm_351 : decode cX9_alarm 351 = .ok (.goto 4, 3) := by decide +kernel
theorem dX9_alarm_354 : decode cX9_alarm 354 = .ok (.iconst 0, 1) := by decide +kernel
theorem dX9_alarm_355 : decode cX9_alarm 355 = .ok (.bastore, 1) := by decide +kernel
theorem dX9_alarm_356 : decode cX9_alarm 356 = .ok (.aload_n 0, 1) := by decide +kernel
theorem dX9_alarm_357 : decode cX9_alarm 357 = .ok (.dup, 1) := by decide +kernel
theorem dX9_alarm_358 : decode cX9_alarm 358 = .ok (.getfield 93, 3) := by decide +kernel
theorem dX9_alarm_361 : decode cX9_alarm 361 = .ok (.iconst 1, 1) := by decide +kernel
theorem dX9_alarm_362 : decode cX9_alarm 362 = .ok (.iadd, 1) := by decide +kernel
theorem dX9_alarm_363 : decode cX9_alarm 363 = .ok (.putfield 93, 3) := by decide +kernel
theorem dX9_alarm_366 : decode cX9_alarm 366 = .ok (.aload_n 0, 1) := by decide +kernel
theorem dX9_alarm_367 : decode cX9_alarm 367 = .ok (.getfield 16, 3) := by decide +kernel
theorem dX9_alarm_370 : decode cX9_alarm 370 = .ok (.iload 5, 2) := by decide +kernel
theorem dX9_alarm_372 : decode cX9_alarm 372 = .ok (.aload_n 0, 1) := by decide +kernel
theorem dX9_alarm_373 : decode cX9_alarm 373 = .ok (.getfield 100, 3) := by decide +kernel
theorem dX9_alarm_376 : decode cX9_alarm 376 = .ok (.iastore, 1) := by decide +kernel
theorem dX9_alarm_377 : decode cX9_alarm 377 = .ok (.aload_n 0, 1) := by decide +kernel
theorem dX9_alarm_378 : decode cX9_alarm 378 = .ok (.getfield 20, 3) := by decide +kernel
theorem dX9_alarm_381 : decode cX9_alarm 381 = .ok (.iload 5, 2) := by decide +kernel
theorem dX9_alarm_383 : decode cX9_alarm 383 = .ok (.aload_n 0, 1) := by decide +kernel
theorem dX9_alarm_384 : decode cX9_alarm 384 = .ok (.getfield 100, 3) := by decide +kernel
theorem dX9_alarm_387 : decode cX9_alarm 387 = .ok (.iastore, 1) := by decide +kernel
theorem dX9_alarm_388 : decode cX9_alarm 388 = .ok (.aload_n 0, 1) := by decide +kernel
theorem dX9_alarm_389 : decode cX9_alarm 389 = .ok (.getfield 23, 3) := by decide +kernel
theorem dX9_alarm_392 : decode cX9_alarm 392 = .ok (.iload 5, 2) := by decide +kernel
theorem dX9_alarm_394 : decode cX9_alarm 394 = .ok (.iload_n 1, 1) := by decide +kernel
theorem dX9_alarm_395 : decode cX9_alarm 395 = .ok (.iastore, 1) := by decide +kernel
theorem dX9_alarm_396 : decode cX9_alarm 396 = .ok (.aload_n 0, 1) := by decide +kernel
theorem dX9_alarm_397 : decode cX9_alarm 397 = .ok (.getfield 26, 3) := by decide +kernel
theorem dX9_alarm_400 : decode cX9_alarm 400 = .ok (.iload 5, 2) := by decide +kernel
theorem dX9_alarm_402 : decode cX9_alarm 402 = .ok (.iload_n 2, 1) := by decide +kernel
theorem dX9_alarm_403 : decode cX9_alarm 403 = .ok (.iastore, 1) := by decide +kernel
theorem dX9_alarm_404 : decode cX9_alarm 404 = .ok (.aload_n 0, 1) := by decide +kernel
theorem dX9_alarm_405 : decode cX9_alarm 405 = .ok (.getfield 29, 3) := by decide +kernel
theorem dX9_alarm_408 : decode cX9_alarm 408 = .ok (.iload 5, 2) := by decide +kernel
theorem dX9_alarm_410 : decode cX9_alarm 410 = .ok (.iload_n 3, 1) := by decide +kernel
theorem dX9_alarm_411 : decode cX9_alarm 411 = .ok (.iastore, 1) := by decide +kernel
theorem dX9_alarm_412 : decode cX9_alarm 412 = .ok (.aload_n 0, 1) := by decide +kernel
theorem dX9_alarm_413 : decode cX9_alarm 413 = .ok (.getfield 32, 3) := by decide +kernel
theorem dX9_alarm_416 : decode cX9_alarm 416 = .ok (.iload 5, 2) := by decide +kernel
theorem dX9_alarm_418 : decode cX9_alarm 418 = .ok (.iload 4, 2) := by decide +kernel
theorem dX9_alarm_420 : decode cX9_alarm 420 = .ok (.iastore, 1) := by decide +kernel
theorem dX9_alarm_421 : decode cX9_alarm 421 = .ok (.iload 5, 2) := by decide +kernel
theorem dX9_alarm_423 : decode cX9_alarm 423 = .ok (.ireturn, 1) := by decide +kernel
