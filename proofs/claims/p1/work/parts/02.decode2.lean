theorem dX9_alarm_135 : decode cX9_alarm 135 = .ok (.iload 5, 2) := by decide +kernel
theorem dX9_alarm_137 : decode cX9_alarm 137 = .ok (.aload_n 0, 1) := by decide +kernel
theorem dX9_alarm_138 : decode cX9_alarm 138 = .ok (.getfield 100, 3) := by decide +kernel
theorem dX9_alarm_141 : decode cX9_alarm 141 = .ok (.iastore, 1) := by decide +kernel
theorem dX9_alarm_142 : decode cX9_alarm 142 = .ok (.iload 5, 2) := by decide +kernel
theorem dX9_alarm_144 : decode cX9_alarm 144 = .ok (.ireturn, 1) := by decide +kernel
theorem dX9_alarm_145 : decode cX9_alarm 145 = .ok (.iinc 5 (-1), 3) := by decide +kernel
theorem dX9_alarm_148 : decode cX9_alarm 148 = .ok (.goto (-95), 3) := by decide +kernel
theorem dX9_alarm_151 : decode cX9_alarm 151 = .ok (.aload_n 0, 1) := by decide +kernel
theorem dX9_alarm_152 : decode cX9_alarm 152 = .ok (.getfield 93, 3) := by decide +kernel
theorem dX9_alarm_155 : decode cX9_alarm 155 = .ok (.sipush 200, 3) := by decide +kernel
theorem dX9_alarm_158 : decode cX9_alarm 158 = .ok (.if_icmp .ne 6, 3) := by decide +kernel
theorem dX9_alarm_161 : decode cX9_alarm 161 = .ok (.bipush (-3), 2) := by decide +kernel
theorem dX9_alarm_163 : decode cX9_alarm 163 = .ok (.ireturn, 1) := by decide +kernel
theorem dX9_alarm_164 : decode cX9_alarm 164 = .ok (.aload_n 0, 1) := by decide +kernel
theorem dX9_alarm_165 : decode cX9_alarm 165 = .ok (.getfield 93, 3) := by decide +kernel
theorem dX9_alarm_168 : decode cX9_alarm 168 = .ok (.istore 5, 2) := by decide +kernel
theorem dX9_alarm_170 : decode cX9_alarm 170 = .ok (.iconst 0, 1) := by decide +kernel
theorem dX9_alarm_171 : decode cX9_alarm 171 = .ok (.istore 6, 2) := by decide +kernel
theorem dX9_alarm_173 : decode cX9_alarm 173 = .ok (.iconst 0, 1) := by decide +kernel
theorem dX9_alarm_174 : decode cX9_alarm 174 = .ok (.istore 7, 2) := by decide +kernel
theorem dX9_alarm_176 : decode cX9_alarm 176 = .ok (.iload 7, 2) := by decide +kernel
theorem dX9_alarm_178 : decode cX9_alarm 178 = .ok (.iload 5, 2) := by decide +kernel
theorem dX9_alarm_180 : decode cX9_alarm 180 = .ok (.if_icmp .ge 70, 3) := by decide +kernel
theorem dX9_alarm_183 : decode cX9_alarm 183 = .ok (.iload 6, 2) := by decide +kernel
theorem dX9_alarm_185 : decode cX9_alarm 185 = .ok (.aload_n 0, 1) := by decide +kernel
theorem dX9_alarm_186 : decode cX9_alarm 186 = .ok (.getfield 23, 3) := by decide +kernel
theorem dX9_alarm_189 : decode cX9_alarm 189 = .ok (.iload 7, 2) := by decide +kernel
theorem dX9_alarm_191 : decode cX9_alarm 191 = .ok (.iaload, 1) := by decide +kernel
theorem dX9_alarm_192 : decode cX9_alarm 192 = .ok (.iload_n 1, 1) := by decide +kernel
theorem dX9_alarm_193 : decode cX9_alarm 193 = .ok (.if_icmp .ne 44, 3) := by decide +kernel
theorem dX9_alarm_196 : decode cX9_alarm 196 = .ok (.aload_n 0, 1) := by decide +kernel
theorem dX9_alarm_197 : decode cX9_alarm 197 = .ok (.getfield 47, 3) := by decide +kernel
theorem dX9_alarm_200 : decode cX9_alarm 200 = .ok (.iload 7, 2) := by decide +kernel
theorem dX9_alarm_202 : decode cX9_alarm 202 = .ok (.baload, 1) := by decide +kernel
theorem dX9_alarm_203 : decode cX9_alarm 203 = .ok (.ifCond .ne 34, 3) := by decide +kernel
theorem dX9_alarm_206 : decode cX9_alarm 206 = .ok (.aload_n 0, 1) := by decide +kernel
theorem dX9_alarm_207 : decode cX9_alarm 207 = .ok (.getfield 51, 3) := by decide +kernel
theorem dX9_alarm_210 : decode cX9_alarm 210 = .ok (.iload 7, 2) := by decide +kernel
theorem dX9_alarm_212 : decode cX9_alarm 212 = .ok (.baload, 1) := by decide +kernel
theorem dX9_alarm_213 : decode cX9_alarm 213 = .ok (.ifCond .ne 24, 3) := by decide +kernel
theorem dX9_alarm_216 : decode cX9_alarm 216 = .ok (.aload_n 0, 1) := by decide +kernel
theorem dX9_alarm_217 : decode cX9_alarm 217 = .ok (.getfield 100, 3) := by decide +kernel
theorem dX9_alarm_220 : decode cX9_alarm 220 = .ok (.aload_n 0, 1) := by decide +kernel
theorem dX9_alarm_221 : decode cX9_alarm 221 = .ok (.getfield 16, 3) := by decide +kernel
theorem dX9_alarm_224 : decode cX9_alarm 224 = .ok (.iload 7, 2) := by decide +kernel
theorem dX9_alarm_226 : decode cX9_alarm 226 = .ok (.iaload, 1) := by decide +kernel
theorem dX9_alarm_227 : decode cX9_alarm 227 = .ok (.isub, 1) := by decide +kernel
theorem dX9_alarm_228 : decode cX9_alarm 228 = .ok (.bipush 10, 2) := by decide +kernel
theorem dX9_alarm_230 : decode cX9_alarm 230 = .ok (.if_icmp .ge 7, 3) := by decide +kernel
theorem dX9_alarm_233 : decode cX9_alarm 233 = .ok (.iconst 1, 1) := by decide +kernel
theorem dX9_alarm_234 : decode cX9_alarm 234 = .ok (.goto 4, 3) := by decide +kernel
theorem dX9_alarm_237 : decode cX9_alarm 237 = .ok (.iconst 0, 1) := by decide +kernel
theorem dX9_alarm_238 : decode cX9_alarm 238 = .ok (.invokestatic 107, 3) := by decide +kernel
theorem dX9_alarm_241 : decode cX9_alarm 241 = .ok (.iadd, 1) := by decide +kernel
theorem dX9_alarm_242 : decode cX9_alarm 242 = .ok (.istore 6, 2) := by decide +kernel
theorem dX9_alarm_244 : decode cX9_alarm 244 = .ok (.iinc 7 1, 3) := by decide +kernel
theorem dX9_alarm_247 : decode cX9_alarm 247 = .ok (.goto (-71), 3) := by decide +kernel
theorem dX9_alarm_250 : decode cX9_alarm 250 = .ok (.iconst 0, 1) := by decide +kernel
theorem dX9_alarm_251 : decode cX9_alarm 251 = .ok (.istore 7, 2) := by decide +kernel
theorem dX9_alarm_253 : decode cX9_alarm 253 = .ok (.iload 7, 2) := by decide +kernel
theorem dX9_alarm_255 : decode cX9_alarm 255 = .ok (.aload_n 0, 1) := by decide +kernel
theorem dX9_alarm_256 : decode cX9_alarm 256 = .ok (.getfield 111, 3) := by decide +kernel
theorem dX9_alarm_259 : decode cX9_alarm 259 = .ok (.if_icmp .ge 66, 3) := by decide +kernel
theorem dX9_alarm_262 : decode cX9_alarm 262 = .ok (.aload_n 0, 1) := by decide +kernel
theorem dX9_alarm_263 : decode cX9_alarm 263 = .ok (.getfield 47, 3) := by decide +kernel
theorem dX9_alarm_266 : decode cX9_alarm 266 = .ok (.iload 5, 2) := by decide +kernel
theorem dX9_alarm_268 : decode cX9_alarm 268 = .ok (.aload_n 0, 1) := by decide +kernel
theorem dX9_alarm_269 : decode cX9_alarm 269 = .ok (.getfield 47, 3) := by decide +kernel
theorem dX9_alarm_272 : decode cX9_alarm 272 = .ok (.iload 5, 2) := by decide +kernel
theorem dX9_alarm_274 : decode cX9_alarm 274 = .ok (.baload, 1) := by decide +kernel
theorem dX9_alarm_275 : decode cX9_alarm 275 = .ok (.ifCond .ne 38, 3) := by decide +kernel
theorem dX9_alarm_278 : decode cX9_alarm 278 = .ok (.aload_n 0, 1) := by decide +kernel
theorem dX9_alarm_279 : decode cX9_alarm 279 = .ok (.getfield 54, 3) := by decide +kernel
theorem dX9_alarm_282 : decode cX9_alarm 282 = .ok (.iload 7, 2) := by decide +kernel
theorem dX9_alarm_284 : decode cX9_alarm 284 = .ok (.iaload, 1) := by decide +kernel
theorem dX9_alarm_285 : decode cX9_alarm 285 = .ok (.iload_n 1, 1) := by decide +kernel
theorem dX9_alarm_286 : decode cX9_alarm 286 = .ok (.if_icmp .ne 31, 3) := by decide +kernel
theorem dX9_alarm_289 : decode cX9_alarm 289 = .ok (.aload_n 0, 1) := by decide +kernel
theorem dX9_alarm_290 : decode cX9_alarm 290 = .ok (.getfield 100, 3) := by decide +kernel
theorem dX9_alarm_293 : decode cX9_alarm 293 = .ok (.aload_n 0, 1) := by decide +kernel
theorem dX9_alarm_294 : decode cX9_alarm 294 = .ok (.getfield 57, 3) := by decide +kernel
theorem dX9_alarm_297 : decode cX9_alarm 297 = .ok (.iload 7, 2) := by decide +kernel
theorem dX9_alarm_299 : decode cX9_alarm 299 = .ok (.iaload, 1) := by decide +kernel
theorem dX9_alarm_300 : decode cX9_alarm 300 = .ok (.aload_n 0, 1) := by decide +kernel
theorem dX9_alarm_301 : decode cX9_alarm 301 = .ok (.getfield 60, 3) := by decide +kernel
theorem dX9_alarm_304 : decode cX9_alarm 304 = .ok (.iload 7, 2) := by decide +kernel
theorem dX9_alarm_306 : decode cX9_alarm 306 = .ok (.iaload, 1) := by decide +kernel
theorem dX9_alarm_307 : decode cX9_alarm 307 = .ok (.invokestatic 96, 3) := by decide +kernel
theorem dX9_alarm_310 : decode cX9_alarm 310 = .ok (.ifCond .eq 7, 3) := by decide +kernel
theorem dX9_alarm_313 : decode cX9_alarm 313 = .ok (.iconst 1, 1) := by decide +kernel
theorem dX9_alarm_314 : decode cX9_alarm 314 = .ok (.goto 4, 3) := by decide +kernel
theorem dX9_alarm_317 : decode cX9_alarm 317 = .ok (.iconst 0, 1) := by decide +kernel
theorem dX9_alarm_318 : decode cX9_alarm 318 = .ok (.bastore, 1) := by decide +kernel
theorem dX9_alarm_319 : decode cX9_alarm 319 = .ok (.iinc 7 1, 3) := by decide +kernel
theorem dX9_alarm_322 : decode cX9_alarm 322 = .ok (.goto (-69), 3) := by decide +kernel
theorem dX9_alarm_325 : decode cX9_alarm 325 = .ok (.aload_n 0, 1) := by decide +kernel
theorem dX9_alarm_326 : decode cX9_alarm 326 = .ok (.getfield 51, 3) := by decide +kernel
theorem dX9_alarm_329 : decode cX9_alarm 329 = .ok (.iload 5, 2) := by decide +kernel
theorem dX9_alarm_331 : decode cX9_alarm 331 = .ok (.aload_n 0, 1) := by decide +kernel
theorem dX9_alarm_332 : decode cX9_alarm 332 = .ok (.getfield 47, 3) := by decide +kernel
theorem dX9_alarm_335 : decode cX9_alarm 335 = .ok (.iload 5, 2) := by decide +kernel
theorem dX9_alarm_337 : decode cX9_alarm 337 = .ok (.baload, 1) := by decide +kernel
theorem dX9_alarm_338 : decode cX9_alarm 338 = .ok (.ifCond .ne 16, 3) := by decide +kernel
theorem dX9_alarm_341 : decode cX9_alarm 341 = .ok (.iload 6, 2) := by decide +kernel
theorem dX9_alarm_343 : decode cX9_alarm 343 = .ok (.aload_n 0, 1) := by decide +kernel
theorem dX9_alarm_344 : decode cX9_alarm 344 = .ok (.getfield 7, 3) := by decide +kernel
theorem dX9_alarm_347 : decode cX9_alarm 347 = .ok (.if_icmp .lt 7, 3) := by decide +kernel
theorem dX9_alarm_350 : decode cX9_alarm 350 = .ok (.iconst 1, 1) := by decide +kernel
theorem dX9_alarm_351 : decode cX9_alarm 351 = .ok (.goto 4, 3) := by decide +kernel
theorem dX9_alarm_354 : decode cX9_alarm 354 = .ok (.iconst 0, 1) := by decide +kernel
theorem dX9_alarm_355 : decode cX9_alarm 355 = .ok (.bastore, 1) := by decide +kernel
theorem dX9_alarm_356 : decode cX9_alarm 356 = .ok (.aload_n 0, 1) := by decide +kernel
theorem dX9_alarm_357 : decode cX9_alarm 357 = .ok (.dup, 1) := by decide +kernel
theorem dX9_alarm_358 : decode cX9_alarm 358 = .ok (.getfield 93, 3) := by decide +kernel
theorem dX9_alarm_361 : decode cX9_alarm 361 = .ok (.iconst 1, 1) := by decide +kernel
theorem dX9_alarm_362 : decode cX9_alarm 362 = .ok (.iadd, 1) := by decide +kernel
theorem dX9_alarm_363 : decode cX9_alarm 363 = .ok (.putfield 93, 3) := by decide +kernel
theorem dX9_alarm_366 : decode cX9_alarm 366 = .ok (.aload_n 0, 1) := by decide +kernel
theorem dX9_alarm_367 : decode cX9_alarm 367 = .ok (.getfield 16, 3) := by decide +kernel
theorem dX9_alarm_370 : decode cX9_alarm 370 = .ok (.iload 5, 2) := by decide +kernel
theorem dX9_alarm_372 : decode cX9_alarm 372 = .ok (.aload_n 0, 1) := by decide +kernel
theorem dX9_alarm_373 : decode cX9_alarm 373 = .ok (.getfield 100, 3) := by decide +kernel
theorem dX9_alarm_376 : decode cX9_alarm 376 = .ok (.iastore, 1) := by decide +kernel
theorem dX9_alarm_377 : decode cX9_alarm 377 = .ok (.aload_n 0, 1) := by decide +kernel
theorem dX9_alarm_378 : decode cX9_alarm 378 = .ok (.getfield 20, 3) := by decide +kernel
theorem dX9_alarm_381 : decode cX9_alarm 381 = .ok (.iload 5, 2) := by decide +kernel
theorem dX9_alarm_383 : decode cX9_alarm 383 = .ok (.aload_n 0, 1) := by decide +kernel
theorem dX9_alarm_384 : decode cX9_alarm 384 = .ok (.getfield 100, 3) := by decide +kernel
theorem dX9_alarm_387 : decode cX9_alarm 387 = .ok (.iastore, 1) := by decide +kernel
theorem dX9_alarm_388 : decode cX9_alarm 388 = .ok (.aload_n 0, 1) := by decide +kernel
theorem dX9_alarm_389 : decode cX9_alarm 389 = .ok (.getfield 23, 3) := by decide +kernel
theorem dX9_alarm_392 : decode cX9_alarm 392 = .ok (.iload 5, 2) := by decide +kernel
theorem dX9_alarm_394 : decode cX9_alarm 394 = .ok (.iload_n 1, 1) := by decide +kernel
theorem dX9_alarm_395 : decode cX9_alarm 395 = .ok (.iastore, 1) := by decide +kernel
theorem dX9_alarm_396 : decode cX9_alarm 396 = .ok (.aload_n 0, 1) := by decide +kernel
theorem dX9_alarm_397 : decode cX9_alarm 397 = .ok (.getfield 26, 3) := by decide +kernel
theorem dX9_alarm_400 : decode cX9_alarm 400 = .ok (.iload 5, 2) := by decide +kernel
theorem dX9_alarm_402 : decode cX9_alarm 402 = .ok (.iload_n 2, 1) := by decide +kernel
theorem dX9_alarm_403 : decode cX9_alarm 403 = .ok (.iastore, 1) := by decide +kernel
theorem dX9_alarm_404 : decode cX9_alarm 404 = .ok (.aload_n 0, 1) := by decide +kernel
theorem dX9_alarm_405 : decode cX9_alarm 405 = .ok (.getfield 29, 3) := by decide +kernel
theorem dX9_alarm_408 : decode cX9_alarm 408 = .ok (.iload 5, 2) := by decide +kernel
theorem dX9_alarm_410 : decode cX9_alarm 410 = .ok (.iload_n 3, 1) := by decide +kernel
theorem dX9_alarm_411 : decode cX9_alarm 411 = .ok (.iastore, 1) := by decide +kernel
theorem dX9_alarm_412 : decode cX9_alarm 412 = .ok (.aload_n 0, 1) := by decide +kernel
theorem dX9_alarm_413 : decode cX9_alarm 413 = .ok (.getfield 32, 3) := by decide +kernel
theorem dX9_alarm_416 : decode cX9_alarm 416 = .ok (.iload 5, 2) := by decide +kernel
theorem dX9_alarm_418 : decode cX9_alarm 418 = .ok (.iload 4, 2) := by decide +kernel
theorem dX9_alarm_420 : decode cX9_alarm 420 = .ok (.iastore, 1) := by decide +kernel
theorem dX9_alarm_421 : decode cX9_alarm 421 = .ok (.iload 5, 2) := by decide +kernel
theorem dX9_alarm_423 : decode cX9_alarm 423 = .ok (.ireturn, 1) := by decide +kernel
theorem dX9_silence_0 : decode cX9_silence 0 = .ok (.iload_n 1, 1) := by decide +kernel
theorem dX9_silence_1 : decode cX9_silence 1 = .ok (.iconst 0, 1) := by decide +kernel
theorem dX9_silence_2 : decode cX9_silence 2 = .ok (.bipush 9, 2) := by decide +kernel
theorem dX9_silence_4 : decode cX9_silence 4 = .ok (.invokestatic 96, 3) := by decide +kernel
theorem dX9_silence_7 : decode cX9_silence 7 = .ok (.ifCond .eq 28, 3) := by decide +kernel
theorem dX9_silence_10 : decode cX9_silence 10 = .ok (.iload_n 2, 1) := by decide +kernel
theorem dX9_silence_11 : decode cX9_silence 11 = .ok (.ifCond .lt 24, 3) := by decide +kernel
theorem dX9_silence_14 : decode cX9_silence 14 = .ok (.iload_n 2, 1) := by decide +kernel
theorem dX9_silence_15 : decode cX9_silence 15 = .ok (.iload_n 3, 1) := by decide +kernel
theorem dX9_silence_16 : decode cX9_silence 16 = .ok (.if_icmp .gt 19, 3) := by decide +kernel
theorem dX9_silence_19 : decode cX9_silence 19 = .ok (.iload_n 3, 1) := by decide +kernel
theorem dX9_silence_20 : decode cX9_silence 20 = .ok (.sipush 10000, 3) := by decide +kernel
theorem dX9_silence_23 : decode cX9_silence 23 = .ok (.if_icmp .gt 12, 3) := by decide +kernel
theorem dX9_silence_26 : decode cX9_silence 26 = .ok (.aload_n 0, 1) := by decide +kernel
theorem dX9_silence_27 : decode cX9_silence 27 = .ok (.getfield 111, 3) := by decide +kernel
theorem dX9_silence_30 : decode cX9_silence 30 = .ok (.bipush 30, 2) := by decide +kernel
theorem dX9_silence_32 : decode cX9_silence 32 = .ok (.if_icmp .ne 5, 3) := by decide +kernel
theorem dX9_silence_35 : decode cX9_silence 35 = .ok (.iconst (-1), 1) := by decide +kernel
theorem dX9_silence_36 : decode cX9_silence 36 = .ok (.ireturn, 1) := by decide +kernel
theorem dX9_silence_37 : decode cX9_silence 37 = .ok (.aload_n 0, 1) := by decide +kernel
theorem dX9_silence_38 : decode cX9_silence 38 = .ok (.getfield 54, 3) := by decide +kernel
theorem dX9_silence_41 : decode cX9_silence 41 = .ok (.aload_n 0, 1) := by decide +kernel
theorem dX9_silence_42 : decode cX9_silence 42 = .ok (.getfield 111, 3) := by decide +kernel
theorem dX9_silence_45 : decode cX9_silence 45 = .ok (.iload_n 1, 1) := by decide +kernel
theorem dX9_silence_46 : decode cX9_silence 46 = .ok (.iastore, 1) := by decide +kernel
theorem dX9_silence_47 : decode cX9_silence 47 = .ok (.aload_n 0, 1) := by decide +kernel
theorem dX9_silence_48 : decode cX9_silence 48 = .ok (.getfield 57, 3) := by decide +kernel
theorem dX9_silence_51 : decode cX9_silence 51 = .ok (.aload_n 0, 1) := by decide +kernel
theorem dX9_silence_52 : decode cX9_silence 52 = .ok (.getfield 111, 3) := by decide +kernel
theorem dX9_silence_55 : decode cX9_silence 55 = .ok (.iload_n 2, 1) := by decide +kernel
theorem dX9_silence_56 : decode cX9_silence 56 = .ok (.iastore, 1) := by decide +kernel
theorem dX9_silence_57 : decode cX9_silence 57 = .ok (.aload_n 0, 1) := by decide +kernel
theorem dX9_silence_58 : decode cX9_silence 58 = .ok (.getfield 60, 3) := by decide +kernel
theorem dX9_silence_61 : decode cX9_silence 61 = .ok (.aload_n 0, 1) := by decide +kernel
theorem dX9_silence_62 : decode cX9_silence 62 = .ok (.getfield 111, 3) := by decide +kernel
theorem dX9_silence_65 : decode cX9_silence 65 = .ok (.iload_n 3, 1) := by decide +kernel
theorem dX9_silence_66 : decode cX9_silence 66 = .ok (.iastore, 1) := by decide +kernel
theorem dX9_silence_67 : decode cX9_silence 67 = .ok (.aload_n 0, 1) := by decide +kernel
theorem dX9_silence_68 : decode cX9_silence 68 = .ok (.dup, 1) := by decide +kernel
theorem dX9_silence_69 : decode cX9_silence 69 = .ok (.getfield 111, 3) := by decide +kernel
theorem dX9_silence_72 : decode cX9_silence 72 = .ok (.iconst 1, 1) := by decide +kernel
theorem dX9_silence_73 : decode cX9_silence 73 = .ok (.iadd, 1) := by decide +kernel
theorem dX9_silence_74 : decode cX9_silence 74 = .ok (.putfield 111, 3) := by decide +kernel
theorem dX9_silence_77 : decode cX9_silence 77 = .ok (.aload_n 0, 1) := by decide +kernel
theorem dX9_silence_78 : decode cX9_silence 78 = .ok (.getfield 111, 3) := by decide +kernel
theorem dX9_silence_81 : decode cX9_silence 81 = .ok (.ireturn, 1) := by decide +kernel
theorem dX9_set_0 : decode cX9_set 0 = .ok (.iload_n 1, 1) := by decide +kernel
theorem dX9_set_1 : decode cX9_set 1 = .ok (.iconst 0, 1) := by decide +kernel
theorem dX9_set_2 : decode cX9_set 2 = .ok (.iconst 2, 1) := by decide +kernel
theorem dX9_set_3 : decode cX9_set 3 = .ok (.invokestatic 96, 3) := by decide +kernel
theorem dX9_set_6 : decode cX9_set 6 = .ok (.ifCond .eq 40, 3) := by decide +kernel
theorem dX9_set_9 : decode cX9_set 9 = .ok (.iload_n 2, 1) := by decide +kernel
theorem dX9_set_10 : decode cX9_set 10 = .ok (.iload_n 1, 1) := by decide +kernel
theorem dX9_set_11 : decode cX9_set 11 = .ok (.iconst 2, 1) := by decide +kernel
theorem dX9_set_12 : decode cX9_set 12 = .ok (.if_icmp .ne 7, 3) := by decide +kernel
theorem dX9_set_15 : decode cX9_set 15 = .ok (.iconst 0, 1) := by decide +kernel
theorem dX9_set_16 : decode cX9_set 16 = .ok (.goto 4, 3) := by decide +kernel
theorem dX9_set_19 : decode cX9_set 19 = .ok (.iconst 1, 1) := by decide +kernel
theorem dX9_set_20 : decode cX9_set 20 = .ok (.iload_n 1, 1) := by decide +kernel
theorem dX9_set_21 : decode cX9_set 21 = .ok (.ifCond .ne 8, 3) := by decide +kernel
theorem dX9_set_24 : decode cX9_set 24 = .ok (.bipush 50, 2) := by decide +kernel
theorem dX9_set_26 : decode cX9_set 26 = .ok (.goto 14, 3) := by decide +kernel
theorem dX9_set_29 : decode cX9_set 29 = .ok (.iload_n 1, 1) := by decide +kernel
theorem dX9_set_30 : decode cX9_set 30 = .ok (.iconst 1, 1) := by decide +kernel
theorem dX9_set_31 : decode cX9_set 31 = .ok (.if_icmp .ne 8, 3) := by decide +kernel
theorem dX9_set_34 : decode cX9_set 34 = .ok (.bipush 20, 2) := by decide +kernel
theorem dX9_set_36 : decode cX9_set 36 = .ok (.goto 4, 3) := by decide +kernel
theorem dX9_set_39 : decode cX9_set 39 = .ok (.iconst 5, 1) := by decide +kernel
theorem dX9_set_40 : decode cX9_set 40 = .ok (.invokestatic 96, 3) := by decide +kernel
theorem dX9_set_43 : decode cX9_set 43 = .ok (.ifCond .ne 5, 3) := by decide +kernel
theorem dX9_set_46 : decode cX9_set 46 = .ok (.iconst 0, 1) := by decide +kernel
theorem dX9_set_47 : decode cX9_set 47 = .ok (.ireturn, 1) := by decide +kernel
theorem dX9_set_48 : decode cX9_set 48 = .ok (.iload_n 1, 1) := by decide +kernel
theorem dX9_set_49 : decode cX9_set 49 = .ok (.ifCond .ne 11, 3) := by decide +kernel
theorem dX9_set_52 : decode cX9_set 52 = .ok (.aload_n 0, 1) := by decide +kernel
theorem dX9_set_53 : decode cX9_set 53 = .ok (.iload_n 2, 1) := by decide +kernel
theorem dX9_set_54 : decode cX9_set 54 = .ok (.putfield 7, 3) := by decide +kernel
theorem dX9_set_57 : decode cX9_set 57 = .ok (.goto 21, 3) := by decide +kernel
theorem dX9_set_60 : decode cX9_set 60 = .ok (.iload_n 1, 1) := by decide +kernel
theorem dX9_set_61 : decode cX9_set 61 = .ok (.iconst 1, 1) := by decide +kernel
theorem dX9_set_62 : decode cX9_set 62 = .ok (.if_icmp .ne 11, 3) := by decide +kernel
theorem dX9_set_65 : decode cX9_set 65 = .ok (.aload_n 0, 1) := by decide +kernel
theorem dX9_set_66 : decode cX9_set 66 = .ok (.iload_n 2, 1) := by decide +kernel
theorem dX9_set_67 : decode cX9_set 67 = .ok (.putfield 13, 3) := by decide +kernel
theorem dX9_set_70 : decode cX9_set 70 = .ok (.goto 8, 3) := by decide +kernel
theorem dX9_set_73 : decode cX9_set 73 = .ok (.aload_n 0, 1) := by decide +kernel
theorem dX9_set_74 : decode cX9_set 74 = .ok (.iload_n 2, 1) := by decide +kernel
theorem dX9_set_75 : decode cX9_set 75 = .ok (.putfield 114, 3) := by decide +kernel
theorem dX9_set_78 : decode cX9_set 78 = .ok (.iconst 1, 1) := by decide +kernel
theorem dX9_set_79 : decode cX9_set 79 = .ok (.ireturn, 1) := by decide +kernel
theorem dX9_many_0 : decode cX9_many 0 = .ok (.iconst 0, 1) := by decide +kernel
theorem dX9_many_1 : decode cX9_many 1 = .ok (.istore_n 1, 1) := by decide +kernel
theorem dX9_many_2 : decode cX9_many 2 = .ok (.iload_n 0, 1) := by decide +kernel
theorem dX9_many_3 : decode cX9_many 3 = .ok (.istore_n 2, 1) := by decide +kernel
theorem dX9_many_4 : decode cX9_many 4 = .ok (.iload_n 2, 1) := by decide +kernel
theorem dX9_many_5 : decode cX9_many 5 = .ok (.ifCond .le 16, 3) := by decide +kernel
theorem dX9_many_8 : decode cX9_many 8 = .ok (.iload_n 1, 1) := by decide +kernel
theorem dX9_many_9 : decode cX9_many 9 = .ok (.iload_n 2, 1) := by decide +kernel
theorem dX9_many_10 : decode cX9_many 10 = .ok (.iconst 1, 1) := by decide +kernel
theorem dX9_many_11 : decode cX9_many 11 = .ok (.iand, 1) := by decide +kernel
theorem dX9_many_12 : decode cX9_many 12 = .ok (.iadd, 1) := by decide +kernel
theorem dX9_many_13 : decode cX9_many 13 = .ok (.istore_n 1, 1) := by decide +kernel
theorem dX9_many_14 : decode cX9_many 14 = .ok (.iload_n 2, 1) := by decide +kernel
theorem dX9_many_15 : decode cX9_many 15 = .ok (.iconst 1, 1) := by decide +kernel
theorem dX9_many_16 : decode cX9_many 16 = .ok (.ishr, 1) := by decide +kernel
theorem dX9_many_17 : decode cX9_many 17 = .ok (.istore_n 2, 1) := by decide +kernel
theorem dX9_many_18 : decode cX9_many 18 = .ok (.goto (-14), 3) := by decide +kernel
theorem dX9_many_21 : decode cX9_many 21 = .ok (.iload_n 1, 1) := by decide +kernel
theorem dX9_many_22 : decode cX9_many 22 = .ok (.ireturn, 1) := by decide +kernel
theorem dX9_verdict_0 : decode cX9_verdict 0 = .ok (.aload_n 0, 1) := by decide +kernel
theorem dX9_verdict_1 : decode cX9_verdict 1 = .ok (.iload_n 1, 1) := by decide +kernel
theorem dX9_verdict_2 : decode cX9_verdict 2 = .ok (.invokevirtual 117, 3) := by decide +kernel
theorem dX9_verdict_5 : decode cX9_verdict 5 = .ok (.ifCond .eq 43, 3) := by decide +kernel
theorem dX9_verdict_8 : decode cX9_verdict 8 = .ok (.iload_n 2, 1) := by decide +kernel
theorem dX9_verdict_9 : decode cX9_verdict 9 = .ok (.iconst 0, 1) := by decide +kernel
theorem dX9_verdict_10 : decode cX9_verdict 10 = .ok (.bipush 9, 2) := by decide +kernel
theorem dX9_verdict_12 : decode cX9_verdict 12 = .ok (.invokestatic 96, 3) := by decide +kernel
theorem dX9_verdict_15 : decode cX9_verdict 15 = .ok (.ifCond .eq 33, 3) := by decide +kernel
theorem dX9_verdict_18 : decode cX9_verdict 18 = .ok (.aload_n 0, 1) := by decide +kernel
theorem dX9_verdict_19 : decode cX9_verdict 19 = .ok (.getfield 38, 3) := by decide +kernel
theorem dX9_verdict_22 : decode cX9_verdict 22 = .ok (.iload_n 1, 1) := by decide +kernel
theorem dX9_verdict_23 : decode cX9_verdict 23 = .ok (.iaload, 1) := by decide +kernel
theorem dX9_verdict_24 : decode cX9_verdict 24 = .ok (.ifCond .ne 24, 3) := by decide +kernel
theorem dX9_verdict_27 : decode cX9_verdict 27 = .ok (.aload_n 0, 1) := by decide +kernel
theorem dX9_verdict_28 : decode cX9_verdict 28 = .ok (.getfield 41, 3) := by decide +kernel
theorem dX9_verdict_31 : decode cX9_verdict 31 = .ok (.iload_n 1, 1) := by decide +kernel
theorem dX9_verdict_32 : decode cX9_verdict 32 = .ok (.iaload, 1) := by decide +kernel
theorem dX9_verdict_33 : decode cX9_verdict 33 = .ok (.aload_n 0, 1) := by decide +kernel
theorem dX9_verdict_34 : decode cX9_verdict 34 = .ok (.getfield 44, 3) := by decide +kernel
theorem dX9_verdict_37 : decode cX9_verdict 37 = .ok (.iload_n 1, 1) := by decide +kernel
theorem dX9_verdict_38 : decode cX9_verdict 38 = .ok (.iaload, 1) := by decide +kernel
theorem dX9_verdict_39 : decode cX9_verdict 39 = .ok (.ior, 1) := by decide +kernel
theorem dX9_verdict_40 : decode cX9_verdict 40 = .ok (.iload_n 2, 1) := by decide +kernel
theorem dX9_verdict_41 : decode cX9_verdict 41 = .ok (.ishr, 1) := by decide +kernel
theorem dX9_verdict_42 : decode cX9_verdict 42 = .ok (.iconst 1, 1) := by decide +kernel
theorem dX9_verdict_43 : decode cX9_verdict 43 = .ok (.iand, 1) := by decide +kernel
theorem dX9_verdict_44 : decode cX9_verdict 44 = .ok (.iconst 1, 1) := by decide +kernel
theorem dX9_verdict_45 : decode cX9_verdict 45 = .ok (.if_icmp .ne 5, 3) := by decide +kernel
theorem dX9_verdict_48 : decode cX9_verdict 48 = .ok (.iconst (-1), 1) := by decide +kernel
theorem dX9_verdict_49 : decode cX9_verdict 49 = .ok (.ireturn, 1) := by decide +kernel
theorem dX9_verdict_50 : decode cX9_verdict 50 = .ok (.iload_n 3, 1) := by decide +kernel
theorem dX9_verdict_51 : decode cX9_verdict 51 = .ok (.ifCond .eq 18, 3) := by decide +kernel
theorem dX9_verdict_54 : decode cX9_verdict 54 = .ok (.aload_n 0, 1) := by decide +kernel
theorem dX9_verdict_55 : decode cX9_verdict 55 = .ok (.getfield 41, 3) := by decide +kernel
theorem dX9_verdict_58 : decode cX9_verdict 58 = .ok (.iload_n 1, 1) := by decide +kernel
theorem dX9_verdict_59 : decode cX9_verdict 59 = .ok (.dup2, 1) := by decide +kernel
theorem dX9_verdict_60 : decode cX9_verdict 60 = .ok (.iaload, 1) := by decide +kernel
theorem dX9_verdict_61 : decode cX9_verdict 61 = .ok (.iconst 1, 1) := by decide +kernel
theorem dX9_verdict_62 : decode cX9_verdict 62 = .ok (.iload_n 2, 1) := by decide +kernel
theorem dX9_verdict_63 : decode cX9_verdict 63 = .ok (.ishl, 1) := by decide +kernel
theorem dX9_verdict_64 : decode cX9_verdict 64 = .ok (.ior, 1) := by decide +kernel
theorem dX9_verdict_65 : decode cX9_verdict 65 = .ok (.iastore, 1) := by decide +kernel
theorem dX9_verdict_66 : decode cX9_verdict 66 = .ok (.goto 15, 3) := by decide +kernel
theorem dX9_verdict_69 : decode cX9_verdict 69 = .ok (.aload_n 0, 1) := by decide +kernel
theorem dX9_verdict_70 : decode cX9_verdict 70 = .ok (.getfield 44, 3) := by decide +kernel
theorem dX9_verdict_73 : decode cX9_verdict 73 = .ok (.iload_n 1, 1) := by decide +kernel
theorem dX9_verdict_74 : decode cX9_verdict 74 = .ok (.dup2, 1) := by decide +kernel
theorem dX9_verdict_75 : decode cX9_verdict 75 = .ok (.iaload, 1) := by decide +kernel
theorem dX9_verdict_76 : decode cX9_verdict 76 = .ok (.iconst 1, 1) := by decide +kernel
theorem dX9_verdict_77 : decode cX9_verdict 77 = .ok (.iload_n 2, 1) := by decide +kernel
theorem dX9_verdict_78 : decode cX9_verdict 78 = .ok (.ishl, 1) := by decide +kernel
theorem dX9_verdict_79 : decode cX9_verdict 79 = .ok (.ior, 1) := by decide +kernel
theorem dX9_verdict_80 : decode cX9_verdict 80 = .ok (.iastore, 1) := by decide +kernel
theorem dX9_verdict_81 : decode cX9_verdict 81 = .ok (.iload_n 3, 1) := by decide +kernel
theorem dX9_verdict_82 : decode cX9_verdict 82 = .ok (.ifCond .eq 12, 3) := by decide +kernel
theorem dX9_verdict_85 : decode cX9_verdict 85 = .ok (.aload_n 0, 1) := by decide +kernel
theorem dX9_verdict_86 : decode cX9_verdict 86 = .ok (.getfield 41, 3) := by decide +kernel
theorem dX9_verdict_89 : decode cX9_verdict 89 = .ok (.iload_n 1, 1) := by decide +kernel
theorem dX9_verdict_90 : decode cX9_verdict 90 = .ok (.iaload, 1) := by decide +kernel
theorem dX9_verdict_91 : decode cX9_verdict 91 = .ok (.goto 9, 3) := by decide +kernel
theorem dX9_verdict_94 : decode cX9_verdict 94 = .ok (.aload_n 0, 1) := by decide +kernel
theorem dX9_verdict_95 : decode cX9_verdict 95 = .ok (.getfield 44, 3) := by decide +kernel
theorem dX9_verdict_98 : decode cX9_verdict 98 = .ok (.iload_n 1, 1) := by decide +kernel
theorem dX9_verdict_99 : decode cX9_verdict 99 = .ok (.iaload, 1) := by decide +kernel
theorem dX9_verdict_100 : decode cX9_verdict 100 = .ok (.invokestatic 120, 3) := by decide +kernel
theorem dX9_verdict_103 : decode cX9_verdict 103 = .ok (.iconst 2, 1) := by decide +kernel
theorem dX9_verdict_104 : decode cX9_verdict 104 = .ok (.if_icmp .ge 5, 3) := by decide +kernel
theorem dX9_verdict_107 : decode cX9_verdict 107 = .ok (.iconst 0, 1) := by decide +kernel
theorem dX9_verdict_108 : decode cX9_verdict 108 = .ok (.ireturn, 1) := by decide +kernel
theorem dX9_verdict_109 : decode cX9_verdict 109 = .ok (.aload_n 0, 1) := by decide +kernel
theorem dX9_verdict_110 : decode cX9_verdict 110 = .ok (.getfield 38, 3) := by decide +kernel
theorem dX9_verdict_113 : decode cX9_verdict 113 = .ok (.iload_n 1, 1) := by decide +kernel
theorem dX9_verdict_114 : decode cX9_verdict 114 = .ok (.iload_n 3, 1) := by decide +kernel
theorem dX9_verdict_115 : decode cX9_verdict 115 = .ok (.ifCond .eq 7, 3) := by decide +kernel
theorem dX9_verdict_118 : decode cX9_verdict 118 = .ok (.iconst 1, 1) := by decide +kernel
theorem dX9_verdict_119 : decode cX9_verdict 119 = .ok (.goto 4, 3) := by decide +kernel
theorem dX9_verdict_122 : decode cX9_verdict 122 = .ok (.iconst 2, 1) := by decide +kernel
theorem dX9_verdict_123 : decode cX9_verdict 123 = .ok (.iastore, 1) := by decide +kernel
theorem dX9_verdict_124 : decode cX9_verdict 124 = .ok (.iconst 1, 1) := by decide +kernel
theorem dX9_verdict_125 : decode cX9_verdict 125 = .ok (.ireturn, 1) := by decide +kernel
theorem dX9_tieOf_0 : decode cX9_tieOf 0 = .ok (.iconst 0, 1) := by decide +kernel
theorem dX9_tieOf_1 : decode cX9_tieOf 1 = .ok (.istore_n 3, 1) := by decide +kernel
theorem dX9_tieOf_2 : decode cX9_tieOf 2 = .ok (.iload_n 3, 1) := by decide +kernel
theorem dX9_tieOf_3 : decode cX9_tieOf 3 = .ok (.aload_n 0, 1) := by decide +kernel
theorem dX9_tieOf_4 : decode cX9_tieOf 4 = .ok (.getfield 124, 3) := by decide +kernel
theorem dX9_tieOf_7 : decode cX9_tieOf 7 = .ok (.if_icmp .ge 51, 3) := by decide +kernel
theorem dX9_tieOf_10 : decode cX9_tieOf 10 = .ok (.aload_n 0, 1) := by decide +kernel
theorem dX9_tieOf_11 : decode cX9_tieOf 11 = .ok (.getfield 63, 3) := by decide +kernel
theorem dX9_tieOf_14 : decode cX9_tieOf 14 = .ok (.iload_n 3, 1) := by decide +kernel
theorem dX9_tieOf_15 : decode cX9_tieOf 15 = .ok (.iaload, 1) := by decide +kernel
theorem dX9_tieOf_16 : decode cX9_tieOf 16 = .ok (.iload_n 1, 1) := by decide +kernel
theorem dX9_tieOf_17 : decode cX9_tieOf 17 = .ok (.if_icmp .ne 13, 3) := by decide +kernel
theorem dX9_tieOf_20 : decode cX9_tieOf 20 = .ok (.aload_n 0, 1) := by decide +kernel
theorem dX9_tieOf_21 : decode cX9_tieOf 21 = .ok (.getfield 66, 3) := by decide +kernel
theorem dX9_tieOf_24 : decode cX9_tieOf 24 = .ok (.iload_n 3, 1) := by decide +kernel
theorem dX9_tieOf_25 : decode cX9_tieOf 25 = .ok (.iaload, 1) := by decide +kernel
theorem dX9_tieOf_26 : decode cX9_tieOf 26 = .ok (.iload_n 2, 1) := by decide +kernel
theorem dX9_tieOf_27 : decode cX9_tieOf 27 = .ok (.if_icmp .eq 23, 3) := by decide +kernel
theorem dX9_tieOf_30 : decode cX9_tieOf 30 = .ok (.aload_n 0, 1) := by decide +kernel
theorem dX9_tieOf_31 : decode cX9_tieOf 31 = .ok (.getfield 63, 3) := by decide +kernel
theorem dX9_tieOf_34 : decode cX9_tieOf 34 = .ok (.iload_n 3, 1) := by decide +kernel
theorem dX9_tieOf_35 : decode cX9_tieOf 35 = .ok (.iaload, 1) := by decide +kernel
theorem dX9_tieOf_36 : decode cX9_tieOf 36 = .ok (.iload_n 2, 1) := by decide +kernel
theorem dX9_tieOf_37 : decode cX9_tieOf 37 = .ok (.if_icmp .ne 15, 3) := by decide +kernel
theorem dX9_tieOf_40 : decode cX9_tieOf 40 = .ok (.aload_n 0, 1) := by decide +kernel
theorem dX9_tieOf_41 : decode cX9_tieOf 41 = .ok (.getfield 66, 3) := by decide +kernel
theorem dX9_tieOf_44 : decode cX9_tieOf 44 = .ok (.iload_n 3, 1) := by decide +kernel
theorem dX9_tieOf_45 : decode cX9_tieOf 45 = .ok (.iaload, 1) := by decide +kernel
theorem dX9_tieOf_46 : decode cX9_tieOf 46 = .ok (.iload_n 1, 1) := by decide +kernel
theorem dX9_tieOf_47 : decode cX9_tieOf 47 = .ok (.if_icmp .ne 5, 3) := by decide +kernel
theorem dX9_tieOf_50 : decode cX9_tieOf 50 = .ok (.iload_n 3, 1) := by decide +kernel
theorem dX9_tieOf_51 : decode cX9_tieOf 51 = .ok (.ireturn, 1) := by decide +kernel
theorem dX9_tieOf_52 : decode cX9_tieOf 52 = .ok (.iinc 3 1, 3) := by decide +kernel
theorem dX9_tieOf_55 : decode cX9_tieOf 55 = .ok (.goto (-53), 3) := by decide +kernel
theorem dX9_tieOf_58 : decode cX9_tieOf 58 = .ok (.iconst (-1), 1) := by decide +kernel
theorem dX9_tieOf_59 : decode cX9_tieOf 59 = .ok (.ireturn, 1) := by decide +kernel
theorem dX9_tie_0 : decode cX9_tie 0 = .ok (.aload_n 0, 1) := by decide +kernel
theorem dX9_tie_1 : decode cX9_tie 1 = .ok (.iload_n 1, 1) := by decide +kernel
theorem dX9_tie_2 : decode cX9_tie 2 = .ok (.invokevirtual 117, 3) := by decide +kernel
theorem dX9_tie_5 : decode cX9_tie 5 = .ok (.ifCond .eq 16, 3) := by decide +kernel
theorem dX9_tie_8 : decode cX9_tie 8 = .ok (.aload_n 0, 1) := by decide +kernel
theorem dX9_tie_9 : decode cX9_tie 9 = .ok (.iload_n 2, 1) := by decide +kernel
theorem dX9_tie_10 : decode cX9_tie 10 = .ok (.invokevirtual 117, 3) := by decide +kernel
theorem dX9_tie_13 : decode cX9_tie 13 = .ok (.ifCond .eq 8, 3) := by decide +kernel
theorem dX9_tie_16 : decode cX9_tie 16 = .ok (.iload_n 1, 1) := by decide +kernel
theorem dX9_tie_17 : decode cX9_tie 17 = .ok (.iload_n 2, 1) := by decide +kernel
theorem dX9_tie_18 : decode cX9_tie 18 = .ok (.if_icmp .ne 5, 3) := by decide +kernel
theorem dX9_tie_21 : decode cX9_tie 21 = .ok (.iconst 0, 1) := by decide +kernel
theorem dX9_tie_22 : decode cX9_tie 22 = .ok (.ireturn, 1) := by decide +kernel
theorem dX9_tie_23 : decode cX9_tie 23 = .ok (.aload_n 0, 1) := by decide +kernel
theorem dX9_tie_24 : decode cX9_tie 24 = .ok (.iload_n 1, 1) := by decide +kernel
theorem dX9_tie_25 : decode cX9_tie 25 = .ok (.iload_n 2, 1) := by decide +kernel
theorem dX9_tie_26 : decode cX9_tie 26 = .ok (.invokevirtual 127, 3) := by decide +kernel
theorem dX9_tie_29 : decode cX9_tie 29 = .ok (.istore 4, 2) := by decide +kernel
theorem dX9_tie_31 : decode cX9_tie 31 = .ok (.iload 4, 2) := by decide +kernel
theorem dX9_tie_33 : decode cX9_tie 33 = .ok (.iconst (-1), 1) := by decide +kernel
theorem dX9_tie_34 : decode cX9_tie 34 = .ok (.if_icmp .eq 14, 3) := by decide +kernel
theorem dX9_tie_37 : decode cX9_tie 37 = .ok (.aload_n 0, 1) := by decide +kernel
theorem dX9_tie_38 : decode cX9_tie 38 = .ok (.getfield 69, 3) := by decide +kernel
theorem dX9_tie_41 : decode cX9_tie 41 = .ok (.iload 4, 2) := by decide +kernel
theorem dX9_tie_43 : decode cX9_tie 43 = .ok (.baload, 1) := by decide +kernel
theorem dX9_tie_44 : decode cX9_tie 44 = .ok (.iload_n 3, 1) := by decide +kernel
theorem dX9_tie_45 : decode cX9_tie 45 = .ok (.if_icmp .eq 18, 3) := by decide +kernel
theorem dX9_tie_48 : decode cX9_tie 48 = .ok (.iload 4, 2) := by decide +kernel
theorem dX9_tie_50 : decode cX9_tie 50 = .ok (.iconst (-1), 1) := by decide +kernel
theorem dX9_tie_51 : decode cX9_tie 51 = .ok (.if_icmp .ne 14, 3) := by decide +kernel
theorem dX9_tie_54 : decode cX9_tie 54 = .ok (.aload_n 0, 1) := by decide +kernel
theorem dX9_tie_55 : decode cX9_tie 55 = .ok (.getfield 124, 3) := by decide +kernel
theorem dX9_tie_58 : decode cX9_tie 58 = .ok (.bipush 60, 2) := by decide +kernel
theorem dX9_tie_60 : decode cX9_tie 60 = .ok (.if_icmp .ne 5, 3) := by decide +kernel
theorem dX9_tie_63 : decode cX9_tie 63 = .ok (.iconst 0, 1) := by decide +kernel
theorem dX9_tie_64 : decode cX9_tie 64 = .ok (.ireturn, 1) := by decide +kernel
theorem dX9_tie_65 : decode cX9_tie 65 = .ok (.iload 4, 2) := by decide +kernel
theorem dX9_tie_67 : decode cX9_tie 67 = .ok (.iconst (-1), 1) := by decide +kernel
theorem dX9_tie_68 : decode cX9_tie 68 = .ok (.if_icmp .ne 19, 3) := by decide +kernel
theorem dX9_tie_71 : decode cX9_tie 71 = .ok (.aload_n 0, 1) := by decide +kernel
theorem dX9_tie_72 : decode cX9_tie 72 = .ok (.getfield 124, 3) := by decide +kernel
theorem dX9_tie_75 : decode cX9_tie 75 = .ok (.istore 4, 2) := by decide +kernel
theorem dX9_tie_77 : decode cX9_tie 77 = .ok (.aload_n 0, 1) := by decide +kernel
theorem dX9_tie_78 : decode cX9_tie 78 = .ok (.dup, 1) := by decide +kernel
theorem dX9_tie_79 : decode cX9_tie 79 = .ok (.getfield 124, 3) := by decide +kernel
theorem dX9_tie_82 : decode cX9_tie 82 = .ok (.iconst 1, 1) := by decide +kernel
theorem dX9_tie_83 : decode cX9_tie 83 = .ok (.iadd, 1) := by decide +kernel
theorem dX9_tie_84 : decode cX9_tie 84 = .ok (.putfield 124, 3) := by decide +kernel
theorem dX9_tie_87 : decode cX9_tie 87 = .ok (.aload_n 0, 1) := by decide +kernel
theorem dX9_tie_88 : decode cX9_tie 88 = .ok (.getfield 63, 3) := by decide +kernel
theorem dX9_tie_91 : decode cX9_tie 91 = .ok (.iload 4, 2) := by decide +kernel
theorem dX9_tie_93 : decode cX9_tie 93 = .ok (.iload_n 1, 1) := by decide +kernel
theorem dX9_tie_94 : decode cX9_tie 94 = .ok (.iastore, 1) := by decide +kernel
theorem dX9_tie_95 : decode cX9_tie 95 = .ok (.aload_n 0, 1) := by decide +kernel
theorem dX9_tie_96 : decode cX9_tie 96 = .ok (.getfield 66, 3) := by decide +kernel
theorem dX9_tie_99 : decode cX9_tie 99 = .ok (.iload 4, 2) := by decide +kernel
theorem dX9_tie_101 : decode cX9_tie 101 = .ok (.iload_n 2, 1) := by decide +kernel
theorem dX9_tie_102 : decode cX9_tie 102 = .ok (.iastore, 1) := by decide +kernel
theorem dX9_tie_103 : decode cX9_tie 103 = .ok (.aload_n 0, 1) := by decide +kernel
theorem dX9_tie_104 : decode cX9_tie 104 = .ok (.getfield 69, 3) := by decide +kernel
theorem dX9_tie_107 : decode cX9_tie 107 = .ok (.iload 4, 2) := by decide +kernel
theorem dX9_tie_109 : decode cX9_tie 109 = .ok (.iload_n 3, 1) := by decide +kernel
theorem dX9_tie_110 : decode cX9_tie 110 = .ok (.bastore, 1) := by decide +kernel
theorem dX9_tie_111 : decode cX9_tie 111 = .ok (.iconst 1, 1) := by decide +kernel
theorem dX9_tie_112 : decode cX9_tie 112 = .ok (.ireturn, 1) := by decide +kernel
theorem dX9_counts_0 : decode cX9_counts 0 = .ok (.aload_n 0, 1) := by decide +kernel
theorem dX9_counts_1 : decode cX9_counts 1 = .ok (.iconst 0, 1) := by decide +kernel
theorem dX9_counts_2 : decode cX9_counts 2 = .ok (.putfield 131, 3) := by decide +kernel
theorem dX9_counts_5 : decode cX9_counts 5 = .ok (.aload_n 0, 1) := by decide +kernel
theorem dX9_counts_6 : decode cX9_counts 6 = .ok (.iconst 0, 1) := by decide +kernel
theorem dX9_counts_7 : decode cX9_counts 7 = .ok (.putfield 134, 3) := by decide +kernel
theorem dX9_counts_10 : decode cX9_counts 10 = .ok (.aload_n 0, 1) := by decide +kernel
theorem dX9_counts_11 : decode cX9_counts 11 = .ok (.iconst 0, 1) := by decide +kernel
theorem dX9_counts_12 : decode cX9_counts 12 = .ok (.putfield 137, 3) := by decide +kernel
theorem dX9_counts_15 : decode cX9_counts 15 = .ok (.iconst 3, 1) := by decide +kernel
theorem dX9_counts_16 : decode cX9_counts 16 = .ok (.iconst 4, 1) := by decide +kernel
theorem dX9_counts_17 : decode cX9_counts 17 = .ok (.iload_n 1, 1) := by decide +kernel
theorem dX9_counts_18 : decode cX9_counts 18 = .ok (.isub, 1) := by decide +kernel
theorem dX9_counts_19 : decode cX9_counts 19 = .ok (.imul, 1) := by decide +kernel
theorem dX9_counts_20 : decode cX9_counts 20 = .ok (.istore_n 3, 1) := by decide +kernel
theorem dX9_counts_21 : decode cX9_counts 21 = .ok (.iconst 0, 1) := by decide +kernel
theorem dX9_counts_22 : decode cX9_counts 22 = .ok (.istore 4, 2) := by decide +kernel
theorem dX9_counts_24 : decode cX9_counts 24 = .ok (.iload 4, 2) := by decide +kernel
theorem dX9_counts_26 : decode cX9_counts 26 = .ok (.aload_n 0, 1) := by decide +kernel
theorem dX9_counts_27 : decode cX9_counts 27 = .ok (.getfield 93, 3) := by decide +kernel
theorem dX9_counts_30 : decode cX9_counts 30 = .ok (.if_icmp .ge 109, 3) := by decide +kernel
theorem dX9_counts_33 : decode cX9_counts 33 = .ok (.aload_n 0, 1) := by decide +kernel
theorem dX9_counts_34 : decode cX9_counts 34 = .ok (.getfield 29, 3) := by decide +kernel
theorem dX9_counts_37 : decode cX9_counts 37 = .ok (.iload 4, 2) := by decide +kernel
theorem dX9_counts_39 : decode cX9_counts 39 = .ok (.iaload, 1) := by decide +kernel
theorem dX9_counts_40 : decode cX9_counts 40 = .ok (.iload_n 3, 1) := by decide +kernel
theorem dX9_counts_41 : decode cX9_counts 41 = .ok (.ishr, 1) := by decide +kernel
theorem dX9_counts_42 : decode cX9_counts 42 = .ok (.iload_n 2, 1) := by decide +kernel
theorem dX9_counts_43 : decode cX9_counts 43 = .ok (.iload_n 3, 1) := by decide +kernel
theorem dX9_counts_44 : decode cX9_counts 44 = .ok (.ishr, 1) := by decide +kernel
theorem dX9_counts_45 : decode cX9_counts 45 = .ok (.if_icmp .eq 6, 3) := by decide +kernel
theorem dX9_counts_48 : decode cX9_counts 48 = .ok (.goto 85, 3) := by decide +kernel
theorem dX9_counts_51 : decode cX9_counts 51 = .ok (.aload_n 0, 1) := by decide +kernel
theorem dX9_counts_52 : decode cX9_counts 52 = .ok (.dup, 1) := by decide +kernel
theorem dX9_counts_53 : decode cX9_counts 53 = .ok (.getfield 131, 3) := by decide +kernel
theorem dX9_counts_56 : decode cX9_counts 56 = .ok (.aload_n 0, 1) := by decide +kernel
theorem dX9_counts_57 : decode cX9_counts 57 = .ok (.getfield 38, 3) := by decide +kernel
theorem dX9_counts_60 : decode cX9_counts 60 = .ok (.iload 4, 2) := by decide +kernel
theorem dX9_counts_62 : decode cX9_counts 62 = .ok (.iaload, 1) := by decide +kernel
theorem dX9_counts_63 : decode cX9_counts 63 = .ok (.iconst 1, 1) := by decide +kernel
theorem dX9_counts_64 : decode cX9_counts 64 = .ok (.if_icmp .ne 7, 3) := by decide +kernel
theorem dX9_counts_67 : decode cX9_counts 67 = .ok (.iconst 1, 1) := by decide +kernel
theorem dX9_counts_68 : decode cX9_counts 68 = .ok (.goto 4, 3) := by decide +kernel
theorem dX9_counts_71 : decode cX9_counts 71 = .ok (.iconst 0, 1) := by decide +kernel
theorem dX9_counts_72 : decode cX9_counts 72 = .ok (.invokestatic 107, 3) := by decide +kernel
theorem dX9_counts_75 : decode cX9_counts 75 = .ok (.iadd, 1) := by decide +kernel
theorem dX9_counts_76 : decode cX9_counts 76 = .ok (.putfield 131, 3) := by decide +kernel
theorem dX9_counts_79 : decode cX9_counts 79 = .ok (.aload_n 0, 1) := by decide +kernel
theorem dX9_counts_80 : decode cX9_counts 80 = .ok (.dup, 1) := by decide +kernel
theorem dX9_counts_81 : decode cX9_counts 81 = .ok (.getfield 134, 3) := by decide +kernel
theorem dX9_counts_84 : decode cX9_counts 84 = .ok (.aload_n 0, 1) := by decide +kernel
theorem dX9_counts_85 : decode cX9_counts 85 = .ok (.getfield 38, 3) := by decide +kernel
theorem dX9_counts_88 : decode cX9_counts 88 = .ok (.iload 4, 2) := by decide +kernel
theorem dX9_counts_90 : decode cX9_counts 90 = .ok (.iaload, 1) := by decide +kernel
theorem dX9_counts_91 : decode cX9_counts 91 = .ok (.ifCond .eq 7, 3) := by decide +kernel
theorem dX9_counts_94 : decode cX9_counts 94 = .ok (.iconst 1, 1) := by decide +kernel
theorem dX9_counts_95 : decode cX9_counts 95 = .ok (.goto 4, 3) := by decide +kernel
theorem dX9_counts_98 : decode cX9_counts 98 = .ok (.iconst 0, 1) := by decide +kernel
theorem dX9_counts_99 : decode cX9_counts 99 = .ok (.invokestatic 107, 3) := by decide +kernel
theorem dX9_counts_102 : decode cX9_counts 102 = .ok (.iadd, 1) := by decide +kernel
theorem dX9_counts_103 : decode cX9_counts 103 = .ok (.putfield 134, 3) := by decide +kernel
theorem dX9_counts_106 : decode cX9_counts 106 = .ok (.aload_n 0, 1) := by decide +kernel
theorem dX9_counts_107 : decode cX9_counts 107 = .ok (.dup, 1) := by decide +kernel
theorem dX9_counts_108 : decode cX9_counts 108 = .ok (.getfield 137, 3) := by decide +kernel
theorem dX9_counts_111 : decode cX9_counts 111 = .ok (.aload_n 0, 1) := by decide +kernel
theorem dX9_counts_112 : decode cX9_counts 112 = .ok (.getfield 38, 3) := by decide +kernel
theorem dX9_counts_115 : decode cX9_counts 115 = .ok (.iload 4, 2) := by decide +kernel
theorem dX9_counts_117 : decode cX9_counts 117 = .ok (.iaload, 1) := by decide +kernel
theorem dX9_counts_118 : decode cX9_counts 118 = .ok (.ifCond .ne 7, 3) := by decide +kernel
theorem dX9_counts_121 : decode cX9_counts 121 = .ok (.iconst 1, 1) := by decide +kernel
theorem dX9_counts_122 : decode cX9_counts 122 = .ok (.goto 4, 3) := by decide +kernel
theorem dX9_counts_125 : decode cX9_counts 125 = .ok (.iconst 0, 1) := by decide +kernel
theorem dX9_counts_126 : decode cX9_counts 126 = .ok (.invokestatic 107, 3) := by decide +kernel
theorem dX9_counts_129 : decode cX9_counts 129 = .ok (.iadd, 1) := by decide +kernel
theorem dX9_counts_130 : decode cX9_counts 130 = .ok (.putfield 137, 3) := by decide +kernel
theorem dX9_counts_133 : decode cX9_counts 133 = .ok (.iinc 4 1, 3) := by decide +kernel
theorem dX9_counts_136 : decode cX9_counts 136 = .ok (.goto (-112), 3) := by decide +kernel
theorem dX9_counts_139 : decode cX9_counts 139 = .ok (.return_, 1) := by decide +kernel
theorem dX9_depth_0 : decode cX9_depth 0 = .ok (.iconst 4, 1) := by decide +kernel
theorem dX9_depth_1 : decode cX9_depth 1 = .ok (.istore_n 2, 1) := by decide +kernel
theorem dX9_depth_2 : decode cX9_depth 2 = .ok (.aload_n 0, 1) := by decide +kernel
theorem dX9_depth_3 : decode cX9_depth 3 = .ok (.iload_n 2, 1) := by decide +kernel
theorem dX9_depth_4 : decode cX9_depth 4 = .ok (.aload_n 0, 1) := by decide +kernel
theorem dX9_depth_5 : decode cX9_depth 5 = .ok (.getfield 29, 3) := by decide +kernel
theorem dX9_depth_8 : decode cX9_depth 8 = .ok (.iload_n 1, 1) := by decide +kernel
theorem dX9_depth_9 : decode cX9_depth 9 = .ok (.iaload, 1) := by decide +kernel
theorem dX9_depth_10 : decode cX9_depth 10 = .ok (.invokevirtual 140, 3) := by decide +kernel
theorem dX9_depth_13 : decode cX9_depth 13 = .ok (.iload_n 2, 1) := by decide +kernel
theorem dX9_depth_14 : decode cX9_depth 14 = .ok (.ifCond .le 31, 3) := by decide +kernel
theorem dX9_depth_17 : decode cX9_depth 17 = .ok (.aload_n 0, 1) := by decide +kernel
theorem dX9_depth_18 : decode cX9_depth 18 = .ok (.getfield 134, 3) := by decide +kernel
theorem dX9_depth_21 : decode cX9_depth 21 = .ok (.aload_n 0, 1) := by decide +kernel
theorem dX9_depth_22 : decode cX9_depth 22 = .ok (.getfield 13, 3) := by decide +kernel
theorem dX9_depth_25 : decode cX9_depth 25 = .ok (.if_icmp .ge 20, 3) := by decide +kernel
theorem dX9_depth_28 : decode cX9_depth 28 = .ok (.iinc 2 (-1), 3) := by decide +kernel
theorem dX9_depth_31 : decode cX9_depth 31 = .ok (.aload_n 0, 1) := by decide +kernel
theorem dX9_depth_32 : decode cX9_depth 32 = .ok (.iload_n 2, 1) := by decide +kernel
theorem dX9_depth_33 : decode cX9_depth 33 = .ok (.aload_n 0, 1) := by decide +kernel
theorem dX9_depth_34 : decode cX9_depth 34 = .ok (.getfield 29, 3) := by decide +kernel
theorem dX9_depth_37 : decode cX9_depth 37 = .ok (.iload_n 1, 1) := by decide +kernel
theorem dX9_depth_38 : decode cX9_depth 38 = .ok (.iaload, 1) := by decide +kernel
theorem dX9_depth_39 : decode cX9_depth 39 = .ok (.invokevirtual 140, 3) := by decide +kernel
theorem dX9_depth_42 : decode cX9_depth 42 = .ok (.goto (-29), 3) := by decide +kernel
theorem dX9_depth_45 : decode cX9_depth 45 = .ok (.iload_n 2, 1) := by decide +kernel
theorem dX9_depth_46 : decode cX9_depth 46 = .ok (.ireturn, 1) := by decide +kernel
theorem dX9_score_0 : decode cX9_score 0 = .ok (.aload_n 0, 1) := by decide +kernel
theorem dX9_score_1 : decode cX9_score 1 = .ok (.iload_n 1, 1) := by decide +kernel
theorem dX9_score_2 : decode cX9_score 2 = .ok (.invokevirtual 144, 3) := by decide +kernel
theorem dX9_score_5 : decode cX9_score 5 = .ok (.pop, 1) := by decide +kernel
theorem dX9_score_6 : decode cX9_score 6 = .ok (.aload_n 0, 1) := by decide +kernel
theorem dX9_score_7 : decode cX9_score 7 = .ok (.getfield 134, 3) := by decide +kernel
theorem dX9_score_10 : decode cX9_score 10 = .ok (.ifCond .ne 16, 3) := by decide +kernel
theorem dX9_score_13 : decode cX9_score 13 = .ok (.sipush 500, 3) := by decide +kernel
theorem dX9_score_16 : decode cX9_score 16 = .ok (.aload_n 0, 1) := by decide +kernel
theorem dX9_score_17 : decode cX9_score 17 = .ok (.getfield 32, 3) := by decide +kernel
theorem dX9_score_20 : decode cX9_score 20 = .ok (.iload_n 1, 1) := by decide +kernel
theorem dX9_score_21 : decode cX9_score 21 = .ok (.iaload, 1) := by decide +kernel
theorem dX9_score_22 : decode cX9_score 22 = .ok (.imul, 1) := by decide +kernel
theorem dX9_score_23 : decode cX9_score 23 = .ok (.goto 23, 3) := by decide +kernel
theorem dX9_score_26 : decode cX9_score 26 = .ok (.sipush 1000, 3) := by decide +kernel
theorem dX9_score_29 : decode cX9_score 29 = .ok (.aload_n 0, 1) := by decide +kernel
theorem dX9_score_30 : decode cX9_score 30 = .ok (.getfield 32, 3) := by decide +kernel
theorem dX9_score_33 : decode cX9_score 33 = .ok (.iload_n 1, 1) := by decide +kernel
theorem dX9_score_34 : decode cX9_score 34 = .ok (.iaload, 1) := by decide +kernel
theorem dX9_score_35 : decode cX9_score 35 = .ok (.imul, 1) := by decide +kernel
theorem dX9_score_36 : decode cX9_score 36 = .ok (.aload_n 0, 1) := by decide +kernel
theorem dX9_score_37 : decode cX9_score 37 = .ok (.getfield 131, 3) := by decide +kernel
theorem dX9_score_40 : decode cX9_score 40 = .ok (.imul, 1) := by decide +kernel
theorem dX9_score_41 : decode cX9_score 41 = .ok (.aload_n 0, 1) := by decide +kernel
theorem dX9_score_42 : decode cX9_score 42 = .ok (.getfield 134, 3) := by decide +kernel
theorem dX9_score_45 : decode cX9_score 45 = .ok (.idiv, 1) := by decide +kernel
theorem dX9_score_46 : decode cX9_score 46 = .ok (.ireturn, 1) := by decide +kernel
theorem dX9_node_0 : decode cX9_node 0 = .ok (.iload_n 1, 1) := by decide +kernel
theorem dX9_node_1 : decode cX9_node 1 = .ok (.iconst 0, 1) := by decide +kernel
theorem dX9_node_2 : decode cX9_node 2 = .ok (.iconst 4, 1) := by decide +kernel
theorem dX9_node_3 : decode cX9_node 3 = .ok (.invokestatic 96, 3) := by decide +kernel
theorem dX9_node_6 : decode cX9_node 6 = .ok (.ifCond .eq 14, 3) := by decide +kernel
theorem dX9_node_9 : decode cX9_node 9 = .ok (.iload_n 2, 1) := by decide +kernel
theorem dX9_node_10 : decode cX9_node 10 = .ok (.iconst 0, 1) := by decide +kernel
theorem dX9_node_11 : decode cX9_node 11 = .ok (.sipush 4095, 3) := by decide +kernel
theorem dX9_node_14 : decode cX9_node 14 = .ok (.invokestatic 96, 3) := by decide +kernel
theorem dX9_node_17 : decode cX9_node 17 = .ok (.ifCond .ne 5, 3) := by decide +kernel
theorem dX9_node_20 : decode cX9_node 20 = .ok (.iconst (-1), 1) := by decide +kernel
theorem dX9_node_21 : decode cX9_node 21 = .ok (.ireturn, 1) := by decide +kernel
theorem dX9_node_22 : decode cX9_node 22 = .ok (.aload_n 0, 1) := by decide +kernel
theorem dX9_node_23 : decode cX9_node 23 = .ok (.iload_n 1, 1) := by decide +kernel
theorem dX9_node_24 : decode cX9_node 24 = .ok (.iload_n 2, 1) := by decide +kernel
theorem dX9_node_25 : decode cX9_node 25 = .ok (.invokevirtual 140, 3) := by decide +kernel
theorem dX9_node_28 : decode cX9_node 28 = .ok (.iload_n 3, 1) := by decide +kernel
theorem dX9_node_29 : decode cX9_node 29 = .ok (.ifCond .ne 10, 3) := by decide +kernel
theorem dX9_node_32 : decode cX9_node 32 = .ok (.aload_n 0, 1) := by decide +kernel
theorem dX9_node_33 : decode cX9_node 33 = .ok (.getfield 131, 3) := by decide +kernel
theorem dX9_node_36 : decode cX9_node 36 = .ok (.goto 28, 3) := by decide +kernel
theorem dX9_node_39 : decode cX9_node 39 = .ok (.iload_n 3, 1) := by decide +kernel
theorem dX9_node_40 : decode cX9_node 40 = .ok (.iconst 1, 1) := by decide +kernel
theorem dX9_node_41 : decode cX9_node 41 = .ok (.if_icmp .ne 10, 3) := by decide +kernel
theorem dX9_node_44 : decode cX9_node 44 = .ok (.aload_n 0, 1) := by decide +kernel
theorem dX9_node_45 : decode cX9_node 45 = .ok (.getfield 134, 3) := by decide +kernel
theorem dX9_node_48 : decode cX9_node 48 = .ok (.goto 16, 3) := by decide +kernel
theorem dX9_node_51 : decode cX9_node 51 = .ok (.iload_n 3, 1) := by decide +kernel
theorem dX9_node_52 : decode cX9_node 52 = .ok (.iconst 2, 1) := by decide +kernel
theorem dX9_node_53 : decode cX9_node 53 = .ok (.if_icmp .ne 10, 3) := by decide +kernel
theorem dX9_node_56 : decode cX9_node 56 = .ok (.aload_n 0, 1) := by decide +kernel
theorem dX9_node_57 : decode cX9_node 57 = .ok (.getfield 137, 3) := by decide +kernel
theorem dX9_node_60 : decode cX9_node 60 = .ok (.goto 4, 3) := by decide +kernel
theorem dX9_node_63 : decode cX9_node 63 = .ok (.iconst (-1), 1) := by decide +kernel
theorem dX9_node_64 : decode cX9_node 64 = .ok (.ireturn, 1) := by decide +kernel
theorem dX9_odds_0 : decode cX9_odds 0 = .ok (.aload_n 0, 1) := by decide +kernel
theorem dX9_odds_1 : decode cX9_odds 1 = .ok (.iload_n 1, 1) := by decide +kernel
theorem dX9_odds_2 : decode cX9_odds 2 = .ok (.invokevirtual 117, 3) := by decide +kernel
theorem dX9_odds_5 : decode cX9_odds 5 = .ok (.ifCond .eq 12, 3) := by decide +kernel
theorem dX9_odds_8 : decode cX9_odds 8 = .ok (.iload_n 2, 1) := by decide +kernel
theorem dX9_odds_9 : decode cX9_odds 9 = .ok (.iconst 0, 1) := by decide +kernel
theorem dX9_odds_10 : decode cX9_odds 10 = .ok (.iconst 5, 1) := by decide +kernel
theorem dX9_odds_11 : decode cX9_odds 11 = .ok (.invokestatic 96, 3) := by decide +kernel
theorem dX9_odds_14 : decode cX9_odds 14 = .ok (.ifCond .ne 5, 3) := by decide +kernel
theorem dX9_odds_17 : decode cX9_odds 17 = .ok (.iconst (-1), 1) := by decide +kernel
theorem dX9_odds_18 : decode cX9_odds 18 = .ok (.ireturn, 1) := by decide +kernel
theorem dX9_odds_19 : decode cX9_odds 19 = .ok (.aload_n 0, 1) := by decide +kernel
theorem dX9_odds_20 : decode cX9_odds 20 = .ok (.iload_n 1, 1) := by decide +kernel
theorem dX9_odds_21 : decode cX9_odds 21 = .ok (.invokevirtual 144, 3) := by decide +kernel
theorem dX9_odds_24 : decode cX9_odds 24 = .ok (.pop, 1) := by decide +kernel
theorem dX9_odds_25 : decode cX9_odds 25 = .ok (.iload_n 2, 1) := by decide +kernel
theorem dX9_odds_26 : decode cX9_odds 26 = .ok (.iconst 4, 1) := by decide +kernel
theorem dX9_odds_27 : decode cX9_odds 27 = .ok (.if_icmp .ge 10, 3) := by decide +kernel
theorem dX9_odds_30 : decode cX9_odds 30 = .ok (.aload_n 0, 1) := by decide +kernel
theorem dX9_odds_31 : decode cX9_odds 31 = .ok (.getfield 131, 3) := by decide +kernel
theorem dX9_odds_34 : decode cX9_odds 34 = .ok (.goto 12, 3) := by decide +kernel
theorem dX9_odds_37 : decode cX9_odds 37 = .ok (.aload_n 0, 1) := by decide +kernel
theorem dX9_odds_38 : decode cX9_odds 38 = .ok (.getfield 131, 3) := by decide +kernel
theorem dX9_odds_41 : decode cX9_odds 41 = .ok (.aload_n 0, 1) := by decide +kernel
theorem dX9_odds_42 : decode cX9_odds 42 = .ok (.getfield 137, 3) := by decide +kernel
theorem dX9_odds_45 : decode cX9_odds 45 = .ok (.iadd, 1) := by decide +kernel
theorem dX9_odds_46 : decode cX9_odds 46 = .ok (.istore_n 3, 1) := by decide +kernel
theorem dX9_odds_47 : decode cX9_odds 47 = .ok (.iload_n 2, 1) := by decide +kernel
theorem dX9_odds_48 : decode cX9_odds 48 = .ok (.iconst 2, 1) := by decide +kernel
theorem dX9_odds_49 : decode cX9_odds 49 = .ok (.if_icmp .ge 10, 3) := by decide +kernel
theorem dX9_odds_52 : decode cX9_odds 52 = .ok (.aload_n 0, 1) := by decide +kernel
theorem dX9_odds_53 : decode cX9_odds 53 = .ok (.getfield 134, 3) := by decide +kernel
theorem dX9_odds_56 : decode cX9_odds 56 = .ok (.goto 12, 3) := by decide +kernel
theorem dX9_odds_59 : decode cX9_odds 59 = .ok (.aload_n 0, 1) := by decide +kernel
theorem dX9_odds_60 : decode cX9_odds 60 = .ok (.getfield 134, 3) := by decide +kernel
theorem dX9_odds_63 : decode cX9_odds 63 = .ok (.aload_n 0, 1) := by decide +kernel
theorem dX9_odds_64 : decode cX9_odds 64 = .ok (.getfield 137, 3) := by decide +kernel
theorem dX9_odds_67 : decode cX9_odds 67 = .ok (.iadd, 1) := by decide +kernel
theorem dX9_odds_68 : decode cX9_odds 68 = .ok (.istore 4, 2) := by decide +kernel
theorem dX9_odds_70 : decode cX9_odds 70 = .ok (.iload_n 2, 1) := by decide +kernel
theorem dX9_odds_71 : decode cX9_odds 71 = .ok (.iconst 2, 1) := by decide +kernel
theorem dX9_odds_72 : decode cX9_odds 72 = .ok (.if_icmp .ge 15, 3) := by decide +kernel
theorem dX9_odds_75 : decode cX9_odds 75 = .ok (.aload_n 0, 1) := by decide +kernel
theorem dX9_odds_76 : decode cX9_odds 76 = .ok (.getfield 134, 3) := by decide +kernel
theorem dX9_odds_79 : decode cX9_odds 79 = .ok (.ifCond .ne 8, 3) := by decide +kernel
theorem dX9_odds_82 : decode cX9_odds 82 = .ok (.iconst 1, 1) := by decide +kernel
theorem dX9_odds_83 : decode cX9_odds 83 = .ok (.istore_n 3, 1) := by decide +kernel
theorem dX9_odds_84 : decode cX9_odds 84 = .ok (.iconst 2, 1) := by decide +kernel
theorem dX9_odds_85 : decode cX9_odds 85 = .ok (.istore 4, 2) := by decide +kernel
theorem dX9_odds_87 : decode cX9_odds 87 = .ok (.iload_n 3, 1) := by decide +kernel
theorem dX9_odds_88 : decode cX9_odds 88 = .ok (.istore 5, 2) := by decide +kernel
theorem dX9_odds_90 : decode cX9_odds 90 = .ok (.iload 4, 2) := by decide +kernel
theorem dX9_odds_92 : decode cX9_odds 92 = .ok (.istore 6, 2) := by decide +kernel
theorem dX9_odds_94 : decode cX9_odds 94 = .ok (.iload 6, 2) := by decide +kernel
theorem dX9_odds_96 : decode cX9_odds 96 = .ok (.ifCond .le 21, 3) := by decide +kernel
theorem dX9_odds_99 : decode cX9_odds 99 = .ok (.iload 5, 2) := by decide +kernel
theorem dX9_odds_101 : decode cX9_odds 101 = .ok (.iload 6, 2) := by decide +kernel
theorem dX9_odds_103 : decode cX9_odds 103 = .ok (.irem, 1) := by decide +kernel
theorem dX9_odds_104 : decode cX9_odds 104 = .ok (.istore 7, 2) := by decide +kernel
theorem dX9_odds_106 : decode cX9_odds 106 = .ok (.iload 6, 2) := by decide +kernel
theorem dX9_odds_108 : decode cX9_odds 108 = .ok (.istore 5, 2) := by decide +kernel
theorem dX9_odds_110 : decode cX9_odds 110 = .ok (.iload 7, 2) := by decide +kernel
theorem dX9_odds_112 : decode cX9_odds 112 = .ok (.istore 6, 2) := by decide +kernel
theorem dX9_odds_114 : decode cX9_odds 114 = .ok (.goto (-20), 3) := by decide +kernel
theorem dX9_odds_117 : decode cX9_odds 117 = .ok (.iload_n 2, 1) := by decide +kernel
theorem dX9_odds_118 : decode cX9_odds 118 = .ok (.iconst 2, 1) := by decide +kernel
theorem dX9_odds_119 : decode cX9_odds 119 = .ok (.irem, 1) := by decide +kernel
theorem dX9_odds_120 : decode cX9_odds 120 = .ok (.ifCond .ne 10, 3) := by decide +kernel
theorem dX9_odds_123 : decode cX9_odds 123 = .ok (.iload_n 3, 1) := by decide +kernel
theorem dX9_odds_124 : decode cX9_odds 124 = .ok (.iload 5, 2) := by decide +kernel
theorem dX9_odds_126 : decode cX9_odds 126 = .ok (.idiv, 1) := by decide +kernel
theorem dX9_odds_127 : decode cX9_odds 127 = .ok (.goto 8, 3) := by decide +kernel
theorem dX9_odds_130 : decode cX9_odds 130 = .ok (.iload 4, 2) := by decide +kernel
theorem dX9_odds_132 : decode cX9_odds 132 = .ok (.iload 5, 2) := by decide +kernel
theorem dX9_odds_134 : decode cX9_odds 134 = .ok (.idiv, 1) := by decide +kernel
theorem dX9_odds_135 : decode cX9_odds 135 = .ok (.ireturn, 1) := by decide +kernel
theorem dX9_hangs_0 : decode cX9_hangs 0 = .ok (.aload_n 0, 1) := by decide +kernel
theorem dX9_hangs_1 : decode cX9_hangs 1 = .ok (.iload_n 1, 1) := by decide +kernel
theorem dX9_hangs_2 : decode cX9_hangs 2 = .ok (.iload_n 2, 1) := by decide +kernel
theorem dX9_hangs_3 : decode cX9_hangs 3 = .ok (.invokevirtual 127, 3) := by decide +kernel
theorem dX9_hangs_6 : decode cX9_hangs 6 = .ok (.istore_n 3, 1) := by decide +kernel
theorem dX9_hangs_7 : decode cX9_hangs 7 = .ok (.iload_n 3, 1) := by decide +kernel
theorem dX9_hangs_8 : decode cX9_hangs 8 = .ok (.iconst (-1), 1) := by decide +kernel
theorem dX9_hangs_9 : decode cX9_hangs 9 = .ok (.if_icmp .eq 10, 3) := by decide +kernel
theorem dX9_hangs_12 : decode cX9_hangs 12 = .ok (.aload_n 0, 1) := by decide +kernel
theorem dX9_hangs_13 : decode cX9_hangs 13 = .ok (.getfield 69, 3) := by decide +kernel
theorem dX9_hangs_16 : decode cX9_hangs 16 = .ok (.iload_n 3, 1) := by decide +kernel
theorem dX9_hangs_17 : decode cX9_hangs 17 = .ok (.baload, 1) := by decide +kernel
theorem dX9_hangs_18 : decode cX9_hangs 18 = .ok (.ireturn, 1) := by decide +kernel
theorem dX9_hangs_19 : decode cX9_hangs 19 = .ok (.aload_n 0, 1) := by decide +kernel
theorem dX9_hangs_20 : decode cX9_hangs 20 = .ok (.getfield 26, 3) := by decide +kernel
theorem dX9_hangs_23 : decode cX9_hangs 23 = .ok (.iload_n 1, 1) := by decide +kernel
theorem dX9_hangs_24 : decode cX9_hangs 24 = .ok (.iaload, 1) := by decide +kernel
theorem dX9_hangs_25 : decode cX9_hangs 25 = .ok (.aload_n 0, 1) := by decide +kernel
theorem dX9_hangs_26 : decode cX9_hangs 26 = .ok (.getfield 26, 3) := by decide +kernel
theorem dX9_hangs_29 : decode cX9_hangs 29 = .ok (.iload_n 2, 1) := by decide +kernel
theorem dX9_hangs_30 : decode cX9_hangs 30 = .ok (.iaload, 1) := by decide +kernel
theorem dX9_hangs_31 : decode cX9_hangs 31 = .ok (.if_icmp .ne 28, 3) := by decide +kernel
theorem dX9_hangs_34 : decode cX9_hangs 34 = .ok (.aload_n 0, 1) := by decide +kernel
theorem dX9_hangs_35 : decode cX9_hangs 35 = .ok (.getfield 16, 3) := by decide +kernel
theorem dX9_hangs_38 : decode cX9_hangs 38 = .ok (.iload_n 1, 1) := by decide +kernel
theorem dX9_hangs_39 : decode cX9_hangs 39 = .ok (.iaload, 1) := by decide +kernel
theorem dX9_hangs_40 : decode cX9_hangs 40 = .ok (.aload_n 0, 1) := by decide +kernel
theorem dX9_hangs_41 : decode cX9_hangs 41 = .ok (.getfield 16, 3) := by decide +kernel
theorem dX9_hangs_44 : decode cX9_hangs 44 = .ok (.iload_n 2, 1) := by decide +kernel
theorem dX9_hangs_45 : decode cX9_hangs 45 = .ok (.iaload, 1) := by decide +kernel
theorem dX9_hangs_46 : decode cX9_hangs 46 = .ok (.isub, 1) := by decide +kernel
theorem dX9_hangs_47 : decode cX9_hangs 47 = .ok (.invokestatic 147, 3) := by decide +kernel
theorem dX9_hangs_50 : decode cX9_hangs 50 = .ok (.bipush 20, 2) := by decide +kernel
theorem dX9_hangs_52 : decode cX9_hangs 52 = .ok (.if_icmp .gt 7, 3) := by decide +kernel
theorem dX9_hangs_55 : decode cX9_hangs 55 = .ok (.iconst 1, 1) := by decide +kernel
theorem dX9_hangs_56 : decode cX9_hangs 56 = .ok (.goto 4, 3) := by decide +kernel
theorem dX9_hangs_59 : decode cX9_hangs 59 = .ok (.iconst 0, 1) := by decide +kernel
theorem dX9_hangs_60 : decode cX9_hangs 60 = .ok (.ireturn, 1) := by decide +kernel
theorem dX9_joins_0 : decode cX9_joins 0 = .ok (.iconst 0, 1) := by decide +kernel
theorem dX9_joins_1 : decode cX9_joins 1 = .ok (.istore_n 1, 1) := by decide +kernel
theorem dX9_joins_2 : decode cX9_joins 2 = .ok (.iload_n 1, 1) := by decide +kernel
theorem dX9_joins_3 : decode cX9_joins 3 = .ok (.aload_n 0, 1) := by decide +kernel
theorem dX9_joins_4 : decode cX9_joins 4 = .ok (.getfield 93, 3) := by decide +kernel
theorem dX9_joins_7 : decode cX9_joins 7 = .ok (.if_icmp .ge 51, 3) := by decide +kernel
theorem dX9_joins_10 : decode cX9_joins 10 = .ok (.aload_n 0, 1) := by decide +kernel
theorem dX9_joins_11 : decode cX9_joins 11 = .ok (.getfield 72, 3) := by decide +kernel
theorem dX9_joins_14 : decode cX9_joins 14 = .ok (.iload_n 1, 1) := by decide +kernel
theorem dX9_joins_15 : decode cX9_joins 15 = .ok (.aload_n 0, 1) := by decide +kernel
theorem dX9_joins_16 : decode cX9_joins 16 = .ok (.iload_n 1, 1) := by decide +kernel
theorem dX9_joins_17 : decode cX9_joins 17 = .ok (.invokevirtual 103, 3) := by decide +kernel
theorem dX9_joins_20 : decode cX9_joins 20 = .ok (.ifCond .eq 7, 3) := by decide +kernel
theorem dX9_joins_23 : decode cX9_joins 23 = .ok (.iload_n 1, 1) := by decide +kernel
theorem dX9_joins_24 : decode cX9_joins 24 = .ok (.goto 4, 3) := by decide +kernel
theorem dX9_joins_27 : decode cX9_joins 27 = .ok (.iconst (-1), 1) := by decide +kernel
theorem dX9_joins_28 : decode cX9_joins 28 = .ok (.iastore, 1) := by decide +kernel
theorem dX9_joins_29 : decode cX9_joins 29 = .ok (.aload_n 0, 1) := by decide +kernel
theorem dX9_joins_30 : decode cX9_joins 30 = .ok (.getfield 75, 3) := by decide +kernel
theorem dX9_joins_33 : decode cX9_joins 33 = .ok (.iload_n 1, 1) := by decide +kernel
theorem dX9_joins_34 : decode cX9_joins 34 = .ok (.aload_n 0, 1) := by decide +kernel
theorem dX9_joins_35 : decode cX9_joins 35 = .ok (.iload_n 1, 1) := by decide +kernel
theorem dX9_joins_36 : decode cX9_joins 36 = .ok (.invokevirtual 103, 3) := by decide +kernel
theorem dX9_joins_39 : decode cX9_joins 39 = .ok (.ifCond .eq 11, 3) := by decide +kernel
theorem dX9_joins_42 : decode cX9_joins 42 = .ok (.aload_n 0, 1) := by decide +kernel
theorem dX9_joins_43 : decode cX9_joins 43 = .ok (.iload_n 1, 1) := by decide +kernel
theorem dX9_joins_44 : decode cX9_joins 44 = .ok (.invokevirtual 152, 3) := by decide +kernel
theorem dX9_joins_47 : decode cX9_joins 47 = .ok (.goto 4, 3) := by decide +kernel
theorem dX9_joins_50 : decode cX9_joins 50 = .ok (.iconst 0, 1) := by decide +kernel
theorem dX9_joins_51 : decode cX9_joins 51 = .ok (.iastore, 1) := by decide +kernel
theorem dX9_joins_52 : decode cX9_joins 52 = .ok (.iinc 1 1, 3) := by decide +kernel
theorem dX9_joins_55 : decode cX9_joins 55 = .ok (.goto (-53), 3) := by decide +kernel
theorem dX9_joins_58 : decode cX9_joins 58 = .ok (.iconst 0, 1) := by decide +kernel
theorem dX9_joins_59 : decode cX9_joins 59 = .ok (.istore_n 1, 1) := by decide +kernel
theorem dX9_joins_60 : decode cX9_joins 60 = .ok (.iload_n 1, 1) := by decide +kernel
theorem dX9_joins_61 : decode cX9_joins 61 = .ok (.aload_n 0, 1) := by decide +kernel
theorem dX9_joins_62 : decode cX9_joins 62 = .ok (.getfield 93, 3) := by decide +kernel
theorem dX9_joins_65 : decode cX9_joins 65 = .ok (.if_icmp .ge 145, 3) := by decide +kernel
theorem dX9_joins_68 : decode cX9_joins 68 = .ok (.iload_n 1, 1) := by decide +kernel
theorem dX9_joins_69 : decode cX9_joins 69 = .ok (.iconst 1, 1) := by decide +kernel
theorem dX9_joins_70 : decode cX9_joins 70 = .ok (.iadd, 1) := by decide +kernel
theorem dX9_joins_71 : decode cX9_joins 71 = .ok (.istore_n 2, 1) := by decide +kernel
theorem dX9_joins_72 : decode cX9_joins 72 = .ok (.iload_n 2, 1) := by decide +kernel
theorem dX9_joins_73 : decode cX9_joins 73 = .ok (.aload_n 0, 1) := by decide +kernel
theorem dX9_joins_74 : decode cX9_joins 74 = .ok (.getfield 93, 3) := by decide +kernel
theorem dX9_joins_77 : decode cX9_joins 77 = .ok (.if_icmp .ge 127, 3) := by decide +kernel
theorem dX9_joins_80 : decode cX9_joins 80 = .ok (.aload_n 0, 1) := by decide +kernel
theorem dX9_joins_81 : decode cX9_joins 81 = .ok (.getfield 72, 3) := by decide +kernel
theorem dX9_joins_84 : decode cX9_joins 84 = .ok (.iload_n 1, 1) := by decide +kernel
theorem dX9_joins_85 : decode cX9_joins 85 = .ok (.iaload, 1) := by decide +kernel
theorem dX9_joins_86 : decode cX9_joins 86 = .ok (.iconst (-1), 1) := by decide +kernel
theorem dX9_joins_87 : decode cX9_joins 87 = .ok (.if_icmp .eq 111, 3) := by decide +kernel
theorem dX9_joins_90 : decode cX9_joins 90 = .ok (.aload_n 0, 1) := by decide +kernel
theorem dX9_joins_91 : decode cX9_joins 91 = .ok (.getfield 72, 3) := by decide +kernel
theorem dX9_joins_94 : decode cX9_joins 94 = .ok (.iload_n 2, 1) := by decide +kernel
theorem dX9_joins_95 : decode cX9_joins 95 = .ok (.iaload, 1) := by decide +kernel
theorem dX9_joins_96 : decode cX9_joins 96 = .ok (.iconst (-1), 1) := by decide +kernel
theorem dX9_joins_97 : decode cX9_joins 97 = .ok (.if_icmp .eq 101, 3) := by decide +kernel
theorem dX9_joins_100 : decode cX9_joins 100 = .ok (.aload_n 0, 1) := by decide +kernel
theorem dX9_joins_101 : decode cX9_joins 101 = .ok (.getfield 72, 3) := by decide +kernel
theorem dX9_joins_104 : decode cX9_joins 104 = .ok (.iload_n 1, 1) := by decide +kernel
theorem dX9_joins_105 : decode cX9_joins 105 = .ok (.iaload, 1) := by decide +kernel
theorem dX9_joins_106 : decode cX9_joins 106 = .ok (.aload_n 0, 1) := by decide +kernel
theorem dX9_joins_107 : decode cX9_joins 107 = .ok (.getfield 72, 3) := by decide +kernel
theorem dX9_joins_110 : decode cX9_joins 110 = .ok (.iload_n 2, 1) := by decide +kernel
theorem dX9_joins_111 : decode cX9_joins 111 = .ok (.iaload, 1) := by decide +kernel
theorem dX9_joins_112 : decode cX9_joins 112 = .ok (.if_icmp .eq 86, 3) := by decide +kernel
theorem dX9_joins_115 : decode cX9_joins 115 = .ok (.aload_n 0, 1) := by decide +kernel
theorem dX9_joins_116 : decode cX9_joins 116 = .ok (.iload_n 1, 1) := by decide +kernel
theorem dX9_joins_117 : decode cX9_joins 117 = .ok (.iload_n 2, 1) := by decide +kernel
theorem dX9_joins_118 : decode cX9_joins 118 = .ok (.invokevirtual 155, 3) := by decide +kernel
theorem dX9_joins_121 : decode cX9_joins 121 = .ok (.ifCond .ne 6, 3) := by decide +kernel
theorem dX9_joins_124 : decode cX9_joins 124 = .ok (.goto 74, 3) := by decide +kernel
theorem dX9_joins_127 : decode cX9_joins 127 = .ok (.aload_n 0, 1) := by decide +kernel
theorem dX9_joins_128 : decode cX9_joins 128 = .ok (.getfield 72, 3) := by decide +kernel
theorem dX9_joins_131 : decode cX9_joins 131 = .ok (.iload_n 1, 1) := by decide +kernel
theorem dX9_joins_132 : decode cX9_joins 132 = .ok (.iaload, 1) := by decide +kernel
theorem dX9_joins_133 : decode cX9_joins 133 = .ok (.aload_n 0, 1) := by decide +kernel
theorem dX9_joins_134 : decode cX9_joins 134 = .ok (.getfield 72, 3) := by decide +kernel
theorem dX9_joins_137 : decode cX9_joins 137 = .ok (.iload_n 2, 1) := by decide +kernel
theorem dX9_joins_138 : decode cX9_joins 138 = .ok (.iaload, 1) := by decide +kernel
theorem dX9_joins_139 : decode cX9_joins 139 = .ok (.invokestatic 159, 3) := by decide +kernel
theorem dX9_joins_142 : decode cX9_joins 142 = .ok (.istore_n 3, 1) := by decide +kernel
theorem dX9_joins_143 : decode cX9_joins 143 = .ok (.aload_n 0, 1) := by decide +kernel
theorem dX9_joins_144 : decode cX9_joins 144 = .ok (.getfield 72, 3) := by decide +kernel
theorem dX9_joins_147 : decode cX9_joins 147 = .ok (.iload_n 1, 1) := by decide +kernel
theorem dX9_joins_148 : decode cX9_joins 148 = .ok (.iaload, 1) := by decide +kernel
theorem dX9_joins_149 : decode cX9_joins 149 = .ok (.aload_n 0, 1) := by decide +kernel
theorem dX9_joins_150 : decode cX9_joins 150 = .ok (.getfield 72, 3) := by decide +kernel
theorem dX9_joins_153 : decode cX9_joins 153 = .ok (.iload_n 2, 1) := by decide +kernel
theorem dX9_joins_154 : decode cX9_joins 154 = .ok (.iaload, 1) := by decide +kernel
theorem dX9_joins_155 : decode cX9_joins 155 = .ok (.invokestatic 162, 3) := by decide +kernel
theorem dX9_joins_158 : decode cX9_joins 158 = .ok (.istore 4, 2) := by decide +kernel
theorem dX9_joins_160 : decode cX9_joins 160 = .ok (.iconst 0, 1) := by decide +kernel
theorem dX9_joins_161 : decode cX9_joins 161 = .ok (.istore 5, 2) := by decide +kernel
theorem dX9_joins_163 : decode cX9_joins 163 = .ok (.iload 5, 2) := by decide +kernel
theorem dX9_joins_165 : decode cX9_joins 165 = .ok (.aload_n 0, 1) := by decide +kernel
theorem dX9_joins_166 : decode cX9_joins 166 = .ok (.getfield 93, 3) := by decide +kernel
theorem dX9_joins_169 : decode cX9_joins 169 = .ok (.if_icmp .ge 29, 3) := by decide +kernel
theorem dX9_joins_172 : decode cX9_joins 172 = .ok (.aload_n 0, 1) := by decide +kernel
theorem dX9_joins_173 : decode cX9_joins 173 = .ok (.getfield 72, 3) := by decide +kernel
theorem dX9_joins_176 : decode cX9_joins 176 = .ok (.iload 5, 2) := by decide +kernel
theorem dX9_joins_178 : decode cX9_joins 178 = .ok (.iaload, 1) := by decide +kernel
theorem dX9_joins_179 : decode cX9_joins 179 = .ok (.iload 4, 2) := by decide +kernel
theorem dX9_joins_181 : decode cX9_joins 181 = .ok (.if_icmp .ne 11, 3) := by decide +kernel
theorem dX9_joins_184 : decode cX9_joins 184 = .ok (.aload_n 0, 1) := by decide +kernel
theorem dX9_joins_185 : decode cX9_joins 185 = .ok (.getfield 72, 3) := by decide +kernel
theorem dX9_joins_188 : decode cX9_joins 188 = .ok (.iload 5, 2) := by decide +kernel
theorem dX9_joins_190 : decode cX9_joins 190 = .ok (.iload_n 3, 1) := by decide +kernel
theorem dX9_joins_191 : decode cX9_joins 191 = .ok (.iastore, 1) := by decide +kernel
theorem dX9_joins_192 : decode cX9_joins 192 = .ok (.iinc 5 1, 3) := by decide +kernel
theorem dX9_joins_195 : decode cX9_joins 195 = .ok (.goto (-32), 3) := by decide +kernel
theorem dX9_joins_198 : decode cX9_joins 198 = .ok (.iinc 2 1, 3) := by decide +kernel
theorem dX9_joins_201 : decode cX9_joins 201 = .ok (.goto (-129), 3) := by decide +kernel
theorem dX9_joins_204 : decode cX9_joins 204 = .ok (.iinc 1 1, 3) := by decide +kernel
theorem dX9_joins_207 : decode cX9_joins 207 = .ok (.goto (-147), 3) := by decide +kernel
theorem dX9_joins_210 : decode cX9_joins 210 = .ok (.aload_n 0, 1) := by decide +kernel
theorem dX9_joins_211 : decode cX9_joins 211 = .ok (.iconst 0, 1) := by decide +kernel
theorem dX9_joins_212 : decode cX9_joins 212 = .ok (.putfield 165, 3) := by decide +kernel
theorem dX9_joins_215 : decode cX9_joins 215 = .ok (.iconst 0, 1) := by decide +kernel
theorem dX9_joins_216 : decode cX9_joins 216 = .ok (.istore_n 1, 1) := by decide +kernel
theorem dX9_joins_217 : decode cX9_joins 217 = .ok (.iload_n 1, 1) := by decide +kernel
theorem dX9_joins_218 : decode cX9_joins 218 = .ok (.aload_n 0, 1) := by decide +kernel
theorem dX9_joins_219 : decode cX9_joins 219 = .ok (.getfield 93, 3) := by decide +kernel
theorem dX9_joins_222 : decode cX9_joins 222 = .ok (.if_icmp .ge 90, 3) := by decide +kernel
theorem dX9_joins_225 : decode cX9_joins 225 = .ok (.aload_n 0, 1) := by decide +kernel
theorem dX9_joins_226 : decode cX9_joins 226 = .ok (.getfield 72, 3) := by decide +kernel
theorem dX9_joins_229 : decode cX9_joins 229 = .ok (.iload_n 1, 1) := by decide +kernel
theorem dX9_joins_230 : decode cX9_joins 230 = .ok (.iaload, 1) := by decide +kernel
theorem dX9_joins_231 : decode cX9_joins 231 = .ok (.iload_n 1, 1) := by decide +kernel
theorem dX9_joins_232 : decode cX9_joins 232 = .ok (.if_icmp .eq 6, 3) := by decide +kernel
theorem dX9_joins_235 : decode cX9_joins 235 = .ok (.goto 71, 3) := by decide +kernel
theorem dX9_joins_238 : decode cX9_joins 238 = .ok (.aload_n 0, 1) := by decide +kernel
theorem dX9_joins_239 : decode cX9_joins 239 = .ok (.iload_n 1, 1) := by decide +kernel
theorem dX9_joins_240 : decode cX9_joins 240 = .ok (.invokevirtual 168, 3) := by decide +kernel
theorem dX9_joins_243 : decode cX9_joins 243 = .ok (.istore_n 2, 1) := by decide +kernel
theorem dX9_joins_244 : decode cX9_joins 244 = .ok (.aload_n 0, 1) := by decide +kernel
theorem dX9_joins_245 : decode cX9_joins 245 = .ok (.getfield 165, 3) := by decide +kernel
theorem dX9_joins_248 : decode cX9_joins 248 = .ok (.istore_n 3, 1) := by decide +kernel
theorem dX9_joins_249 : decode cX9_joins 249 = .ok (.iload_n 3, 1) := by decide +kernel
theorem dX9_joins_250 : decode cX9_joins 250 = .ok (.ifCond .le 39, 3) := by decide +kernel
theorem dX9_joins_253 : decode cX9_joins 253 = .ok (.aload_n 0, 1) := by decide +kernel
theorem dX9_joins_254 : decode cX9_joins 254 = .ok (.aload_n 0, 1) := by decide +kernel
theorem dX9_joins_255 : decode cX9_joins 255 = .ok (.getfield 78, 3) := by decide +kernel
theorem dX9_joins_258 : decode cX9_joins 258 = .ok (.iload_n 3, 1) := by decide +kernel
theorem dX9_joins_259 : decode cX9_joins 259 = .ok (.iconst 1, 1) := by decide +kernel
theorem dX9_joins_260 : decode cX9_joins 260 = .ok (.isub, 1) := by decide +kernel
theorem dX9_joins_261 : decode cX9_joins 261 = .ok (.iaload, 1) := by decide +kernel
theorem dX9_joins_262 : decode cX9_joins 262 = .ok (.invokevirtual 168, 3) := by decide +kernel
theorem dX9_joins_265 : decode cX9_joins 265 = .ok (.iload_n 2, 1) := by decide +kernel
theorem dX9_joins_266 : decode cX9_joins 266 = .ok (.if_icmp .ge 23, 3) := by decide +kernel
theorem dX9_joins_269 : decode cX9_joins 269 = .ok (.aload_n 0, 1) := by decide +kernel
theorem dX9_joins_270 : decode cX9_joins 270 = .ok (.getfield 78, 3) := by decide +kernel
theorem dX9_joins_273 : decode cX9_joins 273 = .ok (.iload_n 3, 1) := by decide +kernel
theorem dX9_joins_274 : decode cX9_joins 274 = .ok (.aload_n 0, 1) := by decide +kernel
theorem dX9_joins_275 : decode cX9_joins 275 = .ok (.getfield 78, 3) := by decide +kernel
theorem dX9_joins_278 : decode cX9_joins 278 = .ok (.iload_n 3, 1) := by decide +kernel
theorem dX9_joins_279 : decode cX9_joins 279 = .ok (.iconst 1, 1) := by decide +kernel
theorem dX9_joins_280 : decode cX9_joins 280 = .ok (.isub, 1) := by decide +kernel
theorem dX9_joins_281 : decode cX9_joins 281 = .ok (.iaload, 1) := by decide +kernel
theorem dX9_joins_282 : decode cX9_joins 282 = .ok (.iastore, 1) := by decide +kernel
theorem dX9_joins_283 : decode cX9_joins 283 = .ok (.iinc 3 (-1), 3) := by decide +kernel
theorem dX9_joins_286 : decode cX9_joins 286 = .ok (.goto (-37), 3) := by decide +kernel
theorem dX9_joins_289 : decode cX9_joins 289 = .ok (.aload_n 0, 1) := by decide +kernel
theorem dX9_joins_290 : decode cX9_joins 290 = .ok (.getfield 78, 3) := by decide +kernel
theorem dX9_joins_293 : decode cX9_joins 293 = .ok (.iload_n 3, 1) := by decide +kernel
theorem dX9_joins_294 : decode cX9_joins 294 = .ok (.iload_n 1, 1) := by decide +kernel
theorem dX9_joins_295 : decode cX9_joins 295 = .ok (.iastore, 1) := by decide +kernel
theorem dX9_joins_296 : decode cX9_joins 296 = .ok (.aload_n 0, 1) := by decide +kernel
theorem dX9_joins_297 : decode cX9_joins 297 = .ok (.dup, 1) := by decide +kernel
theorem dX9_joins_298 : decode cX9_joins 298 = .ok (.getfield 165, 3) := by decide +kernel
theorem dX9_joins_301 : decode cX9_joins 301 = .ok (.iconst 1, 1) := by decide +kernel
theorem dX9_joins_302 : decode cX9_joins 302 = .ok (.iadd, 1) := by decide +kernel
theorem dX9_joins_303 : decode cX9_joins 303 = .ok (.putfield 165, 3) := by decide +kernel
theorem dX9_joins_306 : decode cX9_joins 306 = .ok (.iinc 1 1, 3) := by decide +kernel
theorem dX9_joins_309 : decode cX9_joins 309 = .ok (.goto (-92), 3) := by decide +kernel
theorem dX9_joins_312 : decode cX9_joins 312 = .ok (.return_, 1) := by decide +kernel
theorem dX9_scoreOf_0 : decode cX9_scoreOf 0 = .ok (.iconst 0, 1) := by decide +kernel
theorem dX9_scoreOf_1 : decode cX9_scoreOf 1 = .ok (.istore_n 2, 1) := by decide +kernel
theorem dX9_scoreOf_2 : decode cX9_scoreOf 2 = .ok (.iload_n 1, 1) := by decide +kernel
theorem dX9_scoreOf_3 : decode cX9_scoreOf 3 = .ok (.istore_n 3, 1) := by decide +kernel
theorem dX9_scoreOf_4 : decode cX9_scoreOf 4 = .ok (.iload_n 3, 1) := by decide +kernel
theorem dX9_scoreOf_5 : decode cX9_scoreOf 5 = .ok (.aload_n 0, 1) := by decide +kernel
theorem dX9_scoreOf_6 : decode cX9_scoreOf 6 = .ok (.getfield 93, 3) := by decide +kernel
theorem dX9_scoreOf_9 : decode cX9_scoreOf 9 = .ok (.if_icmp .ge 30, 3) := by decide +kernel
theorem dX9_scoreOf_12 : decode cX9_scoreOf 12 = .ok (.aload_n 0, 1) := by decide +kernel
theorem dX9_scoreOf_13 : decode cX9_scoreOf 13 = .ok (.getfield 72, 3) := by decide +kernel
theorem dX9_scoreOf_16 : decode cX9_scoreOf 16 = .ok (.iload_n 3, 1) := by decide +kernel
theorem dX9_scoreOf_17 : decode cX9_scoreOf 17 = .ok (.iaload, 1) := by decide +kernel
theorem dX9_scoreOf_18 : decode cX9_scoreOf 18 = .ok (.iload_n 1, 1) := by decide +kernel
theorem dX9_scoreOf_19 : decode cX9_scoreOf 19 = .ok (.if_icmp .ne 14, 3) := by decide +kernel
theorem dX9_scoreOf_22 : decode cX9_scoreOf 22 = .ok (.iload_n 2, 1) := by decide +kernel
theorem dX9_scoreOf_23 : decode cX9_scoreOf 23 = .ok (.aload_n 0, 1) := by decide +kernel
theorem dX9_scoreOf_24 : decode cX9_scoreOf 24 = .ok (.getfield 75, 3) := by decide +kernel
theorem dX9_scoreOf_27 : decode cX9_scoreOf 27 = .ok (.iload_n 3, 1) := by decide +kernel
theorem dX9_scoreOf_28 : decode cX9_scoreOf 28 = .ok (.iaload, 1) := by decide +kernel
theorem dX9_scoreOf_29 : decode cX9_scoreOf 29 = .ok (.invokestatic 162, 3) := by decide +kernel
theorem dX9_scoreOf_32 : decode cX9_scoreOf 32 = .ok (.istore_n 2, 1) := by decide +kernel
theorem dX9_scoreOf_33 : decode cX9_scoreOf 33 = .ok (.iinc 3 1, 3) := by decide +kernel
theorem dX9_scoreOf_36 : decode cX9_scoreOf 36 = .ok (.goto (-32), 3) := by decide +kernel
theorem dX9_scoreOf_39 : decode cX9_scoreOf 39 = .ok (.iload_n 2, 1) := by decide +kernel
theorem dX9_scoreOf_40 : decode cX9_scoreOf 40 = .ok (.ireturn, 1) := by decide +kernel
theorem dX9_sizeOf_0 : decode cX9_sizeOf 0 = .ok (.iconst 0, 1) := by decide +kernel
theorem dX9_sizeOf_1 : decode cX9_sizeOf 1 = .ok (.istore_n 2, 1) := by decide +kernel
theorem dX9_sizeOf_2 : decode cX9_sizeOf 2 = .ok (.iload_n 1, 1) := by decide +kernel
theorem dX9_sizeOf_3 : decode cX9_sizeOf 3 = .ok (.istore_n 3, 1) := by decide +kernel
theorem dX9_sizeOf_4 : decode cX9_sizeOf 4 = .ok (.iload_n 3, 1) := by decide +kernel
theorem dX9_sizeOf_5 : decode cX9_sizeOf 5 = .ok (.aload_n 0, 1) := by decide +kernel
theorem dX9_sizeOf_6 : decode cX9_sizeOf 6 = .ok (.getfield 93, 3) := by decide +kernel
theorem dX9_sizeOf_9 : decode cX9_sizeOf 9 = .ok (.if_icmp .ge 30, 3) := by decide +kernel
theorem dX9_sizeOf_12 : decode cX9_sizeOf 12 = .ok (.iload_n 2, 1) := by decide +kernel
theorem dX9_sizeOf_13 : decode cX9_sizeOf 13 = .ok (.aload_n 0, 1) := by decide +kernel
theorem dX9_sizeOf_14 : decode cX9_sizeOf 14 = .ok (.getfield 72, 3) := by decide +kernel
theorem dX9_sizeOf_17 : decode cX9_sizeOf 17 = .ok (.iload_n 3, 1) := by decide +kernel
theorem dX9_sizeOf_18 : decode cX9_sizeOf 18 = .ok (.iaload, 1) := by decide +kernel
theorem dX9_sizeOf_19 : decode cX9_sizeOf 19 = .ok (.iload_n 1, 1) := by decide +kernel
theorem dX9_sizeOf_20 : decode cX9_sizeOf 20 = .ok (.if_icmp .ne 7, 3) := by decide +kernel
theorem dX9_sizeOf_23 : decode cX9_sizeOf 23 = .ok (.iconst 1, 1) := by decide +kernel
theorem dX9_sizeOf_24 : decode cX9_sizeOf 24 = .ok (.goto 4, 3) := by decide +kernel
theorem dX9_sizeOf_27 : decode cX9_sizeOf 27 = .ok (.iconst 0, 1) := by decide +kernel
theorem dX9_sizeOf_28 : decode cX9_sizeOf 28 = .ok (.invokestatic 107, 3) := by decide +kernel
theorem dX9_sizeOf_31 : decode cX9_sizeOf 31 = .ok (.iadd, 1) := by decide +kernel
theorem dX9_sizeOf_32 : decode cX9_sizeOf 32 = .ok (.istore_n 2, 1) := by decide +kernel
theorem dX9_sizeOf_33 : decode cX9_sizeOf 33 = .ok (.iinc 3 1, 3) := by decide +kernel
theorem dX9_sizeOf_36 : decode cX9_sizeOf 36 = .ok (.goto (-32), 3) := by decide +kernel
theorem dX9_sizeOf_39 : decode cX9_sizeOf 39 = .ok (.iload_n 2, 1) := by decide +kernel
theorem dX9_sizeOf_40 : decode cX9_sizeOf 40 = .ok (.ireturn, 1) := by decide +kernel
theorem dX9_minutesOf_0 : decode cX9_minutesOf 0 = .ok (.iconst 5, 1) := by decide +kernel
theorem dX9_minutesOf_1 : decode cX9_minutesOf 1 = .ok (.iconst 2, 1) := by decide +kernel
theorem dX9_minutesOf_2 : decode cX9_minutesOf 2 = .ok (.aload_n 0, 1) := by decide +kernel
theorem dX9_minutesOf_3 : decode cX9_minutesOf 3 = .ok (.iload_n 1, 1) := by decide +kernel
theorem dX9_minutesOf_4 : decode cX9_minutesOf 4 = .ok (.invokevirtual 171, 3) := by decide +kernel
theorem dX9_minutesOf_7 : decode cX9_minutesOf 7 = .ok (.imul, 1) := by decide +kernel
theorem dX9_minutesOf_8 : decode cX9_minutesOf 8 = .ok (.iadd, 1) := by decide +kernel
theorem dX9_minutesOf_9 : decode cX9_minutesOf 9 = .ok (.ireturn, 1) := by decide +kernel
theorem dX9_isLittleKnown_0 : decode cX9_isLittleKnown 0 = .ok (.iload_n 1, 1) := by decide +kernel
theorem dX9_isLittleKnown_1 : decode cX9_isLittleKnown 1 = .ok (.istore_n 2, 1) := by decide +kernel
theorem dX9_isLittleKnown_2 : decode cX9_isLittleKnown 2 = .ok (.iload_n 2, 1) := by decide +kernel
theorem dX9_isLittleKnown_3 : decode cX9_isLittleKnown 3 = .ok (.aload_n 0, 1) := by decide +kernel
theorem dX9_isLittleKnown_4 : decode cX9_isLittleKnown 4 = .ok (.getfield 93, 3) := by decide +kernel
theorem dX9_isLittleKnown_7 : decode cX9_isLittleKnown 7 = .ok (.if_icmp .ge 29, 3) := by decide +kernel
theorem dX9_isLittleKnown_10 : decode cX9_isLittleKnown 10 = .ok (.aload_n 0, 1) := by decide +kernel
theorem dX9_isLittleKnown_11 : decode cX9_isLittleKnown 11 = .ok (.getfield 72, 3) := by decide +kernel
theorem dX9_isLittleKnown_14 : decode cX9_isLittleKnown 14 = .ok (.iload_n 2, 1) := by decide +kernel
theorem dX9_isLittleKnown_15 : decode cX9_isLittleKnown 15 = .ok (.iaload, 1) := by decide +kernel
theorem dX9_isLittleKnown_16 : decode cX9_isLittleKnown 16 = .ok (.iload_n 1, 1) := by decide +kernel
theorem dX9_isLittleKnown_17 : decode cX9_isLittleKnown 17 = .ok (.if_icmp .ne 13, 3) := by decide +kernel
theorem dX9_isLittleKnown_20 : decode cX9_isLittleKnown 20 = .ok (.aload_n 0, 1) := by decide +kernel
theorem dX9_isLittleKnown_21 : decode cX9_isLittleKnown 21 = .ok (.iload_n 2, 1) := by decide +kernel
theorem dX9_isLittleKnown_22 : decode cX9_isLittleKnown 22 = .ok (.invokevirtual 144, 3) := by decide +kernel
theorem dX9_isLittleKnown_25 : decode cX9_isLittleKnown 25 = .ok (.ifCond .ne 5, 3) := by decide +kernel
theorem dX9_isLittleKnown_28 : decode cX9_isLittleKnown 28 = .ok (.iconst 1, 1) := by decide +kernel
theorem dX9_isLittleKnown_29 : decode cX9_isLittleKnown 29 = .ok (.ireturn, 1) := by decide +kernel
theorem dX9_isLittleKnown_30 : decode cX9_isLittleKnown 30 = .ok (.iinc 2 1, 3) := by decide +kernel
theorem dX9_isLittleKnown_33 : decode cX9_isLittleKnown 33 = .ok (.goto (-31), 3) := by decide +kernel
theorem dX9_isLittleKnown_36 : decode cX9_isLittleKnown 36 = .ok (.iconst 0, 1) := by decide +kernel
theorem dX9_isLittleKnown_37 : decode cX9_isLittleKnown 37 = .ok (.ireturn, 1) := by decide +kernel
theorem dX9_told_0 : decode cX9_told 0 = .ok (.aload_n 0, 1) := by decide +kernel
theorem dX9_told_1 : decode cX9_told 1 = .ok (.iload_n 1, 1) := by decide +kernel
theorem dX9_told_2 : decode cX9_told 2 = .ok (.invokevirtual 117, 3) := by decide +kernel
theorem dX9_told_5 : decode cX9_told 5 = .ok (.ifCond .ne 5, 3) := by decide +kernel
theorem dX9_told_8 : decode cX9_told 8 = .ok (.iconst (-1), 1) := by decide +kernel
theorem dX9_told_9 : decode cX9_told 9 = .ok (.ireturn, 1) := by decide +kernel
theorem dX9_told_10 : decode cX9_told 10 = .ok (.iload_n 2, 1) := by decide +kernel
theorem dX9_told_11 : decode cX9_told 11 = .ok (.tableswitch 174 0 12 #[65, 72, 79, 86, 93, 100, 107, 114, 124, 134, 140, 146, 163], 65) := by decide +kernel
theorem dX9_told_76 : decode cX9_told 76 = .ok (.aload_n 0, 1) := by decide +kernel
theorem dX9_told_77 : decode cX9_told 77 = .ok (.getfield 16, 3) := by decide +kernel
theorem dX9_told_80 : decode cX9_told 80 = .ok (.iload_n 1, 1) := by decide +kernel
theorem dX9_told_81 : decode cX9_told 81 = .ok (.iaload, 1) := by decide +kernel
theorem dX9_told_82 : decode cX9_told 82 = .ok (.ireturn, 1) := by decide +kernel
theorem dX9_told_83 : decode cX9_told 83 = .ok (.aload_n 0, 1) := by decide +kernel
theorem dX9_told_84 : decode cX9_told 84 = .ok (.getfield 23, 3) := by decide +kernel
theorem dX9_told_87 : decode cX9_told 87 = .ok (.iload_n 1, 1) := by decide +kernel
theorem dX9_told_88 : decode cX9_told 88 = .ok (.iaload, 1) := by decide +kernel
theorem dX9_told_89 : decode cX9_told 89 = .ok (.ireturn, 1) := by decide +kernel
theorem dX9_told_90 : decode cX9_told 90 = .ok (.aload_n 0, 1) := by decide +kernel
theorem dX9_told_91 : decode cX9_told 91 = .ok (.getfield 26, 3) := by decide +kernel
theorem dX9_told_94 : decode cX9_told 94 = .ok (.iload_n 1, 1) := by decide +kernel
theorem dX9_told_95 : decode cX9_told 95 = .ok (.iaload, 1) := by decide +kernel
theorem dX9_told_96 : decode cX9_told 96 = .ok (.ireturn, 1) := by decide +kernel
theorem dX9_told_97 : decode cX9_told 97 = .ok (.aload_n 0, 1) := by decide +kernel
theorem dX9_told_98 : decode cX9_told 98 = .ok (.getfield 29, 3) := by decide +kernel
theorem dX9_told_101 : decode cX9_told 101 = .ok (.iload_n 1, 1) := by decide +kernel
theorem dX9_told_102 : decode cX9_told 102 = .ok (.iaload, 1) := by decide +kernel
theorem dX9_told_103 : decode cX9_told 103 = .ok (.ireturn, 1) := by decide +kernel
theorem dX9_told_104 : decode cX9_told 104 = .ok (.aload_n 0, 1) := by decide +kernel
theorem dX9_told_105 : decode cX9_told 105 = .ok (.getfield 32, 3) := by decide +kernel
theorem dX9_told_108 : decode cX9_told 108 = .ok (.iload_n 1, 1) := by decide +kernel
theorem dX9_told_109 : decode cX9_told 109 = .ok (.iaload, 1) := by decide +kernel
theorem dX9_told_110 : decode cX9_told 110 = .ok (.ireturn, 1) := by decide +kernel
theorem dX9_told_111 : decode cX9_told 111 = .ok (.aload_n 0, 1) := by decide +kernel
theorem dX9_told_112 : decode cX9_told 112 = .ok (.getfield 35, 3) := by decide +kernel
theorem dX9_told_115 : decode cX9_told 115 = .ok (.iload_n 1, 1) := by decide +kernel
theorem dX9_told_116 : decode cX9_told 116 = .ok (.iaload, 1) := by decide +kernel
theorem dX9_told_117 : decode cX9_told 117 = .ok (.ireturn, 1) := by decide +kernel
theorem dX9_told_118 : decode cX9_told 118 = .ok (.aload_n 0, 1) := by decide +kernel
theorem dX9_told_119 : decode cX9_told 119 = .ok (.getfield 38, 3) := by decide +kernel
theorem dX9_told_122 : decode cX9_told 122 = .ok (.iload_n 1, 1) := by decide +kernel
theorem dX9_told_123 : decode cX9_told 123 = .ok (.iaload, 1) := by decide +kernel
theorem dX9_told_124 : decode cX9_told 124 = .ok (.ireturn, 1) := by decide +kernel
theorem dX9_told_125 : decode cX9_told 125 = .ok (.aload_n 0, 1) := by decide +kernel
theorem dX9_told_126 : decode cX9_told 126 = .ok (.getfield 47, 3) := by decide +kernel
theorem dX9_told_129 : decode cX9_told 129 = .ok (.iload_n 1, 1) := by decide +kernel
theorem dX9_told_130 : decode cX9_told 130 = .ok (.baload, 1) := by decide +kernel
theorem dX9_told_131 : decode cX9_told 131 = .ok (.invokestatic 107, 3) := by decide +kernel
theorem dX9_told_134 : decode cX9_told 134 = .ok (.ireturn, 1) := by decide +kernel
theorem dX9_told_135 : decode cX9_told 135 = .ok (.aload_n 0, 1) := by decide +kernel
theorem dX9_told_136 : decode cX9_told 136 = .ok (.getfield 51, 3) := by decide +kernel
theorem dX9_told_139 : decode cX9_told 139 = .ok (.iload_n 1, 1) := by decide +kernel
theorem dX9_told_140 : decode cX9_told 140 = .ok (.baload, 1) := by decide +kernel
theorem dX9_told_141 : decode cX9_told 141 = .ok (.invokestatic 107, 3) := by decide +kernel
theorem dX9_told_144 : decode cX9_told 144 = .ok (.ireturn, 1) := by decide +kernel
theorem dX9_told_145 : decode cX9_told 145 = .ok (.aload_n 0, 1) := by decide +kernel
theorem dX9_told_146 : decode cX9_told 146 = .ok (.iload_n 1, 1) := by decide +kernel
theorem dX9_told_147 : decode cX9_told 147 = .ok (.invokevirtual 152, 3) := by decide +kernel
theorem dX9_told_150 : decode cX9_told 150 = .ok (.ireturn, 1) := by decide +kernel
theorem dX9_told_151 : decode cX9_told 151 = .ok (.aload_n 0, 1) := by decide +kernel
theorem dX9_told_152 : decode cX9_told 152 = .ok (.iload_n 1, 1) := by decide +kernel
theorem dX9_told_153 : decode cX9_told 153 = .ok (.invokevirtual 144, 3) := by decide +kernel
theorem dX9_told_156 : decode cX9_told 156 = .ok (.ireturn, 1) := by decide +kernel
theorem dX9_told_157 : decode cX9_told 157 = .ok (.aload_n 0, 1) := by decide +kernel
theorem dX9_told_158 : decode cX9_told 158 = .ok (.getfield 41, 3) := by decide +kernel
theorem dX9_told_161 : decode cX9_told 161 = .ok (.iload_n 1, 1) := by decide +kernel
theorem dX9_told_162 : decode cX9_told 162 = .ok (.iaload, 1) := by decide +kernel
theorem dX9_told_163 : decode cX9_told 163 = .ok (.aload_n 0, 1) := by decide +kernel
theorem dX9_told_164 : decode cX9_told 164 = .ok (.getfield 44, 3) := by decide +kernel
theorem dX9_told_167 : decode cX9_told 167 = .ok (.iload_n 1, 1) := by decide +kernel
theorem dX9_told_168 : decode cX9_told 168 = .ok (.iaload, 1) := by decide +kernel
theorem dX9_told_169 : decode cX9_told 169 = .ok (.ior, 1) := by decide +kernel
theorem dX9_told_170 : decode cX9_told 170 = .ok (.invokestatic 120, 3) := by decide +kernel
theorem dX9_told_173 : decode cX9_told 173 = .ok (.ireturn, 1) := by decide +kernel
theorem dX9_told_174 : decode cX9_told 174 = .ok (.aload_n 0, 1) := by decide +kernel
theorem dX9_told_175 : decode cX9_told 175 = .ok (.invokevirtual 174, 3) := by decide +kernel
theorem dX9_told_178 : decode cX9_told 178 = .ok (.aload_n 0, 1) := by decide +kernel
theorem dX9_told_179 : decode cX9_told 179 = .ok (.getfield 72, 3) := by decide +kernel
theorem dX9_told_182 : decode cX9_told 182 = .ok (.iload_n 1, 1) := by decide +kernel
theorem dX9_told_183 : decode cX9_told 183 = .ok (.iaload, 1) := by decide +kernel
theorem dX9_told_184 : decode cX9_told 184 = .ok (.ireturn, 1) := by decide +kernel
theorem dX9_told_185 : decode cX9_told 185 = .ok (.iconst (-1), 1) := by decide +kernel
theorem dX9_told_186 : decode cX9_told 186 = .ok (.ireturn, 1) := by decide +kernel
theorem dX9_order_0 : decode cX9_order 0 = .ok (.aload_n 0, 1) := by decide +kernel
theorem dX9_order_1 : decode cX9_order 1 = .ok (.invokevirtual 174, 3) := by decide +kernel
theorem dX9_order_4 : decode cX9_order 4 = .ok (.iload_n 1, 1) := by decide +kernel
theorem dX9_order_5 : decode cX9_order 5 = .ok (.iconst 0, 1) := by decide +kernel
theorem dX9_order_6 : decode cX9_order 6 = .ok (.aload_n 0, 1) := by decide +kernel
theorem dX9_order_7 : decode cX9_order 7 = .ok (.getfield 165, 3) := by decide +kernel
theorem dX9_order_10 : decode cX9_order 10 = .ok (.iconst 1, 1) := by decide +kernel
theorem dX9_order_11 : decode cX9_order 11 = .ok (.isub, 1) := by decide +kernel
theorem dX9_order_12 : decode cX9_order 12 = .ok (.invokestatic 96, 3) := by decide +kernel
theorem dX9_order_15 : decode cX9_order 15 = .ok (.ifCond .eq 12, 3) := by decide +kernel
theorem dX9_order_18 : decode cX9_order 18 = .ok (.aload_n 0, 1) := by decide +kernel
theorem dX9_order_19 : decode cX9_order 19 = .ok (.getfield 78, 3) := by decide +kernel
theorem dX9_order_22 : decode cX9_order 22 = .ok (.iload_n 1, 1) := by decide +kernel
theorem dX9_order_23 : decode cX9_order 23 = .ok (.iaload, 1) := by decide +kernel
theorem dX9_order_24 : decode cX9_order 24 = .ok (.goto 4, 3) := by decide +kernel
theorem dX9_order_27 : decode cX9_order 27 = .ok (.iconst (-1), 1) := by decide +kernel
theorem dX9_order_28 : decode cX9_order 28 = .ok (.ireturn, 1) := by decide +kernel
theorem dX9_caseOf_0 : decode cX9_caseOf 0 = .ok (.aload_n 0, 1) := by decide +kernel
theorem dX9_caseOf_1 : decode cX9_caseOf 1 = .ok (.iload_n 1, 1) := by decide +kernel
theorem dX9_caseOf_2 : decode cX9_caseOf 2 = .ok (.invokevirtual 117, 3) := by decide +kernel
theorem dX9_caseOf_5 : decode cX9_caseOf 5 = .ok (.ifCond .ne 5, 3) := by decide +kernel
theorem dX9_caseOf_8 : decode cX9_caseOf 8 = .ok (.iconst (-1), 1) := by decide +kernel
theorem dX9_caseOf_9 : decode cX9_caseOf 9 = .ok (.ireturn, 1) := by decide +kernel
theorem dX9_caseOf_10 : decode cX9_caseOf 10 = .ok (.aload_n 0, 1) := by decide +kernel
theorem dX9_caseOf_11 : decode cX9_caseOf 11 = .ok (.invokevirtual 174, 3) := by decide +kernel
theorem dX9_caseOf_14 : decode cX9_caseOf 14 = .ok (.aload_n 0, 1) := by decide +kernel
theorem dX9_caseOf_15 : decode cX9_caseOf 15 = .ok (.getfield 72, 3) := by decide +kernel
theorem dX9_caseOf_18 : decode cX9_caseOf 18 = .ok (.iload_n 1, 1) := by decide +kernel
theorem dX9_caseOf_19 : decode cX9_caseOf 19 = .ok (.iaload, 1) := by decide +kernel
theorem dX9_caseOf_20 : decode cX9_caseOf 20 = .ok (.iload_n 1, 1) := by decide +kernel
theorem dX9_caseOf_21 : decode cX9_caseOf 21 = .ok (.if_icmp .eq 5, 3) := by decide +kernel
theorem dX9_caseOf_24 : decode cX9_caseOf 24 = .ok (.iconst (-1), 1) := by decide +kernel
theorem dX9_caseOf_25 : decode cX9_caseOf 25 = .ok (.ireturn, 1) := by decide +kernel
theorem dX9_caseOf_26 : decode cX9_caseOf 26 = .ok (.iload_n 2, 1) := by decide +kernel
theorem dX9_caseOf_27 : decode cX9_caseOf 27 = .ok (.ifCond .ne 9, 3) := by decide +kernel
theorem dX9_caseOf_30 : decode cX9_caseOf 30 = .ok (.aload_n 0, 1) := by decide +kernel
theorem dX9_caseOf_31 : decode cX9_caseOf 31 = .ok (.iload_n 1, 1) := by decide +kernel
theorem dX9_caseOf_32 : decode cX9_caseOf 32 = .ok (.invokevirtual 171, 3) := by decide +kernel
theorem dX9_caseOf_35 : decode cX9_caseOf 35 = .ok (.ireturn, 1) := by decide +kernel
theorem dX9_caseOf_36 : decode cX9_caseOf 36 = .ok (.iload_n 2, 1) := by decide +kernel
theorem dX9_caseOf_37 : decode cX9_caseOf 37 = .ok (.iconst 1, 1) := by decide +kernel
theorem dX9_caseOf_38 : decode cX9_caseOf 38 = .ok (.if_icmp .ne 9, 3) := by decide +kernel
theorem dX9_caseOf_41 : decode cX9_caseOf 41 = .ok (.aload_n 0, 1) := by decide +kernel
theorem dX9_caseOf_42 : decode cX9_caseOf 42 = .ok (.iload_n 1, 1) := by decide +kernel
theorem dX9_caseOf_43 : decode cX9_caseOf 43 = .ok (.invokevirtual 168, 3) := by decide +kernel
theorem dX9_caseOf_46 : decode cX9_caseOf 46 = .ok (.ireturn, 1) := by decide +kernel
theorem dX9_caseOf_47 : decode cX9_caseOf 47 = .ok (.iload_n 2, 1) := by decide +kernel
theorem dX9_caseOf_48 : decode cX9_caseOf 48 = .ok (.iconst 2, 1) := by decide +kernel
theorem dX9_caseOf_49 : decode cX9_caseOf 49 = .ok (.if_icmp .ne 9, 3) := by decide +kernel
theorem dX9_caseOf_52 : decode cX9_caseOf 52 = .ok (.aload_n 0, 1) := by decide +kernel
theorem dX9_caseOf_53 : decode cX9_caseOf 53 = .ok (.iload_n 1, 1) := by decide +kernel
theorem dX9_caseOf_54 : decode cX9_caseOf 54 = .ok (.invokevirtual 177, 3) := by decide +kernel
theorem dX9_caseOf_57 : decode cX9_caseOf 57 = .ok (.ireturn, 1) := by decide +kernel
theorem dX9_caseOf_58 : decode cX9_caseOf 58 = .ok (.iload_n 2, 1) := by decide +kernel
theorem dX9_caseOf_59 : decode cX9_caseOf 59 = .ok (.iconst 3, 1) := by decide +kernel
theorem dX9_caseOf_60 : decode cX9_caseOf 60 = .ok (.if_icmp .ne 12, 3) := by decide +kernel
theorem dX9_caseOf_63 : decode cX9_caseOf 63 = .ok (.aload_n 0, 1) := by decide +kernel
theorem dX9_caseOf_64 : decode cX9_caseOf 64 = .ok (.iload_n 1, 1) := by decide +kernel
theorem dX9_caseOf_65 : decode cX9_caseOf 65 = .ok (.invokevirtual 180, 3) := by decide +kernel
theorem dX9_caseOf_68 : decode cX9_caseOf 68 = .ok (.invokestatic 107, 3) := by decide +kernel
theorem dX9_caseOf_71 : decode cX9_caseOf 71 = .ok (.ireturn, 1) := by decide +kernel
theorem dX9_caseOf_72 : decode cX9_caseOf 72 = .ok (.bipush 10, 2) := by decide +kernel
theorem dX9_caseOf_74 : decode cX9_caseOf 74 = .ok (.istore_n 3, 1) := by decide +kernel
theorem dX9_caseOf_75 : decode cX9_caseOf 75 = .ok (.iload_n 1, 1) := by decide +kernel
theorem dX9_caseOf_76 : decode cX9_caseOf 76 = .ok (.istore 4, 2) := by decide +kernel
theorem dX9_caseOf_78 : decode cX9_caseOf 78 = .ok (.iload 4, 2) := by decide +kernel
theorem dX9_caseOf_80 : decode cX9_caseOf 80 = .ok (.aload_n 0, 1) := by decide +kernel
theorem dX9_caseOf_81 : decode cX9_caseOf 81 = .ok (.getfield 93, 3) := by decide +kernel
theorem dX9_caseOf_84 : decode cX9_caseOf 84 = .ok (.if_icmp .ge 34, 3) := by decide +kernel
theorem dX9_caseOf_87 : decode cX9_caseOf 87 = .ok (.aload_n 0, 1) := by decide +kernel
theorem dX9_caseOf_88 : decode cX9_caseOf 88 = .ok (.getfield 72, 3) := by decide +kernel
theorem dX9_caseOf_91 : decode cX9_caseOf 91 = .ok (.iload 4, 2) := by decide +kernel
theorem dX9_caseOf_93 : decode cX9_caseOf 93 = .ok (.iaload, 1) := by decide +kernel
theorem dX9_caseOf_94 : decode cX9_caseOf 94 = .ok (.iload_n 1, 1) := by decide +kernel
theorem dX9_caseOf_95 : decode cX9_caseOf 95 = .ok (.if_icmp .eq 6, 3) := by decide +kernel
theorem dX9_caseOf_98 : decode cX9_caseOf 98 = .ok (.goto 14, 3) := by decide +kernel
theorem dX9_caseOf_101 : decode cX9_caseOf 101 = .ok (.iload_n 3, 1) := by decide +kernel
theorem dX9_caseOf_102 : decode cX9_caseOf 102 = .ok (.iload_n 2, 1) := by decide +kernel
theorem dX9_caseOf_103 : decode cX9_caseOf 103 = .ok (.if_icmp .ne 6, 3) := by decide +kernel
theorem dX9_caseOf_106 : decode cX9_caseOf 106 = .ok (.iload 4, 2) := by decide +kernel
theorem dX9_caseOf_108 : decode cX9_caseOf 108 = .ok (.ireturn, 1) := by decide +kernel
theorem dX9_caseOf_109 : decode cX9_caseOf 109 = .ok (.iinc 3 1, 3) := by decide +kernel
theorem dX9_caseOf_112 : decode cX9_caseOf 112 = .ok (.iinc 4 1, 3) := by decide +kernel
theorem dX9_caseOf_115 : decode cX9_caseOf 115 = .ok (.goto (-37), 3) := by decide +kernel
theorem dX9_caseOf_118 : decode cX9_caseOf 118 = .ok (.iconst (-1), 1) := by decide +kernel
theorem dX9_caseOf_119 : decode cX9_caseOf 119 = .ok (.ireturn, 1) := by decide +kernel
theorem dX9_slow_0 : decode cX9_slow 0 = .ok (.iload_n 1, 1) := by decide +kernel
theorem dX9_slow_1 : decode cX9_slow 1 = .ok (.iconst 0, 1) := by decide +kernel
theorem dX9_slow_2 : decode cX9_slow 2 = .ok (.bipush 39, 2) := by decide +kernel
theorem dX9_slow_4 : decode cX9_slow 4 = .ok (.invokestatic 96, 3) := by decide +kernel
theorem dX9_slow_7 : decode cX9_slow 7 = .ok (.ifCond .ne 5, 3) := by decide +kernel
theorem dX9_slow_10 : decode cX9_slow 10 = .ok (.iconst (-1), 1) := by decide +kernel
theorem dX9_slow_11 : decode cX9_slow 11 = .ok (.ireturn, 1) := by decide +kernel
theorem dX9_slow_12 : decode cX9_slow 12 = .ok (.iconst 0, 1) := by decide +kernel
theorem dX9_slow_13 : decode cX9_slow 13 = .ok (.istore_n 2, 1) := by decide +kernel
theorem dX9_slow_14 : decode cX9_slow 14 = .ok (.iconst 0, 1) := by decide +kernel
theorem dX9_slow_15 : decode cX9_slow 15 = .ok (.istore_n 3, 1) := by decide +kernel
theorem dX9_slow_16 : decode cX9_slow 16 = .ok (.iload_n 3, 1) := by decide +kernel
theorem dX9_slow_17 : decode cX9_slow 17 = .ok (.aload_n 0, 1) := by decide +kernel
theorem dX9_slow_18 : decode cX9_slow 18 = .ok (.getfield 93, 3) := by decide +kernel
theorem dX9_slow_21 : decode cX9_slow 21 = .ok (.if_icmp .ge 69, 3) := by decide +kernel
theorem dX9_slow_24 : decode cX9_slow 24 = .ok (.aload_n 0, 1) := by decide +kernel
theorem dX9_slow_25 : decode cX9_slow 25 = .ok (.iload_n 3, 1) := by decide +kernel
theorem dX9_slow_26 : decode cX9_slow 26 = .ok (.invokevirtual 103, 3) := by decide +kernel
theorem dX9_slow_29 : decode cX9_slow 29 = .ok (.ifCond .eq 55, 3) := by decide +kernel
theorem dX9_slow_32 : decode cX9_slow 32 = .ok (.aload_n 0, 1) := by decide +kernel
theorem dX9_slow_33 : decode cX9_slow 33 = .ok (.getfield 26, 3) := by decide +kernel
theorem dX9_slow_36 : decode cX9_slow 36 = .ok (.iload_n 3, 1) := by decide +kernel
theorem dX9_slow_37 : decode cX9_slow 37 = .ok (.iaload, 1) := by decide +kernel
theorem dX9_slow_38 : decode cX9_slow 38 = .ok (.iload_n 1, 1) := by decide +kernel
theorem dX9_slow_39 : decode cX9_slow 39 = .ok (.if_icmp .ne 45, 3) := by decide +kernel
theorem dX9_slow_42 : decode cX9_slow 42 = .ok (.aload_n 0, 1) := by decide +kernel
theorem dX9_slow_43 : decode cX9_slow 43 = .ok (.getfield 100, 3) := by decide +kernel
theorem dX9_slow_46 : decode cX9_slow 46 = .ok (.aload_n 0, 1) := by decide +kernel
theorem dX9_slow_47 : decode cX9_slow 47 = .ok (.getfield 16, 3) := by decide +kernel
theorem dX9_slow_50 : decode cX9_slow 50 = .ok (.iload_n 3, 1) := by decide +kernel
theorem dX9_slow_51 : decode cX9_slow 51 = .ok (.iaload, 1) := by decide +kernel
theorem dX9_slow_52 : decode cX9_slow 52 = .ok (.isub, 1) := by decide +kernel
theorem dX9_slow_53 : decode cX9_slow 53 = .ok (.sipush 200, 3) := by decide +kernel
theorem dX9_slow_56 : decode cX9_slow 56 = .ok (.if_icmp .lt 6, 3) := by decide +kernel
theorem dX9_slow_59 : decode cX9_slow 59 = .ok (.goto 25, 3) := by decide +kernel
theorem dX9_slow_62 : decode cX9_slow 62 = .ok (.aload_n 0, 1) := by decide +kernel
theorem dX9_slow_63 : decode cX9_slow 63 = .ok (.iload_n 3, 1) := by decide +kernel
theorem dX9_slow_64 : decode cX9_slow 64 = .ok (.invokevirtual 152, 3) := by decide +kernel
theorem dX9_slow_67 : decode cX9_slow 67 = .ok (.istore 4, 2) := by decide +kernel
theorem dX9_slow_69 : decode cX9_slow 69 = .ok (.iload 4, 2) := by decide +kernel
theorem dX9_slow_71 : decode cX9_slow 71 = .ok (.sipush 10000, 3) := by decide +kernel
theorem dX9_slow_74 : decode cX9_slow 74 = .ok (.if_icmp .lt 5, 3) := by decide +kernel
theorem dX9_slow_77 : decode cX9_slow 77 = .ok (.iconst (-1), 1) := by decide +kernel
theorem dX9_slow_78 : decode cX9_slow 78 = .ok (.ireturn, 1) := by decide +kernel
theorem dX9_slow_79 : decode cX9_slow 79 = .ok (.iload_n 2, 1) := by decide +kernel
theorem dX9_slow_80 : decode cX9_slow 80 = .ok (.iload 4, 2) := by decide +kernel
theorem dX9_slow_82 : decode cX9_slow 82 = .ok (.iadd, 1) := by decide +kernel
theorem dX9_slow_83 : decode cX9_slow 83 = .ok (.istore_n 2, 1) := by decide +kernel
theorem dX9_slow_84 : decode cX9_slow 84 = .ok (.iinc 3 1, 3) := by decide +kernel
theorem dX9_slow_87 : decode cX9_slow 87 = .ok (.goto (-71), 3) := by decide +kernel
