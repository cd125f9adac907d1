set_option maxRecDepth 20000 in
theorem ggX9_alarm_X9_isIn : GoodIn wsX9_alarm wsX9_isIn := goodIn_r _ [20] (by decide +kernel) (by decide +kernel)
set_option maxRecDepth 20000 in
theorem gX9_alarm_X9_isIn : GoodIn wsX9_alarm (va_wsS RX9 96 yX9_isIn wsX9_isIn) := goodIn_app (goodIn_of _ (by decide +kernel)) ggX9_alarm_X9_isIn
theorem dX9_alarm_0 : decode cX9_alarm 0 = .ok (.iload_n 1, 1) := by decide +kernel
theorem dX9_alarm_1 : decode cX9_alarm 1 = .ok (.iconst 0, 1) := by decide +kernel
theorem dX9_alarm_2 : decode cX9_alarm 2 = .ok (.bipush 9, 2) := by decide +kernel
theorem dX9_alarm_4 : decode cX9_alarm 4 = .ok (.invokestatic 96, 3) := by decide +kernel
theorem dX9_alarm_7 : decode cX9_alarm 7 = .ok (.ifCond .eq 35, 3) := by decide +kernel
theorem dX9_alarm_10 : decode cX9_alarm 10 = .ok (.iload_n 2, 1) := by decide +kernel
theorem dX9_alarm_11 : decode cX9_alarm 11 = .ok (.iconst 0, 1) := by decide +kernel
theorem dX9_alarm_12 : decode cX9_alarm 12 = .ok (.bipush 39, 2) := by decide +kernel
theorem dX9_alarm_14 : decode cX9_alarm 14 = .ok (.invokestatic 96, 3) := by decide +kernel
theorem dX9_alarm_17 : decode cX9_alarm 17 = .ok (.ifCond .eq 25, 3) := by decide +kernel
theorem dX9_alarm_20 : decode cX9_alarm 20 = .ok (.iload_n 3, 1) := by decide +kernel
theorem dX9_alarm_21 : decode cX9_alarm 21 = .ok (.iconst 0, 1) := by decide +kernel
theorem dX9_alarm_22 : decode cX9_alarm 22 = .ok (.sipush 4095, 3) := by decide +kernel
theorem dX9_alarm_25 : decode cX9_alarm 25 = .ok (.invokestatic 96, 3) := by decide +kernel
theorem dX9_alarm_28 : decode cX9_alarm 28 = .ok (.ifCond .eq 14, 3) := by decide +kernel
theorem dX9_alarm_31 : decode cX9_alarm 31 = .ok (.iload 4, 2) := by decide +kernel
theorem dX9_alarm_33 : decode cX9_alarm 33 = .ok (.iconst 1, 1) := by decide +kernel
theorem dX9_alarm_34 : decode cX9_alarm 34 = .ok (.bipush 100, 2) := by decide +kernel
theorem dX9_alarm_36 : decode cX9_alarm 36 = .ok (.invokestatic 96, 3) := by decide +kernel
theorem dX9_alarm_39 : decode cX9_alarm 39 = .ok (.ifCond .ne 6, 3) := by decide +kernel
theorem dX9_alarm_42 : decode cX9_alarm 42 = .ok (.bipush (-2), 2) := by decide +kernel
theorem dX9_alarm_44 : decode cX9_alarm 44 = .ok (.ireturn, 1) := by decide +kernel
theorem dX9_alarm_45 : decode cX9_alarm 45 = .ok (.aload_n 0, 1) := by decide +kernel
theorem dX9_alarm_46 : decode cX9_alarm 46 = .ok (.getfield 93, 3) := by decide +kernel
theorem dX9_alarm_49 : decode cX9_alarm 49 = .ok (.iconst 1, 1) := by decide +kernel
theorem dX9_alarm_50 : decode cX9_alarm 50 = .ok (.isub, 1) := by decide +kernel
theorem dX9_alarm_51 : decode cX9_alarm 51 = .ok (.istore 5, 2) := by decide +kernel
theorem dX9_alarm_53 : decode cX9_alarm 53 = .ok (.iload 5, 2) := by decide +kernel
theorem dX9_alarm_55 : decode cX9_alarm 55 = .ok (.ifCond .lt 96, 3) := by decide +kernel
theorem dX9_alarm_151 : decode cX9_alarm 151 = .ok (.aload_n 0, 1) := by decide +kernel
theorem dX9_alarm_152 : decode cX9_alarm 152 = .ok (.getfield 93, 3) := by decide +kernel
theorem dX9_alarm_155 : decode cX9_alarm 155 = .ok (.sipush 200, 3) := by decide +kernel
theorem dX9_alarm_158 : decode cX9_alarm 158 = .ok (.if_icmp .ne 6, 3) := by decide +kernel
theorem dX9_alarm_164 : decode cX9_alarm 164 = .ok (.aload_n 0, 1) := by decide +kernel
theorem dX9_alarm_165 : decode cX9_alarm 165 = .ok (.getfield 93, 3) := by decide +kernel
theorem dX9_alarm_168 : decode cX9_alarm 168 = .ok (.istore 5, 2) := by decide +kernel
theorem dX9_alarm_170 : decode cX9_alarm 170 = .ok (.iconst 0, 1) := by decide +kernel
theorem dX9_alarm_171 : decode cX9_alarm 171 = .ok (.istore 6, 2) := by decide +kernel
theorem dX9_alarm_173 : decode cX9_alarm 173 = .ok (.iconst 0, 1) := by decide +kernel
theorem dX9_alarm_174 : decode cX9_alarm 174 = .ok (.istore 7, 2) := by decide +kernel
theorem dX9_alarm_176 : decode cX9_alarm 176 = .ok (.iload 7, 2) := by decide +kernel
theorem dX9_alarm_178 : decode cX9_alarm 178 = .ok (.iload 5, 2) := by decide +kernel
theorem dX9_alarm_180 : decode cX9_alarm 180 = .ok (.if_icmp .ge 70, 3) := by decide +kernel
theorem dX9_alarm_250 : decode cX9_alarm 250 = .ok (.iconst 0, 1) := by decide +kernel
theorem dX9_alarm_251 : decode cX9_alarm 251 = .ok (.istore 7, 2) := by decide +kernel
theorem dX9_alarm_253 : decode cX9_alarm 253 = .ok (.iload 7, 2) := by decide +kernel
theorem dX9_alarm_255 : decode cX9_alarm 255 = .ok (.aload_n 0, 1) := by decide +kernel
theorem dX9_alarm_256 : decode cX9_alarm 256 = .ok (.getfield 111, 3) := by decide +kernel
theorem dX9_alarm_259 : decode cX9_alarm 259 = .ok (.if_icmp .ge 66, 3) := by decide +kernel
theorem dX9_alarm_325 : decode cX9_alarm 325 = .ok (.aload_n 0, 1) := by decide +kernel
theorem dX9_alarm_326 : decode cX9_alarm 326 = .ok (.getfield 51, 3) := by decide +kernel
theorem dX9_alarm_329 : decode cX9_alarm 329 = .ok (.iload 5, 2) := by decide +kernel
theorem dX9_alarm_331 : decode cX9_alarm 331 = .ok (.aload_n 0, 1) := by decide +kernel
theorem dX9_alarm_332 : decode cX9_alarm 332 = .ok (.getfield 47, 3) := by decide +kernel
theorem dX9_alarm_335 : decode cX9_alarm 335 = .ok (.iload 5, 2) := by decide +kernel
theorem dX9_alarm_337 : decode cX9_alarm 337 = .ok (.baload, 1) := by decide +kernel
theorem dX9_alarm_338 : decode cX9_alarm 338 = .ok (.ifCond .ne 16, 3) := by decide +kernel
theorem dX9_alarm_341 : decode cX9_alarm 341 = .ok (.iload 6, 2) := by decide +kernel
theorem dX9_alarm_343 : decode cX9_alarm 343 = .ok (.aload_n 0, 1) := by decide +kernel
theorem dX9_alarm_344 : decode cX9_alarm 344 = .ok (.getfield 7, 3) := by decide +kernel
theorem dX9_alarm_347 : decode cX9_alarm 347 = .ok (.if_icmp .lt 7, 3) := by decide +kernel
theorem dX9_alarm_354 : decode cX9_alarm 354 = .ok (.iconst 0, 1) := by decide +kernel
theorem dX9_alarm_355 : decode cX9_alarm 355 = .ok (.bastore, 1) := by decide +kernel
theorem dX9_alarm_356 : decode cX9_alarm 356 = .ok (.aload_n 0, 1) := by decide +kernel
theorem dX9_alarm_357 : decode cX9_alarm 357 = .ok (.dup, 1) := by decide +kernel
theorem dX9_alarm_358 : decode cX9_alarm 358 = .ok (.getfield 93, 3) := by decide +kernel
theorem dX9_alarm_361 : decode cX9_alarm 361 = .ok (.iconst 1, 1) := by decide +kernel
theorem dX9_alarm_362 : decode cX9_alarm 362 = .ok (.iadd, 1) := by decide +kernel
theorem dX9_alarm_363 : decode cX9_alarm 363 = .ok (.putfield 93, 3) := by decide +kernel
theorem dX9_alarm_366 : decode cX9_alarm 366 = .ok (.aload_n 0, 1) := by decide +kernel
theorem dX9_alarm_367 : decode cX9_alarm 367 = .ok (.getfield 16, 3) := by decide +kernel
theorem dX9_alarm_370 : decode cX9_alarm 370 = .ok (.iload 5, 2) := by decide +kernel
theorem dX9_alarm_372 : decode cX9_alarm 372 = .ok (.aload_n 0, 1) := by decide +kernel
theorem dX9_alarm_373 : decode cX9_alarm 373 = .ok (.getfield 100, 3) := by decide +kernel
theorem dX9_alarm_376 : decode cX9_alarm 376 = .ok (.iastore, 1) := by decide +kernel
theorem dX9_alarm_377 : decode cX9_alarm 377 = .ok (.aload_n 0, 1) := by decide +kernel
theorem dX9_alarm_378 : decode cX9_alarm 378 = .ok (.getfield 20, 3) := by decide +kernel
theorem dX9_alarm_381 : decode cX9_alarm 381 = .ok (.iload 5, 2) := by decide +kernel
theorem dX9_alarm_383 : decode cX9_alarm 383 = .ok (.aload_n 0, 1) := by decide +kernel
theorem dX9_alarm_384 : decode cX9_alarm 384 = .ok (.getfield 100, 3) := by decide +kernel
theorem dX9_alarm_387 : decode cX9_alarm 387 = .ok (.iastore, 1) := by decide +kernel
theorem dX9_alarm_388 : decode cX9_alarm 388 = .ok (.aload_n 0, 1) := by decide +kernel
theorem dX9_alarm_389 : decode cX9_alarm 389 = .ok (.getfield 23, 3) := by decide +kernel
theorem dX9_alarm_392 : decode cX9_alarm 392 = .ok (.iload 5, 2) := by decide +kernel
theorem dX9_alarm_394 : decode cX9_alarm 394 = .ok (.iload_n 1, 1) := by decide +kernel
theorem dX9_alarm_395 : decode cX9_alarm 395 = .ok (.iastore, 1) := by decide +kernel
theorem dX9_alarm_396 : decode cX9_alarm 396 = .ok (.aload_n 0, 1) := by decide +kernel
theorem dX9_alarm_397 : decode cX9_alarm 397 = .ok (.getfield 26, 3) := by decide +kernel
theorem dX9_alarm_400 : decode cX9_alarm 400 = .ok (.iload 5, 2) := by decide +kernel
theorem dX9_alarm_402 : decode cX9_alarm 402 = .ok (.iload_n 2, 1) := by decide +kernel
theorem dX9_alarm_403 : decode cX9_alarm 403 = .ok (.iastore, 1) := by decide +kernel
theorem dX9_alarm_404 : decode cX9_alarm 404 = .ok (.aload_n 0, 1) := by decide +kernel
theorem dX9_alarm_405 : decode cX9_alarm 405 = .ok (.getfield 29, 3) := by decide +kernel
theorem dX9_alarm_408 : decode cX9_alarm 408 = .ok (.iload 5, 2) := by decide +kernel
theorem dX9_alarm_410 : decode cX9_alarm 410 = .ok (.iload_n 3, 1) := by decide +kernel
theorem dX9_alarm_411 : decode cX9_alarm 411 = .ok (.iastore, 1) := by decide +kernel
theorem dX9_alarm_412 : decode cX9_alarm 412 = .ok (.aload_n 0, 1) := by decide +kernel
theorem dX9_alarm_413 : decode cX9_alarm 413 = .ok (.getfield 32, 3) := by decide +kernel
theorem dX9_alarm_416 : decode cX9_alarm 416 = .ok (.iload 5, 2) := by decide +kernel
theorem dX9_alarm_418 : decode cX9_alarm 418 = .ok (.iload 4, 2) := by decide +kernel
theorem dX9_alarm_420 : decode cX9_alarm 420 = .ok (.iastore, 1) := by decide +kernel
theorem dX9_alarm_421 : decode cX9_alarm 421 = .ok (.iload 5, 2) := by decide +kernel
theorem dX9_alarm_423 : decode cX9_alarm 423 = .ok (.ireturn, 1) := by decide +kernel
