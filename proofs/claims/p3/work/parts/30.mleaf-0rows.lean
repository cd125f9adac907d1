theorem dX9_isIn_0 : decode cX9_isIn 0 = .ok (.iload_n 0, 1) := by decide +kernel
theorem dX9_isIn_1 : decode cX9_isIn 1 = .ok (.iload_n 1, 1) := by decide +kernel
theorem dX9_isIn_2 : decode cX9_isIn 2 = .ok (.if_icmp .lt 12, 3) := by decide +kernel
theorem dX9_isIn_5 : decode cX9_isIn 5 = .ok (.iload_n 0, 1) := by decide +kernel
theorem dX9_isIn_6 : decode cX9_isIn 6 = .ok (.iload_n 2, 1) := by decide +kernel
theorem dX9_isIn_7 : decode cX9_isIn 7 = .ok (.if_icmp .gt 7, 3) := by decide +kernel
theorem dX9_isIn_10 : decode cX9_isIn 10 = .ok (.iconst 1, 1) := by decide +kernel
theorem dX9_isIn_11 : decode cX9_isIn 11 = .ok (.goto 4, 3) := by decide +kernel
theorem dX9_isIn_14 : decode cX9_isIn 14 = .ok (.iconst 0, 1) := by decide +kernel
theorem dX9_isIn_15 : decode cX9_isIn 15 = .ok (.ireturn, 1) := by decide +kernel
theorem dX9_one_0 : decode cX9_one 0 = .ok (.iload_n 0, 1) := by decide +kernel
theorem dX9_one_1 : decode cX9_one 1 = .ok (.ifCond .eq 7, 3) := by decide +kernel
theorem dX9_one_4 : decode cX9_one 4 = .ok (.iconst 1, 1) := by decide +kernel
theorem dX9_one_5 : decode cX9_one 5 = .ok (.goto 4, 3) := by decide +kernel
theorem dX9_one_8 : decode cX9_one 8 = .ok (.iconst 0, 1) := by decide +kernel
theorem dX9_one_9 : decode cX9_one 9 = .ok (.ireturn, 1) := by decide +kernel
set_option maxRecDepth 20000 in
theorem ggX9_isAlarm_X9_isIn : GoodIn wsX9_isAlarm wsX9_isIn := goodIn_r _ [5] (by decide +kernel) (by decide +kernel)
set_option maxRecDepth 20000 in
theorem gX9_isAlarm_X9_isIn : GoodIn wsX9_isAlarm (va_wsS RX9 96 yX9_isIn wsX9_isIn) := goodIn_app (goodIn_of _ (by decide +kernel)) ggX9_isAlarm_X9_isIn
theorem dX9_isAlarm_0 : decode cX9_isAlarm 0 = .ok (.iload_n 1, 1) := by decide +kernel
theorem dX9_isAlarm_1 : decode cX9_isAlarm 1 = .ok (.iconst 0, 1) := by decide +kernel
theorem dX9_isAlarm_2 : decode cX9_isAlarm 2 = .ok (.aload_n 0, 1) := by decide +kernel
theorem dX9_isAlarm_3 : decode cX9_isAlarm 3 = .ok (.getfield 93, 3) := by decide +kernel
theorem dX9_isAlarm_6 : decode cX9_isAlarm 6 = .ok (.iconst 1, 1) := by decide +kernel
theorem dX9_isAlarm_7 : decode cX9_isAlarm 7 = .ok (.isub, 1) := by decide +kernel
theorem dX9_isAlarm_8 : decode cX9_isAlarm 8 = .ok (.invokestatic 96, 3) := by decide +kernel
theorem dX9_isAlarm_11 : decode cX9_isAlarm 11 = .ok (.ireturn, 1) := by decide +kernel
theorem dX9_isLive_0 : decode cX9_isLive 0 = .ok (.aload_n 0, 1) := by decide +kernel
theorem dX9_isLive_1 : decode cX9_isLive 1 = .ok (.getfield 38, 3) := by decide +kernel
theorem dX9_isLive_4 : decode cX9_isLive 4 = .ok (.iload_n 1, 1) := by decide +kernel
theorem dX9_isLive_5 : decode cX9_isLive 5 = .ok (.iaload, 1) := by decide +kernel
theorem dX9_isLive_6 : decode cX9_isLive 6 = .ok (.ifCond .ne 25, 3) := by decide +kernel
theorem dX9_isLive_9 : decode cX9_isLive 9 = .ok (.aload_n 0, 1) := by decide +kernel
theorem dX9_isLive_10 : decode cX9_isLive 10 = .ok (.getfield 47, 3) := by decide +kernel
theorem dX9_isLive_13 : decode cX9_isLive 13 = .ok (.iload_n 1, 1) := by decide +kernel
theorem dX9_isLive_14 : decode cX9_isLive 14 = .ok (.baload, 1) := by decide +kernel
theorem dX9_isLive_15 : decode cX9_isLive 15 = .ok (.ifCond .ne 16, 3) := by decide +kernel
theorem dX9_isLive_18 : decode cX9_isLive 18 = .ok (.aload_n 0, 1) := by decide +kernel
theorem dX9_isLive_19 : decode cX9_isLive 19 = .ok (.getfield 51, 3) := by decide +kernel
theorem dX9_isLive_22 : decode cX9_isLive 22 = .ok (.iload_n 1, 1) := by decide +kernel
theorem dX9_isLive_23 : decode cX9_isLive 23 = .ok (.baload, 1) := by decide +kernel
theorem dX9_isLive_24 : decode cX9_isLive 24 = .ok (.ifCond .ne 7, 3) := by decide +kernel
theorem dX9_isLive_27 : decode cX9_isLive 27 = .ok (.iconst 1, 1) := by decide +kernel
theorem dX9_isLive_28 : decode cX9_isLive 28 = .ok (.goto 4, 3) := by decide +kernel
theorem dX9_isLive_31 : decode cX9_isLive 31 = .ok (.iconst 0, 1) := by decide +kernel
theorem dX9_isLive_32 : decode cX9_isLive 32 = .ok (.ireturn, 1) := by decide +kernel
theorem dX9_many_0 : decode cX9_many 0 = .ok (.iconst 0, 1) := by decide +kernel
theorem dX9_many_1 : decode cX9_many 1 = .ok (.istore_n 1, 1) := by decide +kernel
theorem dX9_many_2 : decode cX9_many 2 = .ok (.iload_n 0, 1) := by decide +kernel
theorem dX9_many_3 : decode cX9_many 3 = .ok (.istore_n 2, 1) := by decide +kernel
theorem dX9_many_4 : decode cX9_many 4 = .ok (.iload_n 2, 1) := by decide +kernel
theorem dX9_many_5 : decode cX9_many 5 = .ok (.ifCond .le 16, 3) := by decide +kernel
theorem dX9_many_8 : decode cX9_many 8 = .ok (.iload_n 1, 1) := by decide +kernel
theorem dX9_many_9 : decode cX9_many 9 = .ok (.iload_n 2, 1) := by decide +kernel
theorem dX9_many_10 : decode cX9_many 10 = .ok (.iconst 1, 1) := by decide +kernel
theorem dX9_many_11 : decode cX9_many 11 = .ok (.iand, 1) := by decide +kernel
theorem dX9_many_12 : decode cX9_many 12 = .ok (.iadd, 1) := by decide +kernel
theorem dX9_many_13 : decode cX9_many 13 = .ok (.istore_n 1, 1) := by decide +kernel
theorem dX9_many_14 : decode cX9_many 14 = .ok (.iload_n 2, 1) := by decide +kernel
theorem dX9_many_15 : decode cX9_many 15 = .ok (.iconst 1, 1) := by decide +kernel
theorem dX9_many_16 : decode cX9_many 16 = .ok (.ishr, 1) := by decide +kernel
theorem dX9_many_17 : decode cX9_many 17 = .ok (.istore_n 2, 1) := by decide +kernel
theorem dX9_many_18 : decode cX9_many 18 = .ok (.goto (-14), 3) := by decide +kernel
theorem dX9_many_21 : decode cX9_many 21 = .ok (.iload_n 1, 1) := by decide +kernel
theorem dX9_many_22 : decode cX9_many 22 = .ok (.ireturn, 1) := by decide +kernel
theorem dX9_tieOf_0 : decode cX9_tieOf 0 = .ok (.iconst 0, 1) := by decide +kernel
theorem dX9_tieOf_1 : decode cX9_tieOf 1 = .ok (.istore_n 3, 1) := by decide +kernel
theorem dX9_tieOf_2 : decode cX9_tieOf 2 = .ok (.iload_n 3, 1) := by decide +kernel
theorem dX9_tieOf_3 : decode cX9_tieOf 3 = .ok (.aload_n 0, 1) := by decide +kernel
theorem dX9_tieOf_4 : decode cX9_tieOf 4 = .ok (.getfield 124, 3) := by decide +kernel
theorem dX9_tieOf_7 : decode cX9_tieOf 7 = .ok (.if_icmp .ge 51, 3) := by decide +kernel
theorem dX9_tieOf_10 : decode cX9_tieOf 10 = .ok (.aload_n 0, 1) := by decide +kernel
theorem dX9_tieOf_11 : decode cX9_tieOf 11 = .ok (.getfield 63, 3) := by decide +kernel
theorem dX9_tieOf_14 : decode cX9_tieOf 14 = .ok (.iload_n 3, 1) := by decide +kernel
theorem dX9_tieOf_15 : decode cX9_tieOf 15 = .ok (.iaload, 1) := by decide +kernel
theorem dX9_tieOf_16 : decode cX9_tieOf 16 = .ok (.iload_n 1, 1) := by decide +kernel
theorem dX9_tieOf_17 : decode cX9_tieOf 17 = .ok (.if_icmp .ne 13, 3) := by decide +kernel
theorem dX9_tieOf_20 : decode cX9_tieOf 20 = .ok (.aload_n 0, 1) := by decide +kernel
theorem dX9_tieOf_21 : decode cX9_tieOf 21 = .ok (.getfield 66, 3) := by decide +kernel
theorem dX9_tieOf_24 : decode cX9_tieOf 24 = .ok (.iload_n 3, 1) := by decide +kernel
theorem dX9_tieOf_25 : decode cX9_tieOf 25 = .ok (.iaload, 1) := by decide +kernel
theorem dX9_tieOf_26 : decode cX9_tieOf 26 = .ok (.iload_n 2, 1) := by decide +kernel
theorem dX9_tieOf_27 : decode cX9_tieOf 27 = .ok (.if_icmp .eq 23, 3) := by decide +kernel
theorem dX9_tieOf_30 : decode cX9_tieOf 30 = .ok (.aload_n 0, 1) := by decide +kernel
theorem dX9_tieOf_31 : decode cX9_tieOf 31 = .ok (.getfield 63, 3) := by decide +kernel
theorem dX9_tieOf_34 : decode cX9_tieOf 34 = .ok (.iload_n 3, 1) := by decide +kernel
theorem dX9_tieOf_35 : decode cX9_tieOf 35 = .ok (.iaload, 1) := by decide +kernel
theorem dX9_tieOf_36 : decode cX9_tieOf 36 = .ok (.iload_n 2, 1) := by decide +kernel
theorem dX9_tieOf_37 : decode cX9_tieOf 37 = .ok (.if_icmp .ne 15, 3) := by decide +kernel
theorem dX9_tieOf_40 : decode cX9_tieOf 40 = .ok (.aload_n 0, 1) := by decide +kernel
theorem dX9_tieOf_41 : decode cX9_tieOf 41 = .ok (.getfield 66, 3) := by decide +kernel
theorem dX9_tieOf_44 : decode cX9_tieOf 44 = .ok (.iload_n 3, 1) := by decide +kernel
theorem dX9_tieOf_45 : decode cX9_tieOf 45 = .ok (.iaload, 1) := by decide +kernel
theorem dX9_tieOf_46 : decode cX9_tieOf 46 = .ok (.iload_n 1, 1) := by decide +kernel
theorem dX9_tieOf_47 : decode cX9_tieOf 47 = .ok (.if_icmp .ne 5, 3) := by decide +kernel
theorem dX9_tieOf_50 : decode cX9_tieOf 50 = .ok (.iload_n 3, 1) := by decide +kernel
theorem dX9_tieOf_51 : decode cX9_tieOf 51 = .ok (.ireturn, 1) := by decide +kernel
theorem dX9_tieOf_52 : decode cX9_tieOf 52 = .ok (.iinc 3 1, 3) := by decide +kernel
theorem dX9_tieOf_55 : decode cX9_tieOf 55 = .ok (.goto (-53), 3) := by decide +kernel
theorem dX9_tieOf_58 : decode cX9_tieOf 58 = .ok (.iconst (-1), 1) := by decide +kernel
theorem dX9_tieOf_59 : decode cX9_tieOf 59 = .ok (.ireturn, 1) := by decide +kernel
set_option maxRecDepth 20000 in
theorem ggX9_hangs_X9_tieOf : GoodIn wsX9_hangs wsX9_tieOf := goodIn_r _ [12, 13, 14, 15, 16, 17, 18, 19, 20, 21, 22, 23, 24, 25, 26, 27, 28, 29, 30, 31, 32, 33, 34, 35, 36, 37, 38, 39, 40, 41, 42, 43, 44, 45, 46, 47, 48, 49, 50, 51, 52] (by decide +kernel) (by decide +kernel)
set_option maxRecDepth 20000 in
theorem gX9_hangs_X9_tieOf : GoodIn wsX9_hangs (wsV RX9 127 RX9 yX9_tieOf wsX9_tieOf) := goodIn_app (goodIn_of _ (by decide +kernel)) ggX9_hangs_X9_tieOf
theorem dX9_hangs_0 : decode cX9_hangs 0 = .ok (.aload_n 0, 1) := by decide +kernel
theorem dX9_hangs_1 : decode cX9_hangs 1 = .ok (.iload_n 1, 1) := by decide +kernel
theorem dX9_hangs_2 : decode cX9_hangs 2 = .ok (.iload_n 2, 1) := by decide +kernel
theorem dX9_hangs_3 : decode cX9_hangs 3 = .ok (.invokevirtual 127, 3) := by decide +kernel
theorem dX9_hangs_6 : decode cX9_hangs 6 = .ok (.istore_n 3, 1) := by decide +kernel
theorem dX9_hangs_7 : decode cX9_hangs 7 = .ok (.iload_n 3, 1) := by decide +kernel
theorem dX9_hangs_8 : decode cX9_hangs 8 = .ok (.iconst (-1), 1) := by decide +kernel
theorem dX9_hangs_9 : decode cX9_hangs 9 = .ok (.if_icmp .eq 10, 3) := by decide +kernel
theorem dX9_hangs_12 : decode cX9_hangs 12 = .ok (.aload_n 0, 1) := by decide +kernel
theorem dX9_hangs_13 : decode cX9_hangs 13 = .ok (.getfield 69, 3) := by decide +kernel
theorem dX9_hangs_16 : decode cX9_hangs 16 = .ok (.iload_n 3, 1) := by decide +kernel
theorem dX9_hangs_17 : decode cX9_hangs 17 = .ok (.baload, 1) := by decide +kernel
theorem dX9_hangs_18 : decode cX9_hangs 18 = .ok (.ireturn, 1) := by decide +kernel
theorem dX9_hangs_19 : decode cX9_hangs 19 = .ok (.aload_n 0, 1) := by decide +kernel
theorem dX9_hangs_20 : decode cX9_hangs 20 = .ok (.getfield 26, 3) := by decide +kernel
theorem dX9_hangs_23 : decode cX9_hangs 23 = .ok (.iload_n 1, 1) := by decide +kernel
theorem dX9_hangs_24 : decode cX9_hangs 24 = .ok (.iaload, 1) := by decide +kernel
theorem dX9_hangs_25 : decode cX9_hangs 25 = .ok (.aload_n 0, 1) := by decide +kernel
theorem dX9_hangs_26 : decode cX9_hangs 26 = .ok (.getfield 26, 3) := by decide +kernel
theorem dX9_hangs_29 : decode cX9_hangs 29 = .ok (.iload_n 2, 1) := by decide +kernel
theorem dX9_hangs_30 : decode cX9_hangs 30 = .ok (.iaload, 1) := by decide +kernel
theorem dX9_hangs_31 : decode cX9_hangs 31 = .ok (.if_icmp .ne 28, 3) := by decide +kernel
theorem dX9_hangs_34 : decode cX9_hangs 34 = .ok (.aload_n 0, 1) := by decide +kernel
theorem dX9_hangs_35 : decode cX9_hangs 35 = .ok (.getfield 16, 3) := by decide +kernel
theorem dX9_hangs_38 : decode cX9_hangs 38 = .ok (.iload_n 1, 1) := by decide +kernel
theorem dX9_hangs_39 : decode cX9_hangs 39 = .ok (.iaload, 1) := by decide +kernel
theorem dX9_hangs_40 : decode cX9_hangs 40 = .ok (.aload_n 0, 1) := by decide +kernel
theorem dX9_hangs_41 : decode cX9_hangs 41 = .ok (.getfield 16, 3) := by decide +kernel
theorem dX9_hangs_44 : decode cX9_hangs 44 = .ok (.iload_n 2, 1) := by decide +kernel
theorem dX9_hangs_45 : decode cX9_hangs 45 = .ok (.iaload, 1) := by decide +kernel
theorem dX9_hangs_46 : decode cX9_hangs 46 = .ok (.isub, 1) := by decide +kernel
theorem dX9_hangs_47 : decode cX9_hangs 47 = .ok (.invokestatic 147, 3) := by decide +kernel
theorem dX9_hangs_50 : decode cX9_hangs 50 = .ok (.bipush 20, 2) := by decide +kernel
theorem dX9_hangs_52 : decode cX9_hangs 52 = .ok (.if_icmp .gt 7, 3) := by decide +kernel
theorem dX9_hangs_55 : decode cX9_hangs 55 = .ok (.iconst 1, 1) := by decide +kernel
theorem dX9_hangs_56 : decode cX9_hangs 56 = .ok (.goto 4, 3) := by decide +kernel
theorem dX9_hangs_59 : decode cX9_hangs 59 = .ok (.iconst 0, 1) := by decide +kernel
theorem dX9_hangs_60 : decode cX9_hangs 60 = .ok (.ireturn, 1) := by decide +kernel
theorem dX9_scoreOf_0 : decode cX9_scoreOf 0 = .ok (.iconst 0, 1) := by decide +kernel
theorem dX9_scoreOf_1 : decode cX9_scoreOf 1 = .ok (.istore_n 2, 1) := by decide +kernel
theorem dX9_scoreOf_2 : decode cX9_scoreOf 2 = .ok (.iload_n 1, 1) := by decide +kernel
theorem dX9_scoreOf_3 : decode cX9_scoreOf 3 = .ok (.istore_n 3, 1) := by decide +kernel
theorem dX9_scoreOf_4 : decode cX9_scoreOf 4 = .ok (.iload_n 3, 1) := by decide +kernel
theorem dX9_scoreOf_5 : decode cX9_scoreOf 5 = .ok (.aload_n 0, 1) := by decide +kernel
theorem dX9_scoreOf_6 : decode cX9_scoreOf 6 = .ok (.getfield 93, 3) := by decide +kernel
theorem dX9_scoreOf_9 : decode cX9_scoreOf 9 = .ok (.if_icmp .ge 30, 3) := by decide +kernel
theorem dX9_scoreOf_12 : decode cX9_scoreOf 12 = .ok (.aload_n 0, 1) := by decide +kernel
theorem dX9_scoreOf_13 : decode cX9_scoreOf 13 = .ok (.getfield 72, 3) := by decide +kernel
theorem dX9_scoreOf_16 : decode cX9_scoreOf 16 = .ok (.iload_n 3, 1) := by decide +kernel
theorem dX9_scoreOf_17 : decode cX9_scoreOf 17 = .ok (.iaload, 1) := by decide +kernel
theorem dX9_scoreOf_18 : decode cX9_scoreOf 18 = .ok (.iload_n 1, 1) := by decide +kernel
theorem dX9_scoreOf_19 : decode cX9_scoreOf 19 = .ok (.if_icmp .ne 14, 3) := by decide +kernel
theorem dX9_scoreOf_22 : decode cX9_scoreOf 22 = .ok (.iload_n 2, 1) := by decide +kernel
theorem dX9_scoreOf_23 : decode cX9_scoreOf 23 = .ok (.aload_n 0, 1) := by decide +kernel
theorem dX9_scoreOf_24 : decode cX9_scoreOf 24 = .ok (.getfield 75, 3) := by decide +kernel
theorem dX9_scoreOf_27 : decode cX9_scoreOf 27 = .ok (.iload_n 3, 1) := by decide +kernel
theorem dX9_scoreOf_28 : decode cX9_scoreOf 28 = .ok (.iaload, 1) := by decide +kernel
theorem dX9_scoreOf_29 : decode cX9_scoreOf 29 = .ok (.invokestatic 162, 3) := by decide +kernel
theorem dX9_scoreOf_32 : decode cX9_scoreOf 32 = .ok (.istore_n 2, 1) := by decide +kernel
theorem dX9_scoreOf_33 : decode cX9_scoreOf 33 = .ok (.iinc 3 1, 3) := by decide +kernel
theorem dX9_scoreOf_36 : decode cX9_scoreOf 36 = .ok (.goto (-32), 3) := by decide +kernel
theorem dX9_scoreOf_39 : decode cX9_scoreOf 39 = .ok (.iload_n 2, 1) := by decide +kernel
theorem dX9_scoreOf_40 : decode cX9_scoreOf 40 = .ok (.ireturn, 1) := by decide +kernel
set_option maxRecDepth 20000 in
theorem ggX9_sizeOf_X9_one : GoodIn wsX9_sizeOf wsX9_one := goodIn_r _ [6] (by decide +kernel) (by decide +kernel)
set_option maxRecDepth 20000 in
theorem gX9_sizeOf_X9_one : GoodIn wsX9_sizeOf (va_wsS RX9 107 yX9_one wsX9_one) := goodIn_app (goodIn_of _ (by decide +kernel)) ggX9_sizeOf_X9_one
theorem dX9_sizeOf_0 : decode cX9_sizeOf 0 = .ok (.iconst 0, 1) := by decide +kernel
theorem dX9_sizeOf_1 : decode cX9_sizeOf 1 = .ok (.istore_n 2, 1) := by decide +kernel
theorem dX9_sizeOf_2 : decode cX9_sizeOf 2 = .ok (.iload_n 1, 1) := by decide +kernel
theorem dX9_sizeOf_3 : decode cX9_sizeOf 3 = .ok (.istore_n 3, 1) := by decide +kernel
theorem dX9_sizeOf_4 : decode cX9_sizeOf 4 = .ok (.iload_n 3, 1) := by decide +kernel
theorem dX9_sizeOf_5 : decode cX9_sizeOf 5 = .ok (.aload_n 0, 1) := by decide +kernel
theorem dX9_sizeOf_6 : decode cX9_sizeOf 6 = .ok (.getfield 93, 3) := by decide +kernel
theorem dX9_sizeOf_9 : decode cX9_sizeOf 9 = .ok (.if_icmp .ge 30, 3) := by decide +kernel
theorem dX9_sizeOf_12 : decode cX9_sizeOf 12 = .ok (.iload_n 2, 1) := by decide +kernel
theorem dX9_sizeOf_13 : decode cX9_sizeOf 13 = .ok (.aload_n 0, 1) := by decide +kernel
theorem dX9_sizeOf_14 : decode cX9_sizeOf 14 = .ok (.getfield 72, 3) := by decide +kernel
theorem dX9_sizeOf_17 : decode cX9_sizeOf 17 = .ok (.iload_n 3, 1) := by decide +kernel
theorem dX9_sizeOf_18 : decode cX9_sizeOf 18 = .ok (.iaload, 1) := by decide +kernel
theorem dX9_sizeOf_19 : decode cX9_sizeOf 19 = .ok (.iload_n 1, 1) := by decide +kernel
theorem dX9_sizeOf_20 : decode cX9_sizeOf 20 = .ok (.if_icmp .ne 7, 3) := by decide +kernel
theorem dX9_sizeOf_23 : decode cX9_sizeOf 23 = .ok (.iconst 1, 1) := by decide +kernel
theorem dX9_sizeOf_24 : decode cX9_sizeOf 24 = .ok (.goto 4, 3) := by decide +kernel
theorem dX9_sizeOf_27 : decode cX9_sizeOf 27 = .ok (.iconst 0, 1) := by decide +kernel
theorem dX9_sizeOf_28 : decode cX9_sizeOf 28 = .ok (.invokestatic 107, 3) := by decide +kernel
theorem dX9_sizeOf_31 : decode cX9_sizeOf 31 = .ok (.iadd, 1) := by decide +kernel
theorem dX9_sizeOf_32 : decode cX9_sizeOf 32 = .ok (.istore_n 2, 1) := by decide +kernel
theorem dX9_sizeOf_33 : decode cX9_sizeOf 33 = .ok (.iinc 3 1, 3) := by decide +kernel
theorem dX9_sizeOf_36 : decode cX9_sizeOf 36 = .ok (.goto (-32), 3) := by decide +kernel
theorem dX9_sizeOf_39 : decode cX9_sizeOf 39 = .ok (.iload_n 2, 1) := by decide +kernel
theorem dX9_sizeOf_40 : decode cX9_sizeOf 40 = .ok (.ireturn, 1) := by decide +kernel
set_option maxRecDepth 20000 in
theorem ggX9_minutesOf_X9_sizeOf : GoodIn wsX9_minutesOf wsX9_sizeOf := goodIn_r _ [5, 6, 7, 8, 9, 4, 10, 11, 12, 13, 14, 15, 16, 17, 18, 19, 20, 21, 22, 23, 24, 25, 26, 27, 28, 29, 30, 31, 32, 33, 34, 35, 36, 37, 38, 39, 40, 41, 42, 43, 44, 45, 46, 47] (by decide +kernel) (by decide +kernel)
set_option maxRecDepth 20000 in
theorem gX9_minutesOf_X9_sizeOf : GoodIn wsX9_minutesOf (wsV RX9 171 RX9 yX9_sizeOf wsX9_sizeOf) := goodIn_app (goodIn_of _ (by decide +kernel)) ggX9_minutesOf_X9_sizeOf
theorem dX9_minutesOf_0 : decode cX9_minutesOf 0 = .ok (.iconst 5, 1) := by decide +kernel
theorem dX9_minutesOf_1 : decode cX9_minutesOf 1 = .ok (.iconst 2, 1) := by decide +kernel
theorem dX9_minutesOf_2 : decode cX9_minutesOf 2 = .ok (.aload_n 0, 1) := by decide +kernel
theorem dX9_minutesOf_3 : decode cX9_minutesOf 3 = .ok (.iload_n 1, 1) := by decide +kernel
theorem dX9_minutesOf_4 : decode cX9_minutesOf 4 = .ok (.invokevirtual 171, 3) := by decide +kernel
theorem dX9_minutesOf_7 : decode cX9_minutesOf 7 = .ok (.imul, 1) := by decide +kernel
theorem dX9_minutesOf_8 : decode cX9_minutesOf 8 = .ok (.iadd, 1) := by decide +kernel
theorem dX9_minutesOf_9 : decode cX9_minutesOf 9 = .ok (.ireturn, 1) := by decide +kernel
theorem dX9_isTaken_0 : decode cX9_isTaken 0 = .ok (.iconst 0, 1) := by decide +kernel
theorem dX9_isTaken_1 : decode cX9_isTaken 1 = .ok (.istore_n 2, 1) := by decide +kernel
theorem dX9_isTaken_2 : decode cX9_isTaken 2 = .ok (.iload_n 2, 1) := by decide +kernel
theorem dX9_isTaken_3 : decode cX9_isTaken 3 = .ok (.aload_n 0, 1) := by decide +kernel
theorem dX9_isTaken_4 : decode cX9_isTaken 4 = .ok (.getfield 183, 3) := by decide +kernel
theorem dX9_isTaken_7 : decode cX9_isTaken 7 = .ok (.if_icmp .ge 21, 3) := by decide +kernel
theorem dX9_isTaken_10 : decode cX9_isTaken 10 = .ok (.aload_n 0, 1) := by decide +kernel
theorem dX9_isTaken_11 : decode cX9_isTaken 11 = .ok (.getfield 81, 3) := by decide +kernel
theorem dX9_isTaken_14 : decode cX9_isTaken 14 = .ok (.iload_n 2, 1) := by decide +kernel
theorem dX9_isTaken_15 : decode cX9_isTaken 15 = .ok (.iaload, 1) := by decide +kernel
theorem dX9_isTaken_16 : decode cX9_isTaken 16 = .ok (.iload_n 1, 1) := by decide +kernel
theorem dX9_isTaken_17 : decode cX9_isTaken 17 = .ok (.if_icmp .ne 5, 3) := by decide +kernel
theorem dX9_isTaken_20 : decode cX9_isTaken 20 = .ok (.iconst 1, 1) := by decide +kernel
theorem dX9_isTaken_21 : decode cX9_isTaken 21 = .ok (.ireturn, 1) := by decide +kernel
theorem dX9_isTaken_22 : decode cX9_isTaken 22 = .ok (.iinc 2 1, 3) := by decide +kernel
theorem dX9_isTaken_25 : decode cX9_isTaken 25 = .ok (.goto (-23), 3) := by decide +kernel
theorem dX9_isTaken_28 : decode cX9_isTaken 28 = .ok (.iconst 0, 1) := by decide +kernel
theorem dX9_isTaken_29 : decode cX9_isTaken 29 = .ok (.ireturn, 1) := by decide +kernel
set_option maxRecDepth 20000 in
theorem ggX9_isPlan_X9_isIn : GoodIn wsX9_isPlan wsX9_isIn := goodIn_r _ [4] (by decide +kernel) (by decide +kernel)
set_option maxRecDepth 20000 in
theorem gX9_isPlan_X9_isIn : GoodIn wsX9_isPlan (va_wsS RX9 96 yX9_isIn wsX9_isIn) := goodIn_app (goodIn_of _ (by decide +kernel)) ggX9_isPlan_X9_isIn
theorem dX9_isPlan_0 : decode cX9_isPlan 0 = .ok (.iload_n 0, 1) := by decide +kernel
theorem dX9_isPlan_1 : decode cX9_isPlan 1 = .ok (.iconst 0, 1) := by decide +kernel
theorem dX9_isPlan_2 : decode cX9_isPlan 2 = .ok (.sipush 300, 3) := by decide +kernel
theorem dX9_isPlan_5 : decode cX9_isPlan 5 = .ok (.invokestatic 96, 3) := by decide +kernel
theorem dX9_isPlan_8 : decode cX9_isPlan 8 = .ok (.ireturn, 1) := by decide +kernel
