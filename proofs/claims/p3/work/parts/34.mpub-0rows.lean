set_option maxRecDepth 20000 in
theorem ggX9_pass_X9_isIn : GoodIn wsX9_pass wsX9_isIn := goodIn_r _ [5] (by decide +kernel) (by decide +kernel)
set_option maxRecDepth 20000 in
theorem gX9_pass_X9_isIn : GoodIn wsX9_pass (va_wsS RX9 96 yX9_isIn wsX9_isIn) := goodIn_app (goodIn_of _ (by decide +kernel)) ggX9_pass_X9_isIn
theorem dX9_pass_0 : decode cX9_pass 0 = .ok (.iload_n 1, 1) := by decide +kernel
theorem dX9_pass_1 : decode cX9_pass 1 = .ok (.iconst 1, 1) := by decide +kernel
theorem dX9_pass_2 : decode cX9_pass 2 = .ok (.sipush 1000, 3) := by decide +kernel
theorem dX9_pass_5 : decode cX9_pass 5 = .ok (.invokestatic 96, 3) := by decide +kernel
theorem dX9_pass_8 : decode cX9_pass 8 = .ok (.ifCond .eq 15, 3) := by decide +kernel
theorem dX9_pass_11 : decode cX9_pass 11 = .ok (.aload_n 0, 1) := by decide +kernel
theorem dX9_pass_12 : decode cX9_pass 12 = .ok (.getfield 100, 3) := by decide +kernel
theorem dX9_pass_15 : decode cX9_pass 15 = .ok (.iload_n 1, 1) := by decide +kernel
theorem dX9_pass_16 : decode cX9_pass 16 = .ok (.iadd, 1) := by decide +kernel
theorem dX9_pass_17 : decode cX9_pass 17 = .ok (.sipush 10000, 3) := by decide +kernel
theorem dX9_pass_20 : decode cX9_pass 20 = .ok (.if_icmp .le 5, 3) := by decide +kernel
theorem dX9_pass_23 : decode cX9_pass 23 = .ok (.iconst (-1), 1) := by decide +kernel
theorem dX9_pass_24 : decode cX9_pass 24 = .ok (.ireturn, 1) := by decide +kernel
theorem dX9_pass_25 : decode cX9_pass 25 = .ok (.aload_n 0, 1) := by decide +kernel
theorem dX9_pass_26 : decode cX9_pass 26 = .ok (.dup, 1) := by decide +kernel
theorem dX9_pass_27 : decode cX9_pass 27 = .ok (.getfield 100, 3) := by decide +kernel
theorem dX9_pass_30 : decode cX9_pass 30 = .ok (.iload_n 1, 1) := by decide +kernel
theorem dX9_pass_31 : decode cX9_pass 31 = .ok (.iadd, 1) := by decide +kernel
theorem dX9_pass_32 : decode cX9_pass 32 = .ok (.putfield 100, 3) := by decide +kernel
theorem dX9_pass_35 : decode cX9_pass 35 = .ok (.aload_n 0, 1) := by decide +kernel
theorem dX9_pass_36 : decode cX9_pass 36 = .ok (.getfield 100, 3) := by decide +kernel
theorem dX9_pass_39 : decode cX9_pass 39 = .ok (.ireturn, 1) := by decide +kernel
set_option maxRecDepth 20000 in
theorem ggX9_silence_X9_isIn : GoodIn wsX9_silence wsX9_isIn := goodIn_r _ [8] (by decide +kernel) (by decide +kernel)
set_option maxRecDepth 20000 in
theorem gX9_silence_X9_isIn : GoodIn wsX9_silence (va_wsS RX9 96 yX9_isIn wsX9_isIn) := goodIn_app (goodIn_of _ (by decide +kernel)) ggX9_silence_X9_isIn
theorem dX9_silence_0 : decode cX9_silence 0 = .ok (.iload_n 1, 1) := by decide +kernel
theorem dX9_silence_1 : decode cX9_silence 1 = .ok (.iconst 0, 1) := by decide +kernel
theorem dX9_silence_2 : decode cX9_silence 2 = .ok (.bipush 9, 2) := by decide +kernel
theorem dX9_silence_4 : decode cX9_silence 4 = .ok (.invokestatic 96, 3) := by decide +kernel
theorem dX9_silence_7 : decode cX9_silence 7 = .ok (.ifCond .eq 28, 3) := by decide +kernel
theorem dX9_silence_10 : decode cX9_silence 10 = .ok (.iload_n 2, 1) := by decide +kernel
theorem dX9_silence_11 : decode cX9_silence 11 = .ok (.ifCond .lt 24, 3) := by decide +kernel
theorem dX9_silence_14 : decode cX9_silence 14 = .ok (.iload_n 2, 1) := by decide +kernel
theorem dX9_silence_15 : decode cX9_silence 15 = .ok (.iload_n 3, 1) := by decide +kernel
theorem dX9_silence_16 : decode cX9_silence 16 = .ok (.if_icmp .gt 19, 3) := by decide +kernel
theorem dX9_silence_19 : decode cX9_silence 19 = .ok (.iload_n 3, 1) := by decide +kernel
theorem dX9_silence_20 : decode cX9_silence 20 = .ok (.sipush 10000, 3) := by decide +kernel
theorem dX9_silence_23 : decode cX9_silence 23 = .ok (.if_icmp .gt 12, 3) := by decide +kernel
theorem dX9_silence_26 : decode cX9_silence 26 = .ok (.aload_n 0, 1) := by decide +kernel
theorem dX9_silence_27 : decode cX9_silence 27 = .ok (.getfield 111, 3) := by decide +kernel
theorem dX9_silence_30 : decode cX9_silence 30 = .ok (.bipush 30, 2) := by decide +kernel
theorem dX9_silence_32 : decode cX9_silence 32 = .ok (.if_icmp .ne 5, 3) := by decide +kernel
theorem dX9_silence_35 : decode cX9_silence 35 = .ok (.iconst (-1), 1) := by decide +kernel
theorem dX9_silence_36 : decode cX9_silence 36 = .ok (.ireturn, 1) := by decide +kernel
theorem dX9_silence_37 : decode cX9_silence 37 = .ok (.aload_n 0, 1) := by decide +kernel
theorem dX9_silence_38 : decode cX9_silence 38 = .ok (.getfield 54, 3) := by decide +kernel
theorem dX9_silence_41 : decode cX9_silence 41 = .ok (.aload_n 0, 1) := by decide +kernel
theorem dX9_silence_42 : decode cX9_silence 42 = .ok (.getfield 111, 3) := by decide +kernel
theorem dX9_silence_45 : decode cX9_silence 45 = .ok (.iload_n 1, 1) := by decide +kernel
theorem dX9_silence_46 : decode cX9_silence 46 = .ok (.iastore, 1) := by decide +kernel
theorem dX9_silence_47 : decode cX9_silence 47 = .ok (.aload_n 0, 1) := by decide +kernel
theorem dX9_silence_48 : decode cX9_silence 48 = .ok (.getfield 57, 3) := by decide +kernel
theorem dX9_silence_51 : decode cX9_silence 51 = .ok (.aload_n 0, 1) := by decide +kernel
theorem dX9_silence_52 : decode cX9_silence 52 = .ok (.getfield 111, 3) := by decide +kernel
theorem dX9_silence_55 : decode cX9_silence 55 = .ok (.iload_n 2, 1) := by decide +kernel
theorem dX9_silence_56 : decode cX9_silence 56 = .ok (.iastore, 1) := by decide +kernel
theorem dX9_silence_57 : decode cX9_silence 57 = .ok (.aload_n 0, 1) := by decide +kernel
theorem dX9_silence_58 : decode cX9_silence 58 = .ok (.getfield 60, 3) := by decide +kernel
theorem dX9_silence_61 : decode cX9_silence 61 = .ok (.aload_n 0, 1) := by decide +kernel
theorem dX9_silence_62 : decode cX9_silence 62 = .ok (.getfield 111, 3) := by decide +kernel
theorem dX9_silence_65 : decode cX9_silence 65 = .ok (.iload_n 3, 1) := by decide +kernel
theorem dX9_silence_66 : decode cX9_silence 66 = .ok (.iastore, 1) := by decide +kernel
theorem dX9_silence_67 : decode cX9_silence 67 = .ok (.aload_n 0, 1) := by decide +kernel
theorem dX9_silence_68 : decode cX9_silence 68 = .ok (.dup, 1) := by decide +kernel
theorem dX9_silence_69 : decode cX9_silence 69 = .ok (.getfield 111, 3) := by decide +kernel
theorem dX9_silence_72 : decode cX9_silence 72 = .ok (.iconst 1, 1) := by decide +kernel
theorem dX9_silence_73 : decode cX9_silence 73 = .ok (.iadd, 1) := by decide +kernel
theorem dX9_silence_74 : decode cX9_silence 74 = .ok (.putfield 111, 3) := by decide +kernel
theorem dX9_silence_77 : decode cX9_silence 77 = .ok (.aload_n 0, 1) := by decide +kernel
theorem dX9_silence_78 : decode cX9_silence 78 = .ok (.getfield 111, 3) := by decide +kernel
theorem dX9_silence_81 : decode cX9_silence 81 = .ok (.ireturn, 1) := by decide +kernel
set_option maxRecDepth 20000 in
theorem ggX9_set_X9_isIn : GoodIn wsX9_set wsX9_isIn := goodIn_r _ [7] (by decide +kernel) (by decide +kernel)
set_option maxRecDepth 20000 in
theorem gX9_set_X9_isIn : GoodIn wsX9_set (va_wsS RX9 96 yX9_isIn wsX9_isIn) := goodIn_app (goodIn_of _ (by decide +kernel)) ggX9_set_X9_isIn
theorem dX9_set_0 : decode cX9_set 0 = .ok (.iload_n 1, 1) := by decide +kernel
theorem dX9_set_1 : decode cX9_set 1 = .ok (.iconst 0, 1) := by decide +kernel
theorem dX9_set_2 : decode cX9_set 2 = .ok (.iconst 2, 1) := by decide +kernel
theorem dX9_set_3 : decode cX9_set 3 = .ok (.invokestatic 96, 3) := by decide +kernel
theorem dX9_set_6 : decode cX9_set 6 = .ok (.ifCond .eq 40, 3) := by decide +kernel
theorem dX9_set_9 : decode cX9_set 9 = .ok (.iload_n 2, 1) := by decide +kernel
theorem dX9_set_10 : decode cX9_set 10 = .ok (.iload_n 1, 1) := by decide +kernel
theorem dX9_set_11 : decode cX9_set 11 = .ok (.iconst 2, 1) := by decide +kernel
theorem dX9_set_12 : decode cX9_set 12 = .ok (.if_icmp .ne 7, 3) := by decide +kernel
theorem dX9_set_15 : decode cX9_set 15 = .ok (.iconst 0, 1) := by decide +kernel
theorem dX9_set_16 : decode cX9_set 16 = .ok (.goto 4, 3) := by decide +kernel
theorem dX9_set_19 : decode cX9_set 19 = .ok (.iconst 1, 1) := by decide +kernel
theorem dX9_set_20 : decode cX9_set 20 = .ok (.iload_n 1, 1) := by decide +kernel
theorem dX9_set_21 : decode cX9_set 21 = .ok (.ifCond .ne 8, 3) := by decide +kernel
theorem dX9_set_24 : decode cX9_set 24 = .ok (.bipush 50, 2) := by decide +kernel
theorem dX9_set_26 : decode cX9_set 26 = .ok (.goto 14, 3) := by decide +kernel
theorem dX9_set_29 : decode cX9_set 29 = .ok (.iload_n 1, 1) := by decide +kernel
theorem dX9_set_30 : decode cX9_set 30 = .ok (.iconst 1, 1) := by decide +kernel
theorem dX9_set_31 : decode cX9_set 31 = .ok (.if_icmp .ne 8, 3) := by decide +kernel
theorem dX9_set_34 : decode cX9_set 34 = .ok (.bipush 20, 2) := by decide +kernel
theorem dX9_set_36 : decode cX9_set 36 = .ok (.goto 4, 3) := by decide +kernel
theorem dX9_set_39 : decode cX9_set 39 = .ok (.iconst 5, 1) := by decide +kernel
theorem dX9_set_40 : decode cX9_set 40 = .ok (.invokestatic 96, 3) := by decide +kernel
theorem dX9_set_43 : decode cX9_set 43 = .ok (.ifCond .ne 5, 3) := by decide +kernel
theorem dX9_set_46 : decode cX9_set 46 = .ok (.iconst 0, 1) := by decide +kernel
theorem dX9_set_47 : decode cX9_set 47 = .ok (.ireturn, 1) := by decide +kernel
theorem dX9_set_48 : decode cX9_set 48 = .ok (.iload_n 1, 1) := by decide +kernel
theorem dX9_set_49 : decode cX9_set 49 = .ok (.ifCond .ne 11, 3) := by decide +kernel
theorem dX9_set_52 : decode cX9_set 52 = .ok (.aload_n 0, 1) := by decide +kernel
theorem dX9_set_53 : decode cX9_set 53 = .ok (.iload_n 2, 1) := by decide +kernel
theorem dX9_set_54 : decode cX9_set 54 = .ok (.putfield 7, 3) := by decide +kernel
theorem dX9_set_57 : decode cX9_set 57 = .ok (.goto 21, 3) := by decide +kernel
theorem dX9_set_60 : decode cX9_set 60 = .ok (.iload_n 1, 1) := by decide +kernel
theorem dX9_set_61 : decode cX9_set 61 = .ok (.iconst 1, 1) := by decide +kernel
theorem dX9_set_62 : decode cX9_set 62 = .ok (.if_icmp .ne 11, 3) := by decide +kernel
theorem dX9_set_65 : decode cX9_set 65 = .ok (.aload_n 0, 1) := by decide +kernel
theorem dX9_set_66 : decode cX9_set 66 = .ok (.iload_n 2, 1) := by decide +kernel
theorem dX9_set_67 : decode cX9_set 67 = .ok (.putfield 13, 3) := by decide +kernel
theorem dX9_set_70 : decode cX9_set 70 = .ok (.goto 8, 3) := by decide +kernel
theorem dX9_set_73 : decode cX9_set 73 = .ok (.aload_n 0, 1) := by decide +kernel
theorem dX9_set_74 : decode cX9_set 74 = .ok (.iload_n 2, 1) := by decide +kernel
theorem dX9_set_75 : decode cX9_set 75 = .ok (.putfield 114, 3) := by decide +kernel
theorem dX9_set_78 : decode cX9_set 78 = .ok (.iconst 1, 1) := by decide +kernel
theorem dX9_set_79 : decode cX9_set 79 = .ok (.ireturn, 1) := by decide +kernel
set_option maxRecDepth 20000 in
theorem ggX9_verdict_X9_isAlarm : GoodIn wsX9_verdict wsX9_isAlarm := goodIn_r _ [8, 9, 10, 11, 7, 12, 16, 17, 18, 19, 20, 21, 22, 23, 24, 25, 26, 27, 28, 29, 30, 31, 32, 33, 34, 35, 36, 37, 38, 39, 40, 41, 42, 43, 44, 45, 46, 47, 48, 49, 50, 51, 52] (by decide +kernel) (by decide +kernel)
set_option maxRecDepth 20000 in
theorem gX9_verdict_X9_isAlarm : GoodIn wsX9_verdict (wsV RX9 117 RX9 yX9_isAlarm wsX9_isAlarm) := goodIn_app (goodIn_of _ (by decide +kernel)) ggX9_verdict_X9_isAlarm
set_option maxRecDepth 20000 in
theorem ggX9_verdict_X9_isIn : GoodIn wsX9_verdict wsX9_isIn := goodIn_r _ [12] (by decide +kernel) (by decide +kernel)
set_option maxRecDepth 20000 in
theorem gX9_verdict_X9_isIn : GoodIn wsX9_verdict (va_wsS RX9 96 yX9_isIn wsX9_isIn) := goodIn_app (goodIn_of _ (by decide +kernel)) ggX9_verdict_X9_isIn
set_option maxRecDepth 20000 in
theorem ggX9_verdict_X9_many : GoodIn wsX9_verdict wsX9_many := goodIn_r _ [15] (by decide +kernel) (by decide +kernel)
set_option maxRecDepth 20000 in
theorem gX9_verdict_X9_many : GoodIn wsX9_verdict (va_wsS RX9 120 yX9_many wsX9_many) := goodIn_app (goodIn_of _ (by decide +kernel)) ggX9_verdict_X9_many
theorem dX9_verdict_0 : decode cX9_verdict 0 = .ok (.aload_n 0, 1) := by decide +kernel
theorem dX9_verdict_1 : decode cX9_verdict 1 = .ok (.iload_n 1, 1) := by decide +kernel
theorem dX9_verdict_2 : decode cX9_verdict 2 = .ok (.invokevirtual 117, 3) := by decide +kernel
theorem dX9_verdict_5 : decode cX9_verdict 5 = .ok (.ifCond .eq 43, 3) := by decide +kernel
theorem dX9_verdict_8 : decode cX9_verdict 8 = .ok (.iload_n 2, 1) := by decide +kernel
theorem dX9_verdict_9 : decode cX9_verdict 9 = .ok (.iconst 0, 1) := by decide +kernel
theorem dX9_verdict_10 : decode cX9_verdict 10 = .ok (.bipush 9, 2) := by decide +kernel
theorem dX9_verdict_12 : decode cX9_verdict 12 = .ok (.invokestatic 96, 3) := by decide +kernel
theorem dX9_verdict_15 : decode cX9_verdict 15 = .ok (.ifCond .eq 33, 3) := by decide +kernel
theorem dX9_verdict_18 : decode cX9_verdict 18 = .ok (.aload_n 0, 1) := by decide +kernel
theorem dX9_verdict_19 : decode cX9_verdict 19 = .ok (.getfield 38, 3) := by decide +kernel
theorem dX9_verdict_22 : decode cX9_verdict 22 = .ok (.iload_n 1, 1) := by decide +kernel
theorem dX9_verdict_23 : decode cX9_verdict 23 = .ok (.iaload, 1) := by decide +kernel
theorem dX9_verdict_24 : decode cX9_verdict 24 = .ok (.ifCond .ne 24, 3) := by decide +kernel
theorem dX9_verdict_27 : decode cX9_verdict 27 = .ok (.aload_n 0, 1) := by decide +kernel
theorem dX9_verdict_28 : decode cX9_verdict 28 = .ok (.getfield 41, 3) := by decide +kernel
theorem dX9_verdict_31 : decode cX9_verdict 31 = .ok (.iload_n 1, 1) := by decide +kernel
theorem dX9_verdict_32 : decode cX9_verdict 32 = .ok (.iaload, 1) := by decide +kernel
theorem dX9_verdict_33 : decode cX9_verdict 33 = .ok (.aload_n 0, 1) := by decide +kernel
theorem dX9_verdict_34 : decode cX9_verdict 34 = .ok (.getfield 44, 3) := by decide +kernel
theorem dX9_verdict_37 : decode cX9_verdict 37 = .ok (.iload_n 1, 1) := by decide +kernel
theorem dX9_verdict_38 : decode cX9_verdict 38 = .ok (.iaload, 1) := by decide +kernel
theorem dX9_verdict_39 : decode cX9_verdict 39 = .ok (.ior, 1) := by decide +kernel
theorem dX9_verdict_40 : decode cX9_verdict 40 = .ok (.iload_n 2, 1) := by decide +kernel
theorem dX9_verdict_41 : decode cX9_verdict 41 = .ok (.ishr, 1) := by decide +kernel
theorem dX9_verdict_42 : decode cX9_verdict 42 = .ok (.iconst 1, 1) := by decide +kernel
theorem dX9_verdict_43 : decode cX9_verdict 43 = .ok (.iand, 1) := by decide +kernel
theorem dX9_verdict_44 : decode cX9_verdict 44 = .ok (.iconst 1, 1) := by decide +kernel
theorem dX9_verdict_45 : decode cX9_verdict 45 = .ok (.if_icmp .ne 5, 3) := by decide +kernel
theorem dX9_verdict_48 : decode cX9_verdict 48 = .ok (.iconst (-1), 1) := by decide +kernel
theorem dX9_verdict_49 : decode cX9_verdict 49 = .ok (.ireturn, 1) := by decide +kernel
theorem dX9_verdict_50 : decode cX9_verdict 50 = .ok (.iload_n 3, 1) := by decide +kernel
theorem dX9_verdict_51 : decode cX9_verdict 51 = .ok (.ifCond .eq 18, 3) := by decide +kernel
theorem dX9_verdict_54 : decode cX9_verdict 54 = .ok (.aload_n 0, 1) := by decide +kernel
theorem dX9_verdict_55 : decode cX9_verdict 55 = .ok (.getfield 41, 3) := by decide +kernel
theorem dX9_verdict_58 : decode cX9_verdict 58 = .ok (.iload_n 1, 1) := by decide +kernel
theorem dX9_verdict_59 : decode cX9_verdict 59 = .ok (.dup2, 1) := by decide +kernel
theorem dX9_verdict_60 : decode cX9_verdict 60 = .ok (.iaload, 1) := by decide +kernel
theorem dX9_verdict_61 : decode cX9_verdict 61 = .ok (.iconst 1, 1) := by decide +kernel
theorem dX9_verdict_62 : decode cX9_verdict 62 = .ok (.iload_n 2, 1) := by decide +kernel
theorem dX9_verdict_63 : decode cX9_verdict 63 = .ok (.ishl, 1) := by decide +kernel
theorem dX9_verdict_64 : decode cX9_verdict 64 = .ok (.ior, 1) := by decide +kernel
theorem dX9_verdict_65 : decode cX9_verdict 65 = .ok (.iastore, 1) := by decide +kernel
theorem dX9_verdict_66 : decode cX9_verdict 66 = .ok (.goto 15, 3) := by decide +kernel
theorem dX9_verdict_69 : decode cX9_verdict 69 = .ok (.aload_n 0, 1) := by decide +kernel
theorem dX9_verdict_70 : decode cX9_verdict 70 = .ok (.getfield 44, 3) := by decide +kernel
theorem dX9_verdict_73 : decode cX9_verdict 73 = .ok (.iload_n 1, 1) := by decide +kernel
theorem dX9_verdict_74 : decode cX9_verdict 74 = .ok (.dup2, 1) := by decide +kernel
theorem dX9_verdict_75 : decode cX9_verdict 75 = .ok (.iaload, 1) := by decide +kernel
theorem dX9_verdict_76 : decode cX9_verdict 76 = .ok (.iconst 1, 1) := by decide +kernel
theorem dX9_verdict_77 : decode cX9_verdict 77 = .ok (.iload_n 2, 1) := by decide +kernel
theorem dX9_verdict_78 : decode cX9_verdict 78 = .ok (.ishl, 1) := by decide +kernel
theorem dX9_verdict_79 : decode cX9_verdict 79 = .ok (.ior, 1) := by decide +kernel
theorem dX9_verdict_80 : decode cX9_verdict 80 = .ok (.iastore, 1) := by decide +kernel
theorem dX9_verdict_81 : decode cX9_verdict 81 = .ok (.iload_n 3, 1) := by decide +kernel
theorem dX9_verdict_82 : decode cX9_verdict 82 = .ok (.ifCond .eq 12, 3) := by decide +kernel
theorem dX9_verdict_85 : decode cX9_verdict 85 = .ok (.aload_n 0, 1) := by decide +kernel
theorem dX9_verdict_86 : decode cX9_verdict 86 = .ok (.getfield 41, 3) := by decide +kernel
theorem dX9_verdict_89 : decode cX9_verdict 89 = .ok (.iload_n 1, 1) := by decide +kernel
theorem dX9_verdict_90 : decode cX9_verdict 90 = .ok (.iaload, 1) := by decide +kernel
theorem dX9_verdict_91 : decode cX9_verdict 91 = .ok (.goto 9, 3) := by decide +kernel
theorem dX9_verdict_94 : decode cX9_verdict 94 = .ok (.aload_n 0, 1) := by decide +kernel
theorem dX9_verdict_95 : decode cX9_verdict 95 = .ok (.getfield 44, 3) := by decide +kernel
theorem dX9_verdict_98 : decode cX9_verdict 98 = .ok (.iload_n 1, 1) := by decide +kernel
theorem dX9_verdict_99 : decode cX9_verdict 99 = .ok (.iaload, 1) := by decide +kernel
theorem dX9_verdict_100 : decode cX9_verdict 100 = .ok (.invokestatic 120, 3) := by decide +kernel
theorem dX9_verdict_103 : decode cX9_verdict 103 = .ok (.iconst 2, 1) := by decide +kernel
theorem dX9_verdict_104 : decode cX9_verdict 104 = .ok (.if_icmp .ge 5, 3) := by decide +kernel
theorem dX9_verdict_107 : decode cX9_verdict 107 = .ok (.iconst 0, 1) := by decide +kernel
theorem dX9_verdict_108 : decode cX9_verdict 108 = .ok (.ireturn, 1) := by decide +kernel
theorem dX9_verdict_109 : decode cX9_verdict 109 = .ok (.aload_n 0, 1) := by decide +kernel
theorem dX9_verdict_110 : decode cX9_verdict 110 = .ok (.getfield 38, 3) := by decide +kernel
theorem dX9_verdict_113 : decode cX9_verdict 113 = .ok (.iload_n 1, 1) := by decide +kernel
theorem dX9_verdict_114 : decode cX9_verdict 114 = .ok (.iload_n 3, 1) := by decide +kernel
theorem dX9_verdict_115 : decode cX9_verdict 115 = .ok (.ifCond .eq 7, 3) := by decide +kernel
theorem dX9_verdict_118 : decode cX9_verdict 118 = .ok (.iconst 1, 1) := by decide +kernel
theorem dX9_verdict_119 : decode cX9_verdict 119 = .ok (.goto 4, 3) := by decide +kernel
theorem dX9_verdict_122 : decode cX9_verdict 122 = .ok (.iconst 2, 1) := by decide +kernel
theorem dX9_verdict_123 : decode cX9_verdict 123 = .ok (.iastore, 1) := by decide +kernel
theorem dX9_verdict_124 : decode cX9_verdict 124 = .ok (.iconst 1, 1) := by decide +kernel
theorem dX9_verdict_125 : decode cX9_verdict 125 = .ok (.ireturn, 1) := by decide +kernel
set_option maxRecDepth 20000 in
theorem ggX9_tie_X9_isAlarm : GoodIn wsX9_tie wsX9_isAlarm := goodIn_r _ [9, 10, 11, 12, 8, 13, 18, 19, 20, 21, 22, 23, 24, 25, 26, 27, 28, 29, 30, 31, 32, 33, 34, 35, 36, 37, 38, 39, 40, 41, 42, 43, 44, 45, 46, 47, 48, 49, 50, 51, 52, 53, 54] (by decide +kernel) (by decide +kernel)
set_option maxRecDepth 20000 in
theorem gX9_tie_X9_isAlarm : GoodIn wsX9_tie (wsV RX9 117 RX9 yX9_isAlarm wsX9_isAlarm) := goodIn_app (goodIn_of _ (by decide +kernel)) ggX9_tie_X9_isAlarm
set_option maxRecDepth 20000 in
theorem ggX9_tie_X9_tieOf : GoodIn wsX9_tie wsX9_tieOf := goodIn_r _ [17, 2, 3, 4, 18, 19, 20, 21, 22, 23, 24, 25, 26, 27, 28, 29, 30, 31, 32, 33, 34, 35, 36, 37, 38, 39, 40, 41, 42, 43, 44, 45, 46, 47, 48, 49, 50, 51, 52, 53, 54] (by decide +kernel) (by decide +kernel)
set_option maxRecDepth 20000 in
theorem gX9_tie_X9_tieOf : GoodIn wsX9_tie (wsV RX9 127 RX9 yX9_tieOf wsX9_tieOf) := goodIn_app (goodIn_of _ (by decide +kernel)) ggX9_tie_X9_tieOf
theorem dX9_tie_0 : decode cX9_tie 0 = .ok (.aload_n 0, 1) := by decide +kernel
theorem dX9_tie_1 : decode cX9_tie 1 = .ok (.iload_n 1, 1) := by decide +kernel
theorem dX9_tie_2 : decode cX9_tie 2 = .ok (.invokevirtual 117, 3) := by decide +kernel
theorem dX9_tie_5 : decode cX9_tie 5 = .ok (.ifCond .eq 16, 3) := by decide +kernel
theorem dX9_tie_8 : decode cX9_tie 8 = .ok (.aload_n 0, 1) := by decide +kernel
theorem dX9_tie_9 : decode cX9_tie 9 = .ok (.iload_n 2, 1) := by decide +kernel
theorem dX9_tie_10 : decode cX9_tie 10 = .ok (.invokevirtual 117, 3) := by decide +kernel
theorem dX9_tie_13 : decode cX9_tie 13 = .ok (.ifCond .eq 8, 3) := by decide +kernel
theorem dX9_tie_16 : decode cX9_tie 16 = .ok (.iload_n 1, 1) := by decide +kernel
theorem dX9_tie_17 : decode cX9_tie 17 = .ok (.iload_n 2, 1) := by decide +kernel
theorem dX9_tie_18 : decode cX9_tie 18 = .ok (.if_icmp .ne 5, 3) := by decide +kernel
theorem dX9_tie_21 : decode cX9_tie 21 = .ok (.iconst 0, 1) := by decide +kernel
theorem dX9_tie_22 : decode cX9_tie 22 = .ok (.ireturn, 1) := by decide +kernel
theorem dX9_tie_23 : decode cX9_tie 23 = .ok (.aload_n 0, 1) := by decide +kernel
theorem dX9_tie_24 : decode cX9_tie 24 = .ok (.iload_n 1, 1) := by decide +kernel
theorem dX9_tie_25 : decode cX9_tie 25 = .ok (.iload_n 2, 1) := by decide +kernel
theorem dX9_tie_26 : decode cX9_tie 26 = .ok (.invokevirtual 127, 3) := by decide +kernel
theorem dX9_tie_29 : decode cX9_tie 29 = .ok (.istore 4, 2) := by decide +kernel
theorem dX9_tie_31 : decode cX9_tie 31 = .ok (.iload 4, 2) := by decide +kernel
theorem dX9_tie_33 : decode cX9_tie 33 = .ok (.iconst (-1), 1) := by decide +kernel
theorem dX9_tie_34 : decode cX9_tie 34 = .ok (.if_icmp .eq 14, 3) := by decide +kernel
theorem dX9_tie_37 : decode cX9_tie 37 = .ok (.aload_n 0, 1) := by decide +kernel
theorem dX9_tie_38 : decode cX9_tie 38 = .ok (.getfield 69, 3) := by decide +kernel
theorem dX9_tie_41 : decode cX9_tie 41 = .ok (.iload 4, 2) := by decide +kernel
theorem dX9_tie_43 : decode cX9_tie 43 = .ok (.baload, 1) := by decide +kernel
theorem dX9_tie_44 : decode cX9_tie 44 = .ok (.iload_n 3, 1) := by decide +kernel
theorem dX9_tie_45 : decode cX9_tie 45 = .ok (.if_icmp .eq 18, 3) := by decide +kernel
theorem dX9_tie_48 : decode cX9_tie 48 = .ok (.iload 4, 2) := by decide +kernel
theorem dX9_tie_50 : decode cX9_tie 50 = .ok (.iconst (-1), 1) := by decide +kernel
theorem dX9_tie_51 : decode cX9_tie 51 = .ok (.if_icmp .ne 14, 3) := by decide +kernel
theorem dX9_tie_54 : decode cX9_tie 54 = .ok (.aload_n 0, 1) := by decide +kernel
theorem dX9_tie_55 : decode cX9_tie 55 = .ok (.getfield 124, 3) := by decide +kernel
theorem dX9_tie_58 : decode cX9_tie 58 = .ok (.bipush 60, 2) := by decide +kernel
theorem dX9_tie_60 : decode cX9_tie 60 = .ok (.if_icmp .ne 5, 3) := by decide +kernel
theorem dX9_tie_63 : decode cX9_tie 63 = .ok (.iconst 0, 1) := by decide +kernel
theorem dX9_tie_64 : decode cX9_tie 64 = .ok (.ireturn, 1) := by decide +kernel
theorem dX9_tie_65 : decode cX9_tie 65 = .ok (.iload 4, 2) := by decide +kernel
theorem dX9_tie_67 : decode cX9_tie 67 = .ok (.iconst (-1), 1) := by decide +kernel
theorem dX9_tie_68 : decode cX9_tie 68 = .ok (.if_icmp .ne 19, 3) := by decide +kernel
theorem dX9_tie_71 : decode cX9_tie 71 = .ok (.aload_n 0, 1) := by decide +kernel
theorem dX9_tie_72 : decode cX9_tie 72 = .ok (.getfield 124, 3) := by decide +kernel
theorem dX9_tie_75 : decode cX9_tie 75 = .ok (.istore 4, 2) := by decide +kernel
theorem dX9_tie_77 : decode cX9_tie 77 = .ok (.aload_n 0, 1) := by decide +kernel
theorem dX9_tie_78 : decode cX9_tie 78 = .ok (.dup, 1) := by decide +kernel
theorem dX9_tie_79 : decode cX9_tie 79 = .ok (.getfield 124, 3) := by decide +kernel
theorem dX9_tie_82 : decode cX9_tie 82 = .ok (.iconst 1, 1) := by decide +kernel
theorem dX9_tie_83 : decode cX9_tie 83 = .ok (.iadd, 1) := by decide +kernel
theorem dX9_tie_84 : decode cX9_tie 84 = .ok (.putfield 124, 3) := by decide +kernel
theorem dX9_tie_87 : decode cX9_tie 87 = .ok (.aload_n 0, 1) := by decide +kernel
theorem dX9_tie_88 : decode cX9_tie 88 = .ok (.getfield 63, 3) := by decide +kernel
theorem dX9_tie_91 : decode cX9_tie 91 = .ok (.iload 4, 2) := by decide +kernel
theorem dX9_tie_93 : decode cX9_tie 93 = .ok (.iload_n 1, 1) := by decide +kernel
theorem dX9_tie_94 : decode cX9_tie 94 = .ok (.iastore, 1) := by decide +kernel
theorem dX9_tie_95 : decode cX9_tie 95 = .ok (.aload_n 0, 1) := by decide +kernel
theorem dX9_tie_96 : decode cX9_tie 96 = .ok (.getfield 66, 3) := by decide +kernel
theorem dX9_tie_99 : decode cX9_tie 99 = .ok (.iload 4, 2) := by decide +kernel
theorem dX9_tie_101 : decode cX9_tie 101 = .ok (.iload_n 2, 1) := by decide +kernel
theorem dX9_tie_102 : decode cX9_tie 102 = .ok (.iastore, 1) := by decide +kernel
theorem dX9_tie_103 : decode cX9_tie 103 = .ok (.aload_n 0, 1) := by decide +kernel
theorem dX9_tie_104 : decode cX9_tie 104 = .ok (.getfield 69, 3) := by decide +kernel
theorem dX9_tie_107 : decode cX9_tie 107 = .ok (.iload 4, 2) := by decide +kernel
theorem dX9_tie_109 : decode cX9_tie 109 = .ok (.iload_n 3, 1) := by decide +kernel
theorem dX9_tie_110 : decode cX9_tie 110 = .ok (.bastore, 1) := by decide +kernel
theorem dX9_tie_111 : decode cX9_tie 111 = .ok (.iconst 1, 1) := by decide +kernel
theorem dX9_tie_112 : decode cX9_tie 112 = .ok (.ireturn, 1) := by decide +kernel
set_option maxRecDepth 20000 in
theorem ggX9_node_X9_isIn : GoodIn wsX9_node wsX9_isIn := goodIn_r _ [7] (by decide +kernel) (by decide +kernel)
set_option maxRecDepth 20000 in
theorem gX9_node_X9_isIn : GoodIn wsX9_node (va_wsS RX9 96 yX9_isIn wsX9_isIn) := goodIn_app (goodIn_of _ (by decide +kernel)) ggX9_node_X9_isIn
set_option maxRecDepth 20000 in
theorem ggX9_node_X9_counts : GoodIn wsX9_node wsX9_counts := goodIn_r _ [11, 1, 2, 3, 12, 13, 14, 15, 16, 6, 17, 18, 19, 20, 21, 22, 23, 24, 25, 26, 27, 28, 29, 30, 31, 32, 33, 34, 35, 36, 37, 38, 39, 40, 41, 42, 43, 44, 45, 46, 47, 48, 49, 50, 51, 52, 53, 54] (by decide +kernel) (by decide +kernel)
set_option maxRecDepth 20000 in
theorem gX9_node_X9_counts : GoodIn wsX9_node (wsV RX9 140 RX9 yX9_counts wsX9_counts) := goodIn_app (goodIn_of _ (by decide +kernel)) ggX9_node_X9_counts
theorem dX9_node_0 : decode cX9_node 0 = .ok (.iload_n 1, 1) := by decide +kernel
theorem dX9_node_1 : decode cX9_node 1 = .ok (.iconst 0, 1) := by decide +kernel
theorem dX9_node_2 : decode cX9_node 2 = .ok (.iconst 4, 1) := by decide +kernel
theorem dX9_node_3 : decode cX9_node 3 = .ok (.invokestatic 96, 3) := by decide +kernel
theorem dX9_node_6 : decode cX9_node 6 = .ok (.ifCond .eq 14, 3) := by decide +kernel
theorem dX9_node_9 : decode cX9_node 9 = .ok (.iload_n 2, 1) := by decide +kernel
theorem dX9_node_10 : decode cX9_node 10 = .ok (.iconst 0, 1) := by decide +kernel
theorem dX9_node_11 : decode cX9_node 11 = .ok (.sipush 4095, 3) := by decide +kernel
theorem dX9_node_14 : decode cX9_node 14 = .ok (.invokestatic 96, 3) := by decide +kernel
theorem dX9_node_17 : decode cX9_node 17 = .ok (.ifCond .ne 5, 3) := by decide +kernel
theorem dX9_node_20 : decode cX9_node 20 = .ok (.iconst (-1), 1) := by decide +kernel
theorem dX9_node_21 : decode cX9_node 21 = .ok (.ireturn, 1) := by decide +kernel
theorem dX9_node_22 : decode cX9_node 22 = .ok (.aload_n 0, 1) := by decide +kernel
theorem dX9_node_23 : decode cX9_node 23 = .ok (.iload_n 1, 1) := by decide +kernel
theorem dX9_node_24 : decode cX9_node 24 = .ok (.iload_n 2, 1) := by decide +kernel
theorem dX9_node_25 : decode cX9_node 25 = .ok (.invokevirtual 140, 3) := by decide +kernel
theorem dX9_node_28 : decode cX9_node 28 = .ok (.iload_n 3, 1) := by decide +kernel
theorem dX9_node_29 : decode cX9_node 29 = .ok (.ifCond .ne 10, 3) := by decide +kernel
theorem dX9_node_32 : decode cX9_node 32 = .ok (.aload_n 0, 1) := by decide +kernel
theorem dX9_node_33 : decode cX9_node 33 = .ok (.getfield 131, 3) := by decide +kernel
theorem dX9_node_36 : decode cX9_node 36 = .ok (.goto 28, 3) := by decide +kernel
theorem dX9_node_39 : decode cX9_node 39 = .ok (.iload_n 3, 1) := by decide +kernel
theorem dX9_node_40 : decode cX9_node 40 = .ok (.iconst 1, 1) := by decide +kernel
theorem dX9_node_41 : decode cX9_node 41 = .ok (.if_icmp .ne 10, 3) := by decide +kernel
theorem dX9_node_44 : decode cX9_node 44 = .ok (.aload_n 0, 1) := by decide +kernel
theorem dX9_node_45 : decode cX9_node 45 = .ok (.getfield 134, 3) := by decide +kernel
theorem dX9_node_48 : decode cX9_node 48 = .ok (.goto 16, 3) := by decide +kernel
theorem dX9_node_51 : decode cX9_node 51 = .ok (.iload_n 3, 1) := by decide +kernel
theorem dX9_node_52 : decode cX9_node 52 = .ok (.iconst 2, 1) := by decide +kernel
theorem dX9_node_53 : decode cX9_node 53 = .ok (.if_icmp .ne 10, 3) := by decide +kernel
theorem dX9_node_56 : decode cX9_node 56 = .ok (.aload_n 0, 1) := by decide +kernel
theorem dX9_node_57 : decode cX9_node 57 = .ok (.getfield 137, 3) := by decide +kernel
theorem dX9_node_60 : decode cX9_node 60 = .ok (.goto 4, 3) := by decide +kernel
theorem dX9_node_63 : decode cX9_node 63 = .ok (.iconst (-1), 1) := by decide +kernel
theorem dX9_node_64 : decode cX9_node 64 = .ok (.ireturn, 1) := by decide +kernel
set_option maxRecDepth 20000 in
theorem ggX9_order_X9_joins : GoodIn wsX9_order wsX9_joins := goodIn_r _ [7, 8, 9, 10, 11, 12, 13, 14, 15, 16, 17, 1, 2, 18, 19, 20, 6, 21, 22, 23, 24, 25, 26, 27, 28, 29, 30, 31, 32, 33, 34, 35, 36, 37, 38, 39, 40, 41, 42, 43, 44, 45, 46, 47, 48, 49, 50, 51, 52, 53, 54, 55, 56, 57, 58, 59, 60, 61, 62, 63, 64, 65, 66, 70, 71, 72, 73, 74, 75, 76, 77, 78, 79, 80, 81, 82, 83, 84, 85, 86, 87, 88, 89, 90, 91, 92, 93, 94, 95, 96, 97, 98, 99, 100, 101, 102, 103, 104, 105, 106] (by decide +kernel) (by decide +kernel)
set_option maxRecDepth 20000 in
theorem gX9_order_X9_joins : GoodIn wsX9_order (wsV RX9 174 RX9 yX9_joins wsX9_joins) := goodIn_app (goodIn_of _ (by decide +kernel)) ggX9_order_X9_joins
set_option maxRecDepth 20000 in
theorem ggX9_order_X9_isIn : GoodIn wsX9_order wsX9_isIn := goodIn_r _ [69] (by decide +kernel) (by decide +kernel)
set_option maxRecDepth 20000 in
theorem gX9_order_X9_isIn : GoodIn wsX9_order (va_wsS RX9 96 yX9_isIn wsX9_isIn) := goodIn_app (goodIn_of _ (by decide +kernel)) ggX9_order_X9_isIn
theorem dX9_order_0 : decode cX9_order 0 = .ok (.aload_n 0, 1) := by decide +kernel
theorem dX9_order_1 : decode cX9_order 1 = .ok (.invokevirtual 174, 3) := by decide +kernel
theorem dX9_order_4 : decode cX9_order 4 = .ok (.iload_n 1, 1) := by decide +kernel
theorem dX9_order_5 : decode cX9_order 5 = .ok (.iconst 0, 1) := by decide +kernel
theorem dX9_order_6 : decode cX9_order 6 = .ok (.aload_n 0, 1) := by decide +kernel
theorem dX9_order_7 : decode cX9_order 7 = .ok (.getfield 165, 3) := by decide +kernel
theorem dX9_order_10 : decode cX9_order 10 = .ok (.iconst 1, 1) := by decide +kernel
theorem dX9_order_11 : decode cX9_order 11 = .ok (.isub, 1) := by decide +kernel
theorem dX9_order_12 : decode cX9_order 12 = .ok (.invokestatic 96, 3) := by decide +kernel
theorem dX9_order_15 : decode cX9_order 15 = .ok (.ifCond .eq 12, 3) := by decide +kernel
theorem dX9_order_18 : decode cX9_order 18 = .ok (.aload_n 0, 1) := by decide +kernel
theorem dX9_order_19 : decode cX9_order 19 = .ok (.getfield 78, 3) := by decide +kernel
theorem dX9_order_22 : decode cX9_order 22 = .ok (.iload_n 1, 1) := by decide +kernel
theorem dX9_order_23 : decode cX9_order 23 = .ok (.iaload, 1) := by decide +kernel
theorem dX9_order_24 : decode cX9_order 24 = .ok (.goto 4, 3) := by decide +kernel
theorem dX9_order_27 : decode cX9_order 27 = .ok (.iconst (-1), 1) := by decide +kernel
theorem dX9_order_28 : decode cX9_order 28 = .ok (.ireturn, 1) := by decide +kernel
set_option maxRecDepth 20000 in
theorem ggX9_plan_X9_isPlan : GoodIn wsX9_plan wsX9_isPlan := goodIn_r _ [6, 7, 8, 5, 9] (by decide +kernel) (by decide +kernel)
set_option maxRecDepth 20000 in
theorem gX9_plan_X9_isPlan : GoodIn wsX9_plan (va_wsS RX9 189 yX9_isPlan wsX9_isPlan) := goodIn_app (goodIn_of _ (by decide +kernel)) ggX9_plan_X9_isPlan
set_option maxRecDepth 20000 in
theorem ggX9_plan_X9_plans : GoodIn wsX9_plan wsX9_plans := goodIn_r _ [13, 1, 14, 15, 16, 2, 17, 18, 19, 20, 21, 22, 5, 23, 24, 25, 26, 27, 28, 29, 30, 31, 32, 33, 34, 35, 36, 37, 38, 39, 40, 41, 42, 43, 44, 45, 46, 47, 48, 49, 50, 51, 52, 53, 54, 55, 56, 57, 58, 59, 60, 61, 62, 63, 64, 65, 66, 67, 68, 69, 70, 71, 72, 73, 74, 75, 76, 77, 78, 79, 80, 81, 82, 83, 84, 85, 86, 87, 88, 89, 90, 91, 92, 93, 94, 95, 96, 97, 98, 99, 100, 101, 102, 103, 104, 105, 106, 107, 108, 109, 110, 111, 112, 113, 114, 115, 116, 117, 118, 119, 120, 121, 122, 123, 124, 125, 126, 127, 128, 129, 130, 131, 132, 133, 134, 135] (by decide +kernel) (by decide +kernel)
set_option maxRecDepth 20000 in
theorem gX9_plan_X9_plans : GoodIn wsX9_plan (wsV RX9 192 RX9 yX9_plans wsX9_plans) := goodIn_app (goodIn_of _ (by decide +kernel)) ggX9_plan_X9_plans
set_option maxRecDepth 20000 in
theorem ggX9_plan_X9_isIn : GoodIn wsX9_plan wsX9_isIn := goodIn_r _ [9] (by decide +kernel) (by decide +kernel)
set_option maxRecDepth 20000 in
theorem gX9_plan_X9_isIn : GoodIn wsX9_plan (va_wsS RX9 96 yX9_isIn wsX9_isIn) := goodIn_app (goodIn_of _ (by decide +kernel)) ggX9_plan_X9_isIn
theorem dX9_plan_0 : decode cX9_plan 0 = .ok (.iload_n 1, 1) := by decide +kernel
theorem dX9_plan_1 : decode cX9_plan 1 = .ok (.invokestatic 189, 3) := by decide +kernel
theorem dX9_plan_4 : decode cX9_plan 4 = .ok (.ifCond .ne 5, 3) := by decide +kernel
theorem dX9_plan_7 : decode cX9_plan 7 = .ok (.iconst (-1), 1) := by decide +kernel
theorem dX9_plan_8 : decode cX9_plan 8 = .ok (.ireturn, 1) := by decide +kernel
theorem dX9_plan_9 : decode cX9_plan 9 = .ok (.aload_n 0, 1) := by decide +kernel
theorem dX9_plan_10 : decode cX9_plan 10 = .ok (.iload_n 1, 1) := by decide +kernel
theorem dX9_plan_11 : decode cX9_plan 11 = .ok (.invokevirtual 192, 3) := by decide +kernel
theorem dX9_plan_14 : decode cX9_plan 14 = .ok (.iload_n 2, 1) := by decide +kernel
theorem dX9_plan_15 : decode cX9_plan 15 = .ok (.iconst (-1), 1) := by decide +kernel
theorem dX9_plan_16 : decode cX9_plan 16 = .ok (.if_icmp .ne 10, 3) := by decide +kernel
theorem dX9_plan_19 : decode cX9_plan 19 = .ok (.aload_n 0, 1) := by decide +kernel
theorem dX9_plan_20 : decode cX9_plan 20 = .ok (.getfield 183, 3) := by decide +kernel
theorem dX9_plan_23 : decode cX9_plan 23 = .ok (.goto 27, 3) := by decide +kernel
theorem dX9_plan_26 : decode cX9_plan 26 = .ok (.iload_n 2, 1) := by decide +kernel
theorem dX9_plan_27 : decode cX9_plan 27 = .ok (.iconst 0, 1) := by decide +kernel
theorem dX9_plan_28 : decode cX9_plan 28 = .ok (.aload_n 0, 1) := by decide +kernel
theorem dX9_plan_29 : decode cX9_plan 29 = .ok (.getfield 183, 3) := by decide +kernel
theorem dX9_plan_32 : decode cX9_plan 32 = .ok (.iconst 1, 1) := by decide +kernel
theorem dX9_plan_33 : decode cX9_plan 33 = .ok (.isub, 1) := by decide +kernel
theorem dX9_plan_34 : decode cX9_plan 34 = .ok (.invokestatic 96, 3) := by decide +kernel
theorem dX9_plan_37 : decode cX9_plan 37 = .ok (.ifCond .eq 12, 3) := by decide +kernel
theorem dX9_plan_40 : decode cX9_plan 40 = .ok (.aload_n 0, 1) := by decide +kernel
theorem dX9_plan_41 : decode cX9_plan 41 = .ok (.getfield 81, 3) := by decide +kernel
theorem dX9_plan_44 : decode cX9_plan 44 = .ok (.iload_n 2, 1) := by decide +kernel
theorem dX9_plan_45 : decode cX9_plan 45 = .ok (.iaload, 1) := by decide +kernel
theorem dX9_plan_46 : decode cX9_plan 46 = .ok (.goto 4, 3) := by decide +kernel
theorem dX9_plan_49 : decode cX9_plan 49 = .ok (.iconst (-1), 1) := by decide +kernel
theorem dX9_plan_50 : decode cX9_plan 50 = .ok (.ireturn, 1) := by decide +kernel
set_option maxRecDepth 20000 in
theorem ggX9_count_X9_one : GoodIn wsX9_count wsX9_one := goodIn_r _ [10] (by decide +kernel) (by decide +kernel)
set_option maxRecDepth 20000 in
theorem gX9_count_X9_one : GoodIn wsX9_count (va_wsS RX9 107 yX9_one wsX9_one) := goodIn_app (goodIn_of _ (by decide +kernel)) ggX9_count_X9_one
set_option maxRecDepth 20000 in
theorem ggX9_count_X9_joins : GoodIn wsX9_count wsX9_joins := goodIn_r _ [14, 2, 15, 16, 17, 18, 19, 20, 21, 22, 23, 4, 24, 25, 26, 27, 9, 28, 3, 29, 30, 31, 32, 33, 34, 35, 36, 37, 38, 39, 40, 41, 42, 43, 44, 45, 46, 47, 48, 7, 8, 10, 49, 50, 51, 52, 53, 54, 55, 56, 57, 58, 59, 60, 61, 62, 6, 63, 64, 65, 66, 67, 68, 69, 70, 71, 72, 73, 74, 75, 76, 77, 78, 79, 80, 81, 82, 83, 84, 85, 86, 87, 88, 89, 90, 91, 92, 93, 94, 95, 96, 97, 98, 99, 100, 101, 102, 103, 104, 105] (by decide +kernel) (by decide +kernel)
set_option maxRecDepth 20000 in
theorem gX9_count_X9_joins : GoodIn wsX9_count (wsV RX9 174 RX9 yX9_joins wsX9_joins) := goodIn_app (goodIn_of _ (by decide +kernel)) ggX9_count_X9_joins
theorem dX9_count_0 : decode cX9_count 0 = .ok (.iload_n 1, 1) := by decide +kernel
theorem dX9_count_1 : decode cX9_count 1 = .ok (.tableswitch 108 0 5 #[39, 44, 49, 89, 98, 103], 39) := by decide +kernel
theorem dX9_count_40 : decode cX9_count 40 = .ok (.aload_n 0, 1) := by decide +kernel
theorem dX9_count_41 : decode cX9_count 41 = .ok (.getfield 100, 3) := by decide +kernel
theorem dX9_count_44 : decode cX9_count 44 = .ok (.ireturn, 1) := by decide +kernel
theorem dX9_count_45 : decode cX9_count 45 = .ok (.aload_n 0, 1) := by decide +kernel
theorem dX9_count_46 : decode cX9_count 46 = .ok (.getfield 93, 3) := by decide +kernel
theorem dX9_count_49 : decode cX9_count 49 = .ok (.ireturn, 1) := by decide +kernel
theorem dX9_count_50 : decode cX9_count 50 = .ok (.iconst 0, 1) := by decide +kernel
theorem dX9_count_51 : decode cX9_count 51 = .ok (.istore_n 2, 1) := by decide +kernel
theorem dX9_count_52 : decode cX9_count 52 = .ok (.iconst 0, 1) := by decide +kernel
theorem dX9_count_53 : decode cX9_count 53 = .ok (.istore_n 3, 1) := by decide +kernel
theorem dX9_count_54 : decode cX9_count 54 = .ok (.iload_n 3, 1) := by decide +kernel
theorem dX9_count_55 : decode cX9_count 55 = .ok (.aload_n 0, 1) := by decide +kernel
theorem dX9_count_56 : decode cX9_count 56 = .ok (.getfield 93, 3) := by decide +kernel
theorem dX9_count_59 : decode cX9_count 59 = .ok (.if_icmp .ge 29, 3) := by decide +kernel
theorem dX9_count_62 : decode cX9_count 62 = .ok (.iload_n 2, 1) := by decide +kernel
theorem dX9_count_63 : decode cX9_count 63 = .ok (.aload_n 0, 1) := by decide +kernel
theorem dX9_count_64 : decode cX9_count 64 = .ok (.getfield 38, 3) := by decide +kernel
theorem dX9_count_67 : decode cX9_count 67 = .ok (.iload_n 3, 1) := by decide +kernel
theorem dX9_count_68 : decode cX9_count 68 = .ok (.iaload, 1) := by decide +kernel
theorem dX9_count_69 : decode cX9_count 69 = .ok (.ifCond .ne 7, 3) := by decide +kernel
theorem dX9_count_72 : decode cX9_count 72 = .ok (.iconst 1, 1) := by decide +kernel
theorem dX9_count_73 : decode cX9_count 73 = .ok (.goto 4, 3) := by decide +kernel
theorem dX9_count_76 : decode cX9_count 76 = .ok (.iconst 0, 1) := by decide +kernel
theorem dX9_count_77 : decode cX9_count 77 = .ok (.invokestatic 107, 3) := by decide +kernel
theorem dX9_count_80 : decode cX9_count 80 = .ok (.iadd, 1) := by decide +kernel
theorem dX9_count_81 : decode cX9_count 81 = .ok (.istore_n 2, 1) := by decide +kernel
theorem dX9_count_82 : decode cX9_count 82 = .ok (.iinc 3 1, 3) := by decide +kernel
theorem dX9_count_85 : decode cX9_count 85 = .ok (.goto (-31), 3) := by decide +kernel
theorem dX9_count_88 : decode cX9_count 88 = .ok (.iload_n 2, 1) := by decide +kernel
theorem dX9_count_89 : decode cX9_count 89 = .ok (.ireturn, 1) := by decide +kernel
theorem dX9_count_90 : decode cX9_count 90 = .ok (.aload_n 0, 1) := by decide +kernel
theorem dX9_count_91 : decode cX9_count 91 = .ok (.invokevirtual 174, 3) := by decide +kernel
theorem dX9_count_94 : decode cX9_count 94 = .ok (.aload_n 0, 1) := by decide +kernel
theorem dX9_count_95 : decode cX9_count 95 = .ok (.getfield 165, 3) := by decide +kernel
theorem dX9_count_98 : decode cX9_count 98 = .ok (.ireturn, 1) := by decide +kernel
theorem dX9_count_99 : decode cX9_count 99 = .ok (.aload_n 0, 1) := by decide +kernel
theorem dX9_count_100 : decode cX9_count 100 = .ok (.getfield 111, 3) := by decide +kernel
theorem dX9_count_103 : decode cX9_count 103 = .ok (.ireturn, 1) := by decide +kernel
theorem dX9_count_104 : decode cX9_count 104 = .ok (.aload_n 0, 1) := by decide +kernel
theorem dX9_count_105 : decode cX9_count 105 = .ok (.getfield 124, 3) := by decide +kernel
theorem dX9_count_108 : decode cX9_count 108 = .ok (.ireturn, 1) := by decide +kernel
theorem dX9_count_109 : decode cX9_count 109 = .ok (.iconst (-1), 1) := by decide +kernel
theorem dX9_count_110 : decode cX9_count 110 = .ok (.ireturn, 1) := by decide +kernel
