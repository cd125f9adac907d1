set_option maxRecDepth 20000 in
theorem ggX9_counts_X9_one : GoodIn wsX9_counts wsX9_one := goodIn_r _ [10] (by decide +kernel) (by decide +kernel)
set_option maxRecDepth 20000 in
theorem gX9_counts_X9_one : GoodIn wsX9_counts (va_wsS RX9 107 yX9_one wsX9_one) := goodIn_app (goodIn_of _ (by decide +kernel)) ggX9_counts_X9_one
theorem dX9_counts_0 : decode cX9_counts 0 = .ok (.aload_n 0, 1) := by decide +kernel
theorem dX9_counts_1 : decode cX9_counts 1 = .ok (.iconst 0, 1) := by decide +kernel
theorem dX9_counts_2 : decode cX9_counts 2 = .ok (.putfield 131, 3) := by decide +kernel
theorem dX9_counts_5 : decode cX9_counts 5 = .ok (.aload_n 0, 1) := by decide +kernel
theorem dX9_counts_6 : decode cX9_counts 6 = .ok (.iconst 0, 1) := by decide +kernel
theorem dX9_counts_7 : decode cX9_counts 7 = .ok (.putfield 134, 3) := by decide +kernel
theorem dX9_counts_10 : decode cX9_counts 10 = .ok (.aload_n 0, 1) := by decide +kernel
theorem dX9_counts_11 : decode cX9_counts 11 = .ok (.iconst 0, 1) := by decide +kernel
theorem dX9_counts_12 : decode cX9_counts 12 = .ok (.putfield 137, 3) := by decide +kernel
theorem dX9_counts_15 : decode cX9_counts 15 = .ok (.iconst 3, 1) := by decide +kernel
theorem dX9_counts_16 : decode cX9_counts 16 = .ok (.iconst 4, 1) := by decide +kernel
theorem dX9_counts_17 : decode cX9_counts 17 = .ok (.iload_n 1, 1) := by decide +kernel
theorem dX9_counts_18 : decode cX9_counts 18 = .ok (.isub, 1) := by decide +kernel
theorem dX9_counts_19 : decode cX9_counts 19 = .ok (.imul, 1) := by decide +kernel
theorem dX9_counts_20 : decode cX9_counts 20 = .ok (.istore_n 3, 1) := by decide +kernel
theorem dX9_counts_21 : decode cX9_counts 21 = .ok (.iconst 0, 1) := by decide +kernel
theorem dX9_counts_22 : decode cX9_counts 22 = .ok (.istore 4, 2) := by decide +kernel
theorem dX9_counts_24 : decode cX9_counts 24 = .ok (.iload 4, 2) := by decide +kernel
theorem dX9_counts_26 : decode cX9_counts 26 = .ok (.aload_n 0, 1) := by decide +kernel
theorem dX9_counts_27 : decode cX9_counts 27 = .ok (.getfield 93, 3) := by decide +kernel
theorem dX9_counts_30 : decode cX9_counts 30 = .ok (.if_icmp .ge 109, 3) := by decide +kernel
theorem dX9_counts_33 : decode cX9_counts 33 = .ok (.aload_n 0, 1) := by decide +kernel
theorem dX9_counts_34 : decode cX9_counts 34 = .ok (.getfield 29, 3) := by decide +kernel
theorem dX9_counts_37 : decode cX9_counts 37 = .ok (.iload 4, 2) := by decide +kernel
theorem dX9_counts_39 : decode cX9_counts 39 = .ok (.iaload, 1) := by decide +kernel
theorem dX9_counts_40 : decode cX9_counts 40 = .ok (.iload_n 3, 1) := by decide +kernel
theorem dX9_counts_41 : decode cX9_counts 41 = .ok (.ishr, 1) := by decide +kernel
theorem dX9_counts_42 : decode cX9_counts 42 = .ok (.iload_n 2, 1) := by decide +kernel
theorem dX9_counts_43 : decode cX9_counts 43 = .ok (.iload_n 3, 1) := by decide +kernel
theorem dX9_counts_44 : decode cX9_counts 44 = .ok (.ishr, 1) := by decide +kernel
theorem dX9_counts_45 : decode cX9_counts 45 = .ok (.if_icmp .eq 6, 3) := by decide +kernel
theorem dX9_counts_48 : decode cX9_counts 48 = .ok (.goto 85, 3) := by decide +kernel
theorem dX9_counts_51 : decode cX9_counts 51 = .ok (.aload_n 0, 1) := by decide +kernel
theorem dX9_counts_52 : decode cX9_counts 52 = .ok (.dup, 1) := by decide +kernel
theorem dX9_counts_53 : decode cX9_counts 53 = .ok (.getfield 131, 3) := by decide +kernel
theorem dX9_counts_56 : decode cX9_counts 56 = .ok (.aload_n 0, 1) := by decide +kernel
theorem dX9_counts_57 : decode cX9_counts 57 = .ok (.getfield 38, 3) := by decide +kernel
theorem dX9_counts_60 : decode cX9_counts 60 = .ok (.iload 4, 2) := by decide +kernel
theorem dX9_counts_62 : decode cX9_counts 62 = .ok (.iaload, 1) := by decide +kernel
theorem dX9_counts_63 : decode cX9_counts 63 = .ok (.iconst 1, 1) := by decide +kernel
theorem dX9_counts_64 : decode cX9_counts 64 = .ok (.if_icmp .ne 7, 3) := by decide +kernel
theorem dX9_counts_67 : decode cX9_counts 67 = .ok (.iconst 1, 1) := by decide +kernel
theorem dX9_counts_68 : decode cX9_counts 68 = .ok (.goto 4, 3) := by decide +kernel
theorem dX9_counts_71 : decode cX9_counts 71 = .ok (.iconst 0, 1) := by decide +kernel
theorem dX9_counts_72 : decode cX9_counts 72 = .ok (.invokestatic 107, 3) := by decide +kernel
theorem dX9_counts_75 : decode cX9_counts 75 = .ok (.iadd, 1) := by decide +kernel
theorem dX9_counts_76 : decode cX9_counts 76 = .ok (.putfield 131, 3) := by decide +kernel
theorem dX9_counts_79 : decode cX9_counts 79 = .ok (.aload_n 0, 1) := by decide +kernel
theorem dX9_counts_80 : decode cX9_counts 80 = .ok (.dup, 1) := by decide +kernel
theorem dX9_counts_81 : decode cX9_counts 81 = .ok (.getfield 134, 3) := by decide +kernel
theorem dX9_counts_84 : decode cX9_counts 84 = .ok (.aload_n 0, 1) := by decide +kernel
theorem dX9_counts_85 : decode cX9_counts 85 = .ok (.getfield 38, 3) := by decide +kernel
theorem dX9_counts_88 : decode cX9_counts 88 = .ok (.iload 4, 2) := by decide +kernel
theorem dX9_counts_90 : decode cX9_counts 90 = .ok (.iaload, 1) := by decide +kernel
theorem dX9_counts_91 : decode cX9_counts 91 = .ok (.ifCond .eq 7, 3) := by decide +kernel
theorem dX9_counts_94 : decode cX9_counts 94 = .ok (.iconst 1, 1) := by decide +kernel
theorem dX9_counts_95 : decode cX9_counts 95 = .ok (.goto 4, 3) := by decide +kernel
theorem dX9_counts_98 : decode cX9_counts 98 = .ok (.iconst 0, 1) := by decide +kernel
theorem dX9_counts_99 : decode cX9_counts 99 = .ok (.invokestatic 107, 3) := by decide +kernel
theorem dX9_counts_102 : decode cX9_counts 102 = .ok (.iadd, 1) := by decide +kernel
theorem dX9_counts_103 : decode cX9_counts 103 = .ok (.putfield 134, 3) := by decide +kernel
theorem dX9_counts_106 : decode cX9_counts 106 = .ok (.aload_n 0, 1) := by decide +kernel
theorem dX9_counts_107 : decode cX9_counts 107 = .ok (.dup, 1) := by decide +kernel
theorem dX9_counts_108 : decode cX9_counts 108 = .ok (.getfield 137, 3) := by decide +kernel
theorem dX9_counts_111 : decode cX9_counts 111 = .ok (.aload_n 0, 1) := by decide +kernel
theorem dX9_counts_112 : decode cX9_counts 112 = .ok (.getfield 38, 3) := by decide +kernel
theorem dX9_counts_115 : decode cX9_counts 115 = .ok (.iload 4, 2) := by decide +kernel
theorem dX9_counts_117 : decode cX9_counts 117 = .ok (.iaload, 1) := by decide +kernel
theorem dX9_counts_118 : decode cX9_counts 118 = .ok (.ifCond .ne 7, 3) := by decide +kernel
theorem dX9_counts_121 : decode cX9_counts 121 = .ok (.iconst 1, 1) := by decide +kernel
theorem dX9_counts_122 : decode cX9_counts 122 = .ok (.goto 4, 3) := by decide +kernel
theorem dX9_counts_125 : decode cX9_counts 125 = .ok (.iconst 0, 1) := by decide +kernel
theorem dX9_counts_126 : decode cX9_counts 126 = .ok (.invokestatic 107, 3) := by decide +kernel
theorem dX9_counts_129 : decode cX9_counts 129 = .ok (.iadd, 1) := by decide +kernel
theorem dX9_counts_130 : decode cX9_counts 130 = .ok (.putfield 137, 3) := by decide +kernel
theorem dX9_counts_133 : decode cX9_counts 133 = .ok (.iinc 4 1, 3) := by decide +kernel
theorem dX9_counts_136 : decode cX9_counts 136 = .ok (.goto (-112), 3) := by decide +kernel
theorem dX9_counts_139 : decode cX9_counts 139 = .ok (.return_, 1) := by decide +kernel
set_option maxRecDepth 20000 in
theorem ggX9_depth_X9_counts : GoodIn wsX9_depth wsX9_counts := goodIn_r _ [8, 9, 2, 10, 11, 1, 12, 13, 14, 7, 15, 16, 17, 18, 19, 20, 21, 22, 23, 24, 25, 26, 27, 28, 29, 30, 31, 32, 33, 34, 35, 36, 37, 38, 39, 40, 41, 42, 43, 44, 45, 46, 47, 48, 49, 50, 51, 52] (by decide +kernel) (by decide +kernel)
set_option maxRecDepth 20000 in
theorem gX9_depth_X9_counts : GoodIn wsX9_depth (wsV RX9 140 RX9 yX9_counts wsX9_counts) := goodIn_app (goodIn_of _ (by decide +kernel)) ggX9_depth_X9_counts
theorem dX9_depth_0 : decode cX9_depth 0 = .ok (.iconst 4, 1) := by decide +kernel
theorem dX9_depth_1 : decode cX9_depth 1 = .ok (.istore_n 2, 1) := by decide +kernel
theorem dX9_depth_2 : decode cX9_depth 2 = .ok (.aload_n 0, 1) := by decide +kernel
theorem dX9_depth_3 : decode cX9_depth 3 = .ok (.iload_n 2, 1) := by decide +kernel
theorem dX9_depth_4 : decode cX9_depth 4 = .ok (.aload_n 0, 1) := by decide +kernel
theorem dX9_depth_5 : decode cX9_depth 5 = .ok (.getfield 29, 3) := by decide +kernel
theorem dX9_depth_8 : decode cX9_depth 8 = .ok (.iload_n 1, 1) := by decide +kernel
theorem dX9_depth_9 : decode cX9_depth 9 = .ok (.iaload, 1) := by decide +kernel
theorem dX9_depth_10 : decode cX9_depth 10 = .ok (.invokevirtual 140, 3) := by decide +kernel
theorem dX9_depth_13 : decode cX9_depth 13 = .ok (.iload_n 2, 1) := by decide +kernel
theorem dX9_depth_14 : decode cX9_depth 14 = .ok (.ifCond .le 31, 3) := by decide +kernel
theorem dX9_depth_17 : decode cX9_depth 17 = .ok (.aload_n 0, 1) := by decide +kernel
theorem dX9_depth_18 : decode cX9_depth 18 = .ok (.getfield 134, 3) := by decide +kernel
theorem dX9_depth_21 : decode cX9_depth 21 = .ok (.aload_n 0, 1) := by decide +kernel
theorem dX9_depth_22 : decode cX9_depth 22 = .ok (.getfield 13, 3) := by decide +kernel
theorem dX9_depth_25 : decode cX9_depth 25 = .ok (.if_icmp .ge 20, 3) := by decide +kernel
theorem dX9_depth_28 : decode cX9_depth 28 = .ok (.iinc 2 (-1), 3) := by decide +kernel
theorem dX9_depth_31 : decode cX9_depth 31 = .ok (.aload_n 0, 1) := by decide +kernel
theorem dX9_depth_32 : decode cX9_depth 32 = .ok (.iload_n 2, 1) := by decide +kernel
theorem dX9_depth_33 : decode cX9_depth 33 = .ok (.aload_n 0, 1) := by decide +kernel
theorem dX9_depth_34 : decode cX9_depth 34 = .ok (.getfield 29, 3) := by decide +kernel
theorem dX9_depth_37 : decode cX9_depth 37 = .ok (.iload_n 1, 1) := by decide +kernel
theorem dX9_depth_38 : decode cX9_depth 38 = .ok (.iaload, 1) := by decide +kernel
theorem dX9_depth_39 : decode cX9_depth 39 = .ok (.invokevirtual 140, 3) := by decide +kernel
theorem dX9_depth_42 : decode cX9_depth 42 = .ok (.goto (-29), 3) := by decide +kernel
theorem dX9_depth_45 : decode cX9_depth 45 = .ok (.iload_n 2, 1) := by decide +kernel
theorem dX9_depth_46 : decode cX9_depth 46 = .ok (.ireturn, 1) := by decide +kernel
set_option maxRecDepth 20000 in
theorem ggX9_score_X9_depth : GoodIn wsX9_score wsX9_depth := goodIn_r _ [8, 9, 1, 10, 11, 12, 13, 7, 14, 3, 15, 16, 17, 18, 19, 20, 21, 22, 23, 24, 25, 26, 27, 28, 29, 30, 31, 32, 33, 34, 35, 36, 37, 38, 39, 40, 41, 42, 43, 44, 45, 46, 47, 48, 49, 50, 51, 52, 53, 54, 55, 56, 57] (by decide +kernel) (by decide +kernel)
set_option maxRecDepth 20000 in
theorem gX9_score_X9_depth : GoodIn wsX9_score (wsV RX9 144 RX9 yX9_depth wsX9_depth) := goodIn_app (goodIn_of _ (by decide +kernel)) ggX9_score_X9_depth
theorem dX9_score_0 : decode cX9_score 0 = .ok (.aload_n 0, 1) := by decide +kernel
theorem dX9_score_1 : decode cX9_score 1 = .ok (.iload_n 1, 1) := by decide +kernel
theorem dX9_score_2 : decode cX9_score 2 = .ok (.invokevirtual 144, 3) := by decide +kernel
theorem dX9_score_5 : decode cX9_score 5 = .ok (.pop, 1) := by decide +kernel
theorem dX9_score_6 : decode cX9_score 6 = .ok (.aload_n 0, 1) := by decide +kernel
theorem dX9_score_7 : decode cX9_score 7 = .ok (.getfield 134, 3) := by decide +kernel
theorem dX9_score_10 : decode cX9_score 10 = .ok (.ifCond .ne 16, 3) := by decide +kernel
theorem dX9_score_13 : decode cX9_score 13 = .ok (.sipush 500, 3) := by decide +kernel
theorem dX9_score_16 : decode cX9_score 16 = .ok (.aload_n 0, 1) := by decide +kernel
theorem dX9_score_17 : decode cX9_score 17 = .ok (.getfield 32, 3) := by decide +kernel
theorem dX9_score_20 : decode cX9_score 20 = .ok (.iload_n 1, 1) := by decide +kernel
theorem dX9_score_21 : decode cX9_score 21 = .ok (.iaload, 1) := by decide +kernel
theorem dX9_score_22 : decode cX9_score 22 = .ok (.imul, 1) := by decide +kernel
theorem dX9_score_23 : decode cX9_score 23 = .ok (.goto 23, 3) := by decide +kernel
theorem dX9_score_26 : decode cX9_score 26 = .ok (.sipush 1000, 3) := by decide +kernel
theorem dX9_score_29 : decode cX9_score 29 = .ok (.aload_n 0, 1) := by decide +kernel
theorem dX9_score_30 : decode cX9_score 30 = .ok (.getfield 32, 3) := by decide +kernel
theorem dX9_score_33 : decode cX9_score 33 = .ok (.iload_n 1, 1) := by decide +kernel
theorem dX9_score_34 : decode cX9_score 34 = .ok (.iaload, 1) := by decide +kernel
theorem dX9_score_35 : decode cX9_score 35 = .ok (.imul, 1) := by decide +kernel
theorem dX9_score_36 : decode cX9_score 36 = .ok (.aload_n 0, 1) := by decide +kernel
theorem dX9_score_37 : decode cX9_score 37 = .ok (.getfield 131, 3) := by decide +kernel
theorem dX9_score_40 : decode cX9_score 40 = .ok (.imul, 1) := by decide +kernel
theorem dX9_score_41 : decode cX9_score 41 = .ok (.aload_n 0, 1) := by decide +kernel
theorem dX9_score_42 : decode cX9_score 42 = .ok (.getfield 134, 3) := by decide +kernel
theorem dX9_score_45 : decode cX9_score 45 = .ok (.idiv, 1) := by decide +kernel
theorem dX9_score_46 : decode cX9_score 46 = .ok (.ireturn, 1) := by decide +kernel
set_option maxRecDepth 20000 in
theorem ggX9_isLittleKnown_X9_depth : GoodIn wsX9_isLittleKnown wsX9_depth := goodIn_r _ [7, 8, 9, 10, 11, 12, 13, 6, 14, 15, 16, 1, 17, 18, 19, 20, 21, 22, 23, 24, 25, 26, 27, 28, 29, 30, 31, 32, 33, 34, 35, 36, 37, 38, 39, 40, 41, 42, 43, 44, 45, 46, 47, 48, 49, 50, 51, 52, 53, 54, 55, 56, 57] (by decide +kernel) (by decide +kernel)
set_option maxRecDepth 20000 in
theorem gX9_isLittleKnown_X9_depth : GoodIn wsX9_isLittleKnown (wsV RX9 144 RX9 yX9_depth wsX9_depth) := goodIn_app (goodIn_of _ (by decide +kernel)) ggX9_isLittleKnown_X9_depth
theorem dX9_isLittleKnown_0 : decode cX9_isLittleKnown 0 = .ok (.iload_n 1, 1) := by decide +kernel
theorem dX9_isLittleKnown_1 : decode cX9_isLittleKnown 1 = .ok (.istore_n 2, 1) := by decide +kernel
theorem dX9_isLittleKnown_2 : decode cX9_isLittleKnown 2 = .ok (.iload_n 2, 1) := by decide +kernel
theorem dX9_isLittleKnown_3 : decode cX9_isLittleKnown 3 = .ok (.aload_n 0, 1) := by decide +kernel
theorem dX9_isLittleKnown_4 : decode cX9_isLittleKnown 4 = .ok (.getfield 93, 3) := by decide +kernel
theorem dX9_isLittleKnown_7 : decode cX9_isLittleKnown 7 = .ok (.if_icmp .ge 29, 3) := by decide +kernel
theorem dX9_isLittleKnown_10 : decode cX9_isLittleKnown 10 = .ok (.aload_n 0, 1) := by decide +kernel
theorem dX9_isLittleKnown_11 : decode cX9_isLittleKnown 11 = .ok (.getfield 72, 3) := by decide +kernel
theorem dX9_isLittleKnown_14 : decode cX9_isLittleKnown 14 = .ok (.iload_n 2, 1) := by decide +kernel
theorem dX9_isLittleKnown_15 : decode cX9_isLittleKnown 15 = .ok (.iaload, 1) := by decide +kernel
theorem dX9_isLittleKnown_16 : decode cX9_isLittleKnown 16 = .ok (.iload_n 1, 1) := by decide +kernel
theorem dX9_isLittleKnown_17 : decode cX9_isLittleKnown 17 = .ok (.if_icmp .ne 13, 3) := by decide +kernel
theorem dX9_isLittleKnown_20 : decode cX9_isLittleKnown 20 = .ok (.aload_n 0, 1) := by decide +kernel
theorem dX9_isLittleKnown_21 : decode cX9_isLittleKnown 21 = .ok (.iload_n 2, 1) := by decide +kernel
theorem dX9_isLittleKnown_22 : decode cX9_isLittleKnown 22 = .ok (.invokevirtual 144, 3) := by decide +kernel
theorem dX9_isLittleKnown_25 : decode cX9_isLittleKnown 25 = .ok (.ifCond .ne 5, 3) := by decide +kernel
theorem dX9_isLittleKnown_28 : decode cX9_isLittleKnown 28 = .ok (.iconst 1, 1) := by decide +kernel
theorem dX9_isLittleKnown_29 : decode cX9_isLittleKnown 29 = .ok (.ireturn, 1) := by decide +kernel
theorem dX9_isLittleKnown_30 : decode cX9_isLittleKnown 30 = .ok (.iinc 2 1, 3) := by decide +kernel
theorem dX9_isLittleKnown_33 : decode cX9_isLittleKnown 33 = .ok (.goto (-31), 3) := by decide +kernel
theorem dX9_isLittleKnown_36 : decode cX9_isLittleKnown 36 = .ok (.iconst 0, 1) := by decide +kernel
theorem dX9_isLittleKnown_37 : decode cX9_isLittleKnown 37 = .ok (.ireturn, 1) := by decide +kernel
