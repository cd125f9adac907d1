set_option maxRecDepth 20000 in
theorem ggX9_odds_X9_isAlarm : GoodIn wsX9_odds wsX9_isAlarm := goodIn_r _ [8, 9, 10, 11, 7, 12, 27, 28, 29, 30, 31, 32, 33, 34, 35, 36, 37, 38, 39, 40, 41, 42, 43, 44, 45, 46, 47, 48, 49, 50, 51, 52, 53, 54, 55, 56, 57, 58, 59, 60, 61, 62, 63] (by decide +kernel) (by decide +kernel)
set_option maxRecDepth 20000 in
theorem gX9_odds_X9_isAlarm : GoodIn wsX9_odds (wsV RX9 117 RX9 yX9_isAlarm wsX9_isAlarm) := goodIn_app (goodIn_of _ (by decide +kernel)) ggX9_odds_X9_isAlarm
set_option maxRecDepth 20000 in
theorem ggX9_odds_X9_isIn : GoodIn wsX9_odds wsX9_isIn := goodIn_r _ [12] (by decide +kernel) (by decide +kernel)
set_option maxRecDepth 20000 in
theorem gX9_odds_X9_isIn : GoodIn wsX9_odds (va_wsS RX9 96 yX9_isIn wsX9_isIn) := goodIn_app (goodIn_of _ (by decide +kernel)) ggX9_odds_X9_isIn
set_option maxRecDepth 20000 in
theorem ggX9_odds_X9_depth : GoodIn wsX9_odds wsX9_depth := goodIn_r _ [16, 17, 3, 18, 19, 20, 21, 7, 22, 1, 2, 9, 23, 24, 25, 26, 27, 28, 29, 30, 31, 32, 33, 34, 35, 36, 37, 38, 39, 40, 41, 42, 43, 44, 45, 46, 47, 48, 49, 50, 51, 52, 53, 54, 55, 56, 57, 58, 59, 60, 61, 62, 63] (by decide +kernel) (by decide +kernel)
set_option maxRecDepth 20000 in
theorem gX9_odds_X9_depth : GoodIn wsX9_odds (wsV RX9 144 RX9 yX9_depth wsX9_depth) := goodIn_app (goodIn_of _ (by decide +kernel)) ggX9_odds_X9_depth
theorem dX9_odds_0 : decode cX9_odds 0 = .ok (.aload_n 0, 1) := by decide +kernel
theorem dX9_odds_1 : decode cX9_odds 1 = .ok (.iload_n 1, 1) := by decide +kernel
theorem dX9_odds_2 : decode cX9_odds 2 = .ok (.invokevirtual 117, 3) := by decide +kernel
theorem dX9_odds_5 : decode cX9_odds 5 = .ok (.ifCond .eq 12, 3) := by decide +kernel
theorem dX9_odds_8 : decode cX9_odds 8 = .ok (.iload_n 2, 1) := by decide +kernel
theorem dX9_odds_9 : decode cX9_odds 9 = .ok (.iconst 0, 1) := by decide +kernel
theorem dX9_odds_10 : decode cX9_odds 10 = .ok (.iconst 5, 1) := by decide +kernel
theorem dX9_odds_11 : decode cX9_odds 11 = .ok (.invokestatic 96, 3) := by decide +kernel
theorem dX9_odds_14 : decode cX9_odds 14 = .ok (.ifCond .ne 5, 3) := by decide +kernel
theorem dX9_odds_17 : decode cX9_odds 17 = .ok (.iconst (-1), 1) := by decide +kernel
theorem dX9_odds_18 : decode cX9_odds 18 = .ok (.ireturn, 1) := by decide +kernel
theorem dX9_odds_19 : decode cX9_odds 19 = .ok (.aload_n 0, 1) := by decide +kernel
theorem dX9_odds_20 : decode cX9_odds 20 = .ok (.iload_n 1, 1) := by decide +kernel
theorem dX9_odds_21 : decode cX9_odds 21 = .ok (.invokevirtual 144, 3) := by decide +kernel
theorem dX9_odds_24 : decode cX9_odds 24 = .ok (.pop, 1) := by decide +kernel
theorem dX9_odds_25 : decode cX9_odds 25 = .ok (.iload_n 2, 1) := by decide +kernel
theorem dX9_odds_26 : decode cX9_odds 26 = .ok (.iconst 4, 1) := by decide +kernel
theorem dX9_odds_27 : decode cX9_odds 27 = .ok (.if_icmp .ge 10, 3) := by decide +kernel
theorem dX9_odds_30 : decode cX9_odds 30 = .ok (.aload_n 0, 1) := by decide +kernel
theorem dX9_odds_31 : decode cX9_odds 31 = .ok (.getfield 131, 3) := by decide +kernel
theorem dX9_odds_34 : decode cX9_odds 34 = .ok (.goto 12, 3) := by decide +kernel
theorem dX9_odds_37 : decode cX9_odds 37 = .ok (.aload_n 0, 1) := by decide +kernel
theorem dX9_odds_38 : decode cX9_odds 38 = .ok (.getfield 131, 3) := by decide +kernel
theorem dX9_odds_41 : decode cX9_odds 41 = .ok (.aload_n 0, 1) := by decide +kernel
theorem dX9_odds_42 : decode cX9_odds 42 = .ok (.getfield 137, 3) := by decide +kernel
theorem dX9_odds_45 : decode cX9_odds 45 = .ok (.iadd, 1) := by decide +kernel
theorem dX9_odds_46 : decode cX9_odds 46 = .ok (.istore_n 3, 1) := by decide +kernel
theorem dX9_odds_47 : decode cX9_odds 47 = .ok (.iload_n 2, 1) := by decide +kernel
theorem dX9_odds_48 : decode cX9_odds 48 = .ok (.iconst 2, 1) := by decide +kernel
theorem dX9_odds_49 : decode cX9_odds 49 = .ok (.if_icmp .ge 10, 3) := by decide +kernel
theorem dX9_odds_52 : decode cX9_odds 52 = .ok (.aload_n 0, 1) := by decide +kernel
theorem dX9_odds_53 : decode cX9_odds 53 = .ok (.getfield 134, 3) := by decide +kernel
theorem dX9_odds_56 : decode cX9_odds 56 = .ok (.goto 12, 3) := by decide +kernel
theorem dX9_odds_59 : decode cX9_odds 59 = .ok (.aload_n 0, 1) := by decide +kernel
theorem dX9_odds_60 : decode cX9_odds 60 = .ok (.getfield 134, 3) := by decide +kernel
theorem dX9_odds_63 : decode cX9_odds 63 = .ok (.aload_n 0, 1) := by decide +kernel
theorem dX9_odds_64 : decode cX9_odds 64 = .ok (.getfield 137, 3) := by decide +kernel
theorem dX9_odds_67 : decode cX9_odds 67 = .ok (.iadd, 1) := by decide +kernel
theorem dX9_odds_68 : decode cX9_odds 68 = .ok (.istore 4, 2) := by decide +kernel
theorem dX9_odds_70 : decode cX9_odds 70 = .ok (.iload_n 2, 1) := by decide +kernel
theorem dX9_odds_71 : decode cX9_odds 71 = .ok (.iconst 2, 1) := by decide +kernel
theorem dX9_odds_72 : decode cX9_odds 72 = .ok (.if_icmp .ge 15, 3) := by decide +kernel
theorem dX9_odds_75 : decode cX9_odds 75 = .ok (.aload_n 0, 1) := by decide +kernel
theorem dX9_odds_76 : decode cX9_odds 76 = .ok (.getfield 134, 3) := by decide +kernel
theorem dX9_odds_79 : decode cX9_odds 79 = .ok (.ifCond .ne 8, 3) := by decide +kernel
theorem dX9_odds_82 : decode cX9_odds 82 = .ok (.iconst 1, 1) := by decide +kernel
theorem dX9_odds_83 : decode cX9_odds 83 = .ok (.istore_n 3, 1) := by decide +kernel
theorem dX9_odds_84 : decode cX9_odds 84 = .ok (.iconst 2, 1) := by decide +kernel
theorem dX9_odds_85 : decode cX9_odds 85 = .ok (.istore 4, 2) := by decide +kernel
theorem dX9_odds_87 : decode cX9_odds 87 = .ok (.iload_n 3, 1) := by decide +kernel
theorem dX9_odds_88 : decode cX9_odds 88 = .ok (.istore 5, 2) := by decide +kernel
theorem dX9_odds_90 : decode cX9_odds 90 = .ok (.iload 4, 2) := by decide +kernel
theorem dX9_odds_92 : decode cX9_odds 92 = .ok (.istore 6, 2) := by decide +kernel
theorem dX9_odds_94 : decode cX9_odds 94 = .ok (.iload 6, 2) := by decide +kernel
theorem dX9_odds_96 : decode cX9_odds 96 = .ok (.ifCond .le 21, 3) := by decide +kernel
theorem dX9_odds_99 : decode cX9_odds 99 = .ok (.iload 5, 2) := by decide +kernel
theorem dX9_odds_101 : decode cX9_odds 101 = .ok (.iload 6, 2) := by decide +kernel
theorem dX9_odds_103 : decode cX9_odds 103 = .ok (.irem, 1) := by decide +kernel
theorem dX9_odds_104 : decode cX9_odds 104 = .ok (.istore 7, 2) := by decide +kernel
theorem dX9_odds_106 : decode cX9_odds 106 = .ok (.iload 6, 2) := by decide +kernel
theorem dX9_odds_108 : decode cX9_odds 108 = .ok (.istore 5, 2) := by decide +kernel
theorem dX9_odds_110 : decode cX9_odds 110 = .ok (.iload 7, 2) := by decide +kernel
theorem dX9_odds_112 : decode cX9_odds 112 = .ok (.istore 6, 2) := by decide +kernel
theorem dX9_odds_114 : decode cX9_odds 114 = .ok (.goto (-20), 3) := by decide +kernel
theorem dX9_odds_117 : decode cX9_odds 117 = .ok (.iload_n 2, 1) := by decide +kernel
theorem dX9_odds_118 : decode cX9_odds 118 = .ok (.iconst 2, 1) := by decide +kernel
theorem dX9_odds_119 : decode cX9_odds 119 = .ok (.irem, 1) := by decide +kernel
theorem dX9_odds_120 : decode cX9_odds 120 = .ok (.ifCond .ne 10, 3) := by decide +kernel
theorem dX9_odds_123 : decode cX9_odds 123 = .ok (.iload_n 3, 1) := by decide +kernel
theorem dX9_odds_124 : decode cX9_odds 124 = .ok (.iload 5, 2) := by decide +kernel
theorem dX9_odds_126 : decode cX9_odds 126 = .ok (.idiv, 1) := by decide +kernel
theorem dX9_odds_127 : decode cX9_odds 127 = .ok (.goto 8, 3) := by decide +kernel
theorem dX9_odds_130 : decode cX9_odds 130 = .ok (.iload 4, 2) := by decide +kernel
theorem dX9_odds_132 : decode cX9_odds 132 = .ok (.iload 5, 2) := by decide +kernel
theorem dX9_odds_134 : decode cX9_odds 134 = .ok (.idiv, 1) := by decide +kernel
theorem dX9_odds_135 : decode cX9_odds 135 = .ok (.ireturn, 1) := by decide +kernel
set_option maxRecDepth 20000 in
theorem ggX9_told_X9_isAlarm : GoodIn wsX9_told wsX9_isAlarm := goodIn_r _ [17, 18, 19, 20, 16, 21, 81, 82, 83, 84, 85, 86, 87, 88, 89, 90, 91, 92, 93, 94, 95, 96, 97, 98, 99, 100, 101, 102, 103, 104, 105, 106, 107, 108, 109, 110, 111, 112, 113, 114, 115, 116, 117] (by decide +kernel) (by decide +kernel)
set_option maxRecDepth 20000 in
theorem gX9_told_X9_isAlarm : GoodIn wsX9_told (wsV RX9 117 RX9 yX9_isAlarm wsX9_isAlarm) := goodIn_app (goodIn_of _ (by decide +kernel)) ggX9_told_X9_isAlarm
set_option maxRecDepth 20000 in
theorem ggX9_told_X9_one : GoodIn wsX9_told wsX9_one := goodIn_r _ [24] (by decide +kernel) (by decide +kernel)
set_option maxRecDepth 20000 in
theorem gX9_told_X9_one : GoodIn wsX9_told (va_wsS RX9 107 yX9_one wsX9_one) := goodIn_app (goodIn_of _ (by decide +kernel)) ggX9_told_X9_one
set_option maxRecDepth 20000 in
theorem ggX9_told_X9_score : GoodIn wsX9_told wsX9_score := goodIn_r _ [28, 29, 5, 30, 31, 32, 33, 16, 34, 4, 35, 36, 37, 38, 39, 40, 18, 7, 22, 23, 24, 81, 82, 83, 84, 85, 86, 87, 88, 89, 90, 91, 92, 93, 94, 95, 96, 97, 98, 99, 100, 101, 102, 103, 104, 105, 106, 107, 108, 109, 110, 111, 112, 113, 114, 115, 116, 117] (by decide +kernel) (by decide +kernel)
set_option maxRecDepth 20000 in
theorem gX9_told_X9_score : GoodIn wsX9_told (wsV RX9 152 RX9 yX9_score wsX9_score) := goodIn_app (goodIn_of _ (by decide +kernel)) ggX9_told_X9_score
set_option maxRecDepth 20000 in
theorem ggX9_told_X9_depth : GoodIn wsX9_told wsX9_depth := goodIn_r _ [34, 4, 29, 35, 36, 37, 38, 16, 39, 30, 40, 18, 7, 22, 23, 24, 81, 82, 83, 84, 85, 86, 87, 88, 89, 90, 91, 92, 93, 94, 95, 96, 97, 98, 99, 100, 101, 102, 103, 104, 105, 106, 107, 108, 109, 110, 111, 112, 113, 114, 115, 116, 117] (by decide +kernel) (by decide +kernel)
set_option maxRecDepth 20000 in
theorem gX9_told_X9_depth : GoodIn wsX9_told (wsV RX9 144 RX9 yX9_depth wsX9_depth) := goodIn_app (goodIn_of _ (by decide +kernel)) ggX9_told_X9_depth
set_option maxRecDepth 20000 in
theorem ggX9_told_X9_many : GoodIn wsX9_told wsX9_many := goodIn_r _ [43] (by decide +kernel) (by decide +kernel)
set_option maxRecDepth 20000 in
theorem gX9_told_X9_many : GoodIn wsX9_told (va_wsS RX9 120 yX9_many wsX9_many) := goodIn_app (goodIn_of _ (by decide +kernel)) ggX9_told_X9_many
set_option maxRecDepth 20000 in
theorem ggX9_told_X9_joins : GoodIn wsX9_told wsX9_joins := goodIn_r _ [47, 18, 12, 48, 49, 50, 51, 52, 53, 54, 55, 56, 57, 58, 59, 60, 16, 61, 7, 8, 9, 25, 26, 27, 28, 29, 5, 30, 31, 32, 33, 34, 4, 35, 36, 37, 38, 39, 40, 22, 23, 24, 62, 63, 64, 65, 66, 3, 1, 67, 68, 69, 70, 71, 72, 73, 74, 75, 76, 77, 78, 79, 80, 81, 82, 83, 84, 85, 86, 87, 88, 89, 90, 91, 92, 93, 94, 95, 96, 97, 98, 99, 100, 101, 102, 103, 104, 105, 106, 107, 108, 109, 110, 111, 112, 113, 114, 115, 116, 117] (by decide +kernel) (by decide +kernel)
set_option maxRecDepth 20000 in
theorem gX9_told_X9_joins : GoodIn wsX9_told (wsV RX9 174 RX9 yX9_joins wsX9_joins) := goodIn_app (goodIn_of _ (by decide +kernel)) ggX9_told_X9_joins
theorem dX9_told_0 : decode cX9_told 0 = .ok (.aload_n 0, 1) := by decide +kernel
theorem dX9_told_1 : decode cX9_told 1 = .ok (.iload_n 1, 1) := by decide +kernel
theorem dX9_told_2 : decode cX9_told 2 = .ok (.invokevirtual 117, 3) := by decide +kernel
theorem dX9_told_5 : decode cX9_told 5 = .ok (.ifCond .ne 5, 3) := by decide +kernel
theorem dX9_told_8 : decode cX9_told 8 = .ok (.iconst (-1), 1) := by decide +kernel
theorem dX9_told_9 : decode cX9_told 9 = .ok (.ireturn, 1) := by decide +kernel
theorem dX9_told_10 : decode cX9_told 10 = .ok (.iload_n 2, 1) := by decide +kernel
theorem dX9_told_11 : decode cX9_told 11 = .ok (.tableswitch 174 0 12 #[65, 72, 79, 86, 93, 100, 107, 114, 124, 134, 140, 146, 163], 65) := by decide +kernel
theorem dX9_told_76 : decode cX9_told 76 = .ok (.aload_n 0, 1) := by decide +kernel
theorem dX9_told_77 : decode cX9_told 77 = .ok (.getfield 16, 3) := by decide +kernel
theorem dX9_told_80 : decode cX9_told 80 = .ok (.iload_n 1, 1) := by decide +kernel
theorem dX9_told_81 : decode cX9_told 81 = .ok (.iaload, 1) := by decide +kernel
theorem dX9_told_82 : decode cX9_told 82 = .ok (.ireturn, 1) := by decide +kernel
theorem dX9_told_83 : decode cX9_told 83 = .ok (.aload_n 0, 1) := by decide +kernel
theorem dX9_told_84 : decode cX9_told 84 = .ok (.getfield 23, 3) := by decide +kernel
theorem dX9_told_87 : decode cX9_told 87 = .ok (.iload_n 1, 1) := by decide +kernel
theorem dX9_told_88 : decode cX9_told 88 = .ok (.iaload, 1) := by decide +kernel
theorem dX9_told_89 : decode cX9_told 89 = .ok (.ireturn, 1) := by decide +kernel
theorem dX9_told_90 : decode cX9_told 90 = .ok (.aload_n 0, 1) := by decide +kernel
theorem dX9_told_91 : decode cX9_told 91 = .ok (.getfield 26, 3) := by decide +kernel
theorem dX9_told_94 : decode cX9_told 94 = .ok (.iload_n 1, 1) := by decide +kernel
theorem dX9_told_95 : decode cX9_told 95 = .ok (.iaload, 1) := by decide +kernel
theorem dX9_told_96 : decode cX9_told 96 = .ok (.ireturn, 1) := by decide +kernel
theorem dX9_told_97 : decode cX9_told 97 = .ok (.aload_n 0, 1) := by decide +kernel
theorem dX9_told_98 : decode cX9_told 98 = .ok (.getfield 29, 3) := by decide +kernel
theorem dX9_told_101 : decode cX9_told 101 = .ok (.iload_n 1, 1) := by decide +kernel
theorem dX9_told_102 : decode cX9_told 102 = .ok (.iaload, 1) := by decide +kernel
theorem dX9_told_103 : decode cX9_told 103 = .ok (.ireturn, 1) := by decide +kernel
theorem dX9_told_104 : decode cX9_told 104 = .ok (.aload_n 0, 1) := by decide +kernel
theorem dX9_told_105 : decode cX9_told 105 = .ok (.getfield 32, 3) := by decide +kernel
theorem dX9_told_108 : decode cX9_told 108 = .ok (.iload_n 1, 1) := by decide +kernel
theorem dX9_told_109 : decode cX9_told 109 = .ok (.iaload, 1) := by decide +kernel
theorem dX9_told_110 : decode cX9_told 110 = .ok (.ireturn, 1) := by decide +kernel
theorem dX9_told_111 : decode cX9_told 111 = .ok (.aload_n 0, 1) := by decide +kernel
theorem dX9_told_112 : decode cX9_told 112 = .ok (.getfield 35, 3) := by decide +kernel
theorem dX9_told_115 : decode cX9_told 115 = .ok (.iload_n 1, 1) := by decide +kernel
theorem dX9_told_116 : decode cX9_told 116 = .ok (.iaload, 1) := by decide +kernel
theorem dX9_told_117 : decode cX9_told 117 = .ok (.ireturn, 1) := by decide +kernel
theorem dX9_told_118 : decode cX9_told 118 = .ok (.aload_n 0, 1) := by decide +kernel
theorem dX9_told_119 : decode cX9_told 119 = .ok (.getfield 38, 3) := by decide +kernel
theorem dX9_told_122 : decode cX9_told 122 = .ok (.iload_n 1, 1) := by decide +kernel
theorem dX9_told_123 : decode cX9_told 123 = .ok (.iaload, 1) := by decide +kernel
theorem dX9_told_124 : decode cX9_told 124 = .ok (.ireturn, 1) := by decide +kernel
theorem dX9_told_125 : decode cX9_told 125 = .ok (.aload_n 0, 1) := by decide +kernel
theorem dX9_told_126 : decode cX9_told 126 = .ok (.getfield 47, 3) := by decide +kernel
theorem dX9_told_129 : decode cX9_told 129 = .ok (.iload_n 1, 1) := by decide +kernel
theorem dX9_told_130 : decode cX9_told 130 = .ok (.baload, 1) := by decide +kernel
theorem dX9_told_131 : decode cX9_told 131 = .ok (.invokestatic 107, 3) := by decide +kernel
theorem dX9_told_134 : decode cX9_told 134 = .ok (.ireturn, 1) := by decide +kernel
theorem dX9_told_135 : decode cX9_told 135 = .ok (.aload_n 0, 1) := by decide +kernel
theorem dX9_told_136 : decode cX9_told 136 = .ok (.getfield 51, 3) := by decide +kernel
theorem dX9_told_139 : decode cX9_told 139 = .ok (.iload_n 1, 1) := by decide +kernel
theorem dX9_told_140 : decode cX9_told 140 = .ok (.baload, 1) := by decide +kernel
theorem dX9_told_141 : decode cX9_told 141 = .ok (.invokestatic 107, 3) := by decide +kernel
theorem dX9_told_144 : decode cX9_told 144 = .ok (.ireturn, 1) := by decide +kernel
theorem dX9_told_145 : decode cX9_told 145 = .ok (.aload_n 0, 1) := by decide +kernel
theorem dX9_told_146 : decode cX9_told 146 = .ok (.iload_n 1, 1) := by decide +kernel
theorem dX9_told_147 : decode cX9_told 147 = .ok (.invokevirtual 152, 3) := by decide +kernel
theorem dX9_told_150 : decode cX9_told 150 = .ok (.ireturn, 1) := by decide +kernel
theorem dX9_told_151 : decode cX9_told 151 = .ok (.aload_n 0, 1) := by decide +kernel
theorem dX9_told_152 : decode cX9_told 152 = .ok (.iload_n 1, 1) := by decide +kernel
theorem dX9_told_153 : decode cX9_told 153 = .ok (.invokevirtual 144, 3) := by decide +kernel
theorem dX9_told_156 : decode cX9_told 156 = .ok (.ireturn, 1) := by decide +kernel
theorem dX9_told_157 : decode cX9_told 157 = .ok (.aload_n 0, 1) := by decide +kernel
theorem dX9_told_158 : decode cX9_told 158 = .ok (.getfield 41, 3) := by decide +kernel
theorem dX9_told_161 : decode cX9_told 161 = .ok (.iload_n 1, 1) := by decide +kernel
theorem dX9_told_162 : decode cX9_told 162 = .ok (.iaload, 1) := by decide +kernel
theorem dX9_told_163 : decode cX9_told 163 = .ok (.aload_n 0, 1) := by decide +kernel
theorem dX9_told_164 : decode cX9_told 164 = .ok (.getfield 44, 3) := by decide +kernel
theorem dX9_told_167 : decode cX9_told 167 = .ok (.iload_n 1, 1) := by decide +kernel
theorem dX9_told_168 : decode cX9_told 168 = .ok (.iaload, 1) := by decide +kernel
theorem dX9_told_169 : decode cX9_told 169 = .ok (.ior, 1) := by decide +kernel
theorem dX9_told_170 : decode cX9_told 170 = .ok (.invokestatic 120, 3) := by decide +kernel
theorem dX9_told_173 : decode cX9_told 173 = .ok (.ireturn, 1) := by decide +kernel
theorem dX9_told_174 : decode cX9_told 174 = .ok (.aload_n 0, 1) := by decide +kernel
theorem dX9_told_175 : decode cX9_told 175 = .ok (.invokevirtual 174, 3) := by decide +kernel
theorem dX9_told_178 : decode cX9_told 178 = .ok (.aload_n 0, 1) := by decide +kernel
theorem dX9_told_179 : decode cX9_told 179 = .ok (.getfield 72, 3) := by decide +kernel
theorem dX9_told_182 : decode cX9_told 182 = .ok (.iload_n 1, 1) := by decide +kernel
theorem dX9_told_183 : decode cX9_told 183 = .ok (.iaload, 1) := by decide +kernel
theorem dX9_told_184 : decode cX9_told 184 = .ok (.ireturn, 1) := by decide +kernel
theorem dX9_told_185 : decode cX9_told 185 = .ok (.iconst (-1), 1) := by decide +kernel
theorem dX9_told_186 : decode cX9_told 186 = .ok (.ireturn, 1) := by decide +kernel
set_option maxRecDepth 20000 in
theorem ggX9_caseOf_X9_isAlarm : GoodIn wsX9_caseOf wsX9_isAlarm := goodIn_r _ [7, 2, 8, 9, 6, 10, 86, 87, 88, 89, 90, 91, 92, 93, 94, 95, 96, 97, 98, 99, 100, 101, 102, 103, 104, 105, 106, 107, 108, 109, 110, 111, 112, 113, 114, 115, 116, 117, 118, 119, 120, 121, 122] (by decide +kernel) (by decide +kernel)
set_option maxRecDepth 20000 in
theorem gX9_caseOf_X9_isAlarm : GoodIn wsX9_caseOf (wsV RX9 117 RX9 yX9_isAlarm wsX9_isAlarm) := goodIn_app (goodIn_of _ (by decide +kernel)) ggX9_caseOf_X9_isAlarm
set_option maxRecDepth 20000 in
theorem ggX9_caseOf_X9_joins : GoodIn wsX9_caseOf wsX9_joins := goodIn_r _ [14, 2, 1, 15, 16, 17, 18, 19, 20, 21, 22, 23, 24, 25, 26, 27, 6, 28, 29, 30, 31, 32, 33, 34, 35, 36, 37, 38, 39, 40, 41, 42, 43, 44, 45, 46, 47, 48, 49, 50, 51, 52, 53, 54, 55, 56, 57, 58, 59, 60, 61, 62, 63, 64, 65, 66, 67, 68, 69, 70, 71, 72, 73, 86, 87, 88, 89, 90, 91, 92, 93, 94, 95, 96, 97, 98, 99, 100, 101, 102, 103, 104, 105, 106, 107, 108, 109, 110, 111, 112, 113, 114, 115, 116, 117, 118, 119, 120, 121, 122] (by decide +kernel) (by decide +kernel)
set_option maxRecDepth 20000 in
theorem gX9_caseOf_X9_joins : GoodIn wsX9_caseOf (wsV RX9 174 RX9 yX9_joins wsX9_joins) := goodIn_app (goodIn_of _ (by decide +kernel)) ggX9_caseOf_X9_joins
set_option maxRecDepth 20000 in
theorem ggX9_caseOf_X9_sizeOf : GoodIn wsX9_caseOf wsX9_sizeOf := goodIn_r _ [77, 2, 1, 50, 51, 6, 52, 86, 87, 88, 89, 90, 91, 92, 93, 94, 95, 96, 97, 98, 99, 100, 101, 102, 103, 104, 105, 106, 107, 108, 109, 110, 111, 112, 113, 114, 115, 116, 117, 118, 119, 120, 121, 122] (by decide +kernel) (by decide +kernel)
set_option maxRecDepth 20000 in
theorem gX9_caseOf_X9_sizeOf : GoodIn wsX9_caseOf (wsV RX9 171 RX9 yX9_sizeOf wsX9_sizeOf) := goodIn_app (goodIn_of _ (by decide +kernel)) ggX9_caseOf_X9_sizeOf
set_option maxRecDepth 20000 in
theorem ggX9_caseOf_X9_scoreOf : GoodIn wsX9_caseOf wsX9_scoreOf := goodIn_r _ [73, 2, 1, 15, 20, 21, 18, 22, 86, 87, 88, 89, 90, 91, 92, 93, 94, 95, 96, 97, 98, 99, 100, 101, 102, 103, 104, 105, 106, 107, 108, 109, 110, 111, 112, 113, 114, 115, 116, 117, 118, 119, 120, 121, 122] (by decide +kernel) (by decide +kernel)
set_option maxRecDepth 20000 in
theorem gX9_caseOf_X9_scoreOf : GoodIn wsX9_caseOf (wsV RX9 168 RX9 yX9_scoreOf wsX9_scoreOf) := goodIn_app (goodIn_of _ (by decide +kernel)) ggX9_caseOf_X9_scoreOf
set_option maxRecDepth 20000 in
theorem ggX9_caseOf_X9_minutesOf : GoodIn wsX9_caseOf wsX9_minutesOf := goodIn_r _ [81, 74, 75, 76, 6, 77, 2, 1, 50, 51, 52, 86, 87, 88, 89, 90, 91, 92, 93, 94, 95, 96, 97, 98, 99, 100, 101, 102, 103, 104, 105, 106, 107, 108, 109, 110, 111, 112, 113, 114, 115, 116, 117, 118, 119, 120, 121, 122] (by decide +kernel) (by decide +kernel)
set_option maxRecDepth 20000 in
theorem gX9_caseOf_X9_minutesOf : GoodIn wsX9_caseOf (wsV RX9 177 RX9 yX9_minutesOf wsX9_minutesOf) := goodIn_app (goodIn_of _ (by decide +kernel)) ggX9_caseOf_X9_minutesOf
set_option maxRecDepth 20000 in
theorem ggX9_caseOf_X9_isLittleKnown : GoodIn wsX9_caseOf wsX9_isLittleKnown := goodIn_r _ [85, 2, 1, 39, 40, 41, 6, 42, 43, 36, 44, 45, 46, 47, 48, 38, 49, 29, 50, 51, 52, 86, 87, 88, 89, 90, 91, 92, 93, 94, 95, 96, 97, 98, 99, 100, 101, 102, 103, 104, 105, 106, 107, 108, 109, 110, 111, 112, 113, 114, 115, 116, 117, 118, 119, 120, 121, 122] (by decide +kernel) (by decide +kernel)
set_option maxRecDepth 20000 in
theorem gX9_caseOf_X9_isLittleKnown : GoodIn wsX9_caseOf (wsV RX9 180 RX9 yX9_isLittleKnown wsX9_isLittleKnown) := goodIn_app (goodIn_of _ (by decide +kernel)) ggX9_caseOf_X9_isLittleKnown
set_option maxRecDepth 20000 in
theorem ggX9_caseOf_X9_one : GoodIn wsX9_caseOf wsX9_one := goodIn_r _ [52] (by decide +kernel) (by decide +kernel)
set_option maxRecDepth 20000 in
theorem gX9_caseOf_X9_one : GoodIn wsX9_caseOf (va_wsS RX9 107 yX9_one wsX9_one) := goodIn_app (goodIn_of _ (by decide +kernel)) ggX9_caseOf_X9_one
theorem dX9_caseOf_0 : decode cX9_caseOf 0 = .ok (.aload_n 0, 1) := by decide +kernel
theorem dX9_caseOf_1 : decode cX9_caseOf 1 = .ok (.iload_n 1, 1) := by decide +kernel
theorem dX9_caseOf_2 : decode cX9_caseOf 2 = .ok (.invokevirtual 117, 3) := by decide +kernel
theorem dX9_caseOf_5 : decode cX9_caseOf 5 = .ok (.ifCond .ne 5, 3) := by decide +kernel
theorem dX9_caseOf_8 : decode cX9_caseOf 8 = .ok (.iconst (-1), 1) := by decide +kernel
theorem dX9_caseOf_9 : decode cX9_caseOf 9 = .ok (.ireturn, 1) := by decide +kernel
theorem dX9_caseOf_10 : decode cX9_caseOf 10 = .ok (.aload_n 0, 1) := by decide +kernel
theorem dX9_caseOf_11 : decode cX9_caseOf 11 = .ok (.invokevirtual 174, 3) := by decide +kernel
theorem dX9_caseOf_14 : decode cX9_caseOf 14 = .ok (.aload_n 0, 1) := by decide +kernel
theorem dX9_caseOf_15 : decode cX9_caseOf 15 = .ok (.getfield 72, 3) := by decide +kernel
theorem dX9_caseOf_18 : decode cX9_caseOf 18 = .ok (.iload_n 1, 1) := by decide +kernel
theorem dX9_caseOf_19 : decode cX9_caseOf 19 = .ok (.iaload, 1) := by decide +kernel
theorem dX9_caseOf_20 : decode cX9_caseOf 20 = .ok (.iload_n 1, 1) := by decide +kernel
theorem dX9_caseOf_21 : decode cX9_caseOf 21 = .ok (.if_icmp .eq 5, 3) := by decide +kernel
theorem dX9_caseOf_24 : decode cX9_caseOf 24 = .ok (.iconst (-1), 1) := by decide +kernel
theorem dX9_caseOf_25 : decode cX9_caseOf 25 = .ok (.ireturn, 1) := by decide +kernel
theorem dX9_caseOf_26 : decode cX9_caseOf 26 = .ok (.iload_n 2, 1) := by decide +kernel
theorem dX9_caseOf_27 : decode cX9_caseOf 27 = .ok (.ifCond .ne 9, 3) := by decide +kernel
theorem dX9_caseOf_30 : decode cX9_caseOf 30 = .ok (.aload_n 0, 1) := by decide +kernel
theorem dX9_caseOf_31 : decode cX9_caseOf 31 = .ok (.iload_n 1, 1) := by decide +kernel
theorem dX9_caseOf_32 : decode cX9_caseOf 32 = .ok (.invokevirtual 171, 3) := by decide +kernel
theorem dX9_caseOf_35 : decode cX9_caseOf 35 = .ok (.ireturn, 1) := by decide +kernel
theorem dX9_caseOf_36 : decode cX9_caseOf 36 = .ok (.iload_n 2, 1) := by decide +kernel
theorem dX9_caseOf_37 : decode cX9_caseOf 37 = .ok (.iconst 1, 1) := by decide +kernel
theorem dX9_caseOf_38 : decode cX9_caseOf 38 = .ok (.if_icmp .ne 9, 3) := by decide +kernel
theorem dX9_caseOf_41 : decode cX9_caseOf 41 = .ok (.aload_n 0, 1) := by decide +kernel
theorem dX9_caseOf_42 : decode cX9_caseOf 42 = .ok (.iload_n 1, 1) := by decide +kernel
theorem dX9_caseOf_43 : decode cX9_caseOf 43 = .ok (.invokevirtual 168, 3) := by decide +kernel
theorem dX9_caseOf_46 : decode cX9_caseOf 46 = .ok (.ireturn, 1) := by decide +kernel
theorem dX9_caseOf_47 : decode cX9_caseOf 47 = .ok (.iload_n 2, 1) := by decide +kernel
theorem dX9_caseOf_48 : decode cX9_caseOf 48 = .ok (.iconst 2, 1) := by decide +kernel
theorem dX9_caseOf_49 : decode cX9_caseOf 49 = .ok (.if_icmp .ne 9, 3) := by decide +kernel
theorem dX9_caseOf_52 : decode cX9_caseOf 52 = .ok (.aload_n 0, 1) := by decide +kernel
theorem dX9_caseOf_53 : decode cX9_caseOf 53 = .ok (.iload_n 1, 1) := by decide +kernel
theorem dX9_caseOf_54 : decode cX9_caseOf 54 = .ok (.invokevirtual 177, 3) := by decide +kernel
theorem dX9_caseOf_57 : decode cX9_caseOf 57 = .ok (.ireturn, 1) := by decide +kernel
theorem dX9_caseOf_58 : decode cX9_caseOf 58 = .ok (.iload_n 2, 1) := by decide +kernel
theorem dX9_caseOf_59 : decode cX9_caseOf 59 = .ok (.iconst 3, 1) := by decide +kernel
theorem dX9_caseOf_60 : decode cX9_caseOf 60 = .ok (.if_icmp .ne 12, 3) := by decide +kernel
theorem dX9_caseOf_63 : decode cX9_caseOf 63 = .ok (.aload_n 0, 1) := by decide +kernel
theorem dX9_caseOf_64 : decode cX9_caseOf 64 = .ok (.iload_n 1, 1) := by decide +kernel
theorem dX9_caseOf_65 : decode cX9_caseOf 65 = .ok (.invokevirtual 180, 3) := by decide +kernel
theorem dX9_caseOf_68 : decode cX9_caseOf 68 = .ok (.invokestatic 107, 3) := by decide +kernel
theorem dX9_caseOf_71 : decode cX9_caseOf 71 = .ok (.ireturn, 1) := by decide +kernel
theorem dX9_caseOf_72 : decode cX9_caseOf 72 = .ok (.bipush 10, 2) := by decide +kernel
theorem dX9_caseOf_74 : decode cX9_caseOf 74 = .ok (.istore_n 3, 1) := by decide +kernel
theorem dX9_caseOf_75 : decode cX9_caseOf 75 = .ok (.iload_n 1, 1) := by decide +kernel
theorem dX9_caseOf_76 : decode cX9_caseOf 76 = .ok (.istore 4, 2) := by decide +kernel
theorem dX9_caseOf_78 : decode cX9_caseOf 78 = .ok (.iload 4, 2) := by decide +kernel
theorem dX9_caseOf_80 : decode cX9_caseOf 80 = .ok (.aload_n 0, 1) := by decide +kernel
theorem dX9_caseOf_81 : decode cX9_caseOf 81 = .ok (.getfield 93, 3) := by decide +kernel
theorem dX9_caseOf_84 : decode cX9_caseOf 84 = .ok (.if_icmp .ge 34, 3) := by decide +kernel
theorem dX9_caseOf_87 : decode cX9_caseOf 87 = .ok (.aload_n 0, 1) := by decide +kernel
theorem dX9_caseOf_88 : decode cX9_caseOf 88 = .ok (.getfield 72, 3) := by decide +kernel
theorem dX9_caseOf_91 : decode cX9_caseOf 91 = .ok (.iload 4, 2) := by decide +kernel
theorem dX9_caseOf_93 : decode cX9_caseOf 93 = .ok (.iaload, 1) := by decide +kernel
theorem dX9_caseOf_94 : decode cX9_caseOf 94 = .ok (.iload_n 1, 1) := by decide +kernel
theorem dX9_caseOf_95 : decode cX9_caseOf 95 = .ok (.if_icmp .eq 6, 3) := by decide +kernel
theorem dX9_caseOf_98 : decode cX9_caseOf 98 = .ok (.goto 14, 3) := by decide +kernel
theorem dX9_caseOf_101 : decode cX9_caseOf 101 = .ok (.iload_n 3, 1) := by decide +kernel
theorem dX9_caseOf_102 : decode cX9_caseOf 102 = .ok (.iload_n 2, 1) := by decide +kernel
theorem dX9_caseOf_103 : decode cX9_caseOf 103 = .ok (.if_icmp .ne 6, 3) := by decide +kernel
theorem dX9_caseOf_106 : decode cX9_caseOf 106 = .ok (.iload 4, 2) := by decide +kernel
theorem dX9_caseOf_108 : decode cX9_caseOf 108 = .ok (.ireturn, 1) := by decide +kernel
theorem dX9_caseOf_109 : decode cX9_caseOf 109 = .ok (.iinc 3 1, 3) := by decide +kernel
theorem dX9_caseOf_112 : decode cX9_caseOf 112 = .ok (.iinc 4 1, 3) := by decide +kernel
theorem dX9_caseOf_115 : decode cX9_caseOf 115 = .ok (.goto (-37), 3) := by decide +kernel
theorem dX9_caseOf_118 : decode cX9_caseOf 118 = .ok (.iconst (-1), 1) := by decide +kernel
theorem dX9_caseOf_119 : decode cX9_caseOf 119 = .ok (.ireturn, 1) := by decide +kernel
set_option maxRecDepth 20000 in
theorem ggX9_slow_X9_isIn : GoodIn wsX9_slow wsX9_isIn := goodIn_r _ [8] (by decide +kernel) (by decide +kernel)
set_option maxRecDepth 20000 in
theorem gX9_slow_X9_isIn : GoodIn wsX9_slow (va_wsS RX9 96 yX9_isIn wsX9_isIn) := goodIn_app (goodIn_of _ (by decide +kernel)) ggX9_slow_X9_isIn
set_option maxRecDepth 20000 in
theorem ggX9_slow_X9_isLive : GoodIn wsX9_slow wsX9_isLive := goodIn_r _ [12, 13, 14, 15, 37, 38, 39, 40, 41, 42, 43, 44, 45, 46, 47, 48, 49, 50, 51, 52, 53, 54, 55, 56, 57, 58, 59, 60, 61, 62, 63, 64, 65, 66, 67, 68, 69, 70, 71, 72, 73] (by decide +kernel) (by decide +kernel)
set_option maxRecDepth 20000 in
theorem gX9_slow_X9_isLive : GoodIn wsX9_slow (wsV RX9 103 RX9 yX9_isLive wsX9_isLive) := goodIn_app (goodIn_of _ (by decide +kernel)) ggX9_slow_X9_isLive
set_option maxRecDepth 20000 in
theorem ggX9_slow_X9_score : GoodIn wsX9_slow wsX9_score := goodIn_r _ [19, 20, 21, 22, 23, 24, 25, 7, 26, 27, 28, 29, 30, 31, 32, 33, 1, 13, 34, 35, 36, 37, 38, 39, 40, 41, 42, 43, 44, 45, 46, 47, 48, 49, 50, 51, 52, 53, 54, 55, 56, 57, 58, 59, 60, 61, 62, 63, 64, 65, 66, 67, 68, 69, 70, 71, 72, 73] (by decide +kernel) (by decide +kernel)
set_option maxRecDepth 20000 in
theorem gX9_slow_X9_score : GoodIn wsX9_slow (wsV RX9 152 RX9 yX9_score wsX9_score) := goodIn_app (goodIn_of _ (by decide +kernel)) ggX9_slow_X9_score
theorem dX9_slow_0 : decode cX9_slow 0 = .ok (.iload_n 1, 1) := by decide +kernel
theorem dX9_slow_1 : decode cX9_slow 1 = .ok (.iconst 0, 1) := by decide +kernel
theorem dX9_slow_2 : decode cX9_slow 2 = .ok (.bipush 39, 2) := by decide +kernel
theorem dX9_slow_4 : decode cX9_slow 4 = .ok (.invokestatic 96, 3) := by decide +kernel
theorem dX9_slow_7 : decode cX9_slow 7 = .ok (.ifCond .ne 5, 3) := by decide +kernel
theorem dX9_slow_10 : decode cX9_slow 10 = .ok (.iconst (-1), 1) := by decide +kernel
theorem dX9_slow_11 : decode cX9_slow 11 = .ok (.ireturn, 1) := by decide +kernel
theorem dX9_slow_12 : decode cX9_slow 12 = .ok (.iconst 0, 1) := by decide +kernel
theorem dX9_slow_13 : decode cX9_slow 13 = .ok (.istore_n 2, 1) := by decide +kernel
theorem dX9_slow_14 : decode cX9_slow 14 = .ok (.iconst 0, 1) := by decide +kernel
theorem dX9_slow_15 : decode cX9_slow 15 = .ok (.istore_n 3, 1) := by decide +kernel
theorem dX9_slow_16 : decode cX9_slow 16 = .ok (.iload_n 3, 1) := by decide +kernel
theorem dX9_slow_17 : decode cX9_slow 17 = .ok (.aload_n 0, 1) := by decide +kernel
theorem dX9_slow_18 : decode cX9_slow 18 = .ok (.getfield 93, 3) := by decide +kernel
theorem dX9_slow_21 : decode cX9_slow 21 = .ok (.if_icmp .ge 69, 3) := by decide +kernel
theorem dX9_slow_24 : decode cX9_slow 24 = .ok (.aload_n 0, 1) := by decide +kernel
theorem dX9_slow_25 : decode cX9_slow 25 = .ok (.iload_n 3, 1) := by decide +kernel
theorem dX9_slow_26 : decode cX9_slow 26 = .ok (.invokevirtual 103, 3) := by decide +kernel
theorem dX9_slow_29 : decode cX9_slow 29 = .ok (.ifCond .eq 55, 3) := by decide +kernel
theorem dX9_slow_32 : decode cX9_slow 32 = .ok (.aload_n 0, 1) := by decide +kernel
theorem dX9_slow_33 : decode cX9_slow 33 = .ok (.getfield 26, 3) := by decide +kernel
theorem dX9_slow_36 : decode cX9_slow 36 = .ok (.iload_n 3, 1) := by decide +kernel
theorem dX9_slow_37 : decode cX9_slow 37 = .ok (.iaload, 1) := by decide +kernel
theorem dX9_slow_38 : decode cX9_slow 38 = .ok (.iload_n 1, 1) := by decide +kernel
theorem dX9_slow_39 : decode cX9_slow 39 = .ok (.if_icmp .ne 45, 3) := by decide +kernel
theorem dX9_slow_42 : decode cX9_slow 42 = .ok (.aload_n 0, 1) := by decide +kernel
theorem dX9_slow_43 : decode cX9_slow 43 = .ok (.getfield 100, 3) := by decide +kernel
theorem dX9_slow_46 : decode cX9_slow 46 = .ok (.aload_n 0, 1) := by decide +kernel
theorem dX9_slow_47 : decode cX9_slow 47 = .ok (.getfield 16, 3) := by decide +kernel
theorem dX9_slow_50 : decode cX9_slow 50 = .ok (.iload_n 3, 1) := by decide +kernel
theorem dX9_slow_51 : decode cX9_slow 51 = .ok (.iaload, 1) := by decide +kernel
theorem dX9_slow_52 : decode cX9_slow 52 = .ok (.isub, 1) := by decide +kernel
theorem dX9_slow_53 : decode cX9_slow 53 = .ok (.sipush 200, 3) := by decide +kernel
theorem dX9_slow_56 : decode cX9_slow 56 = .ok (.if_icmp .lt 6, 3) := by decide +kernel
theorem dX9_slow_59 : decode cX9_slow 59 = .ok (.goto 25, 3) := by decide +kernel
theorem dX9_slow_62 : decode cX9_slow 62 = .ok (.aload_n 0, 1) := by decide +kernel
theorem dX9_slow_63 : decode cX9_slow 63 = .ok (.iload_n 3, 1) := by decide +kernel
theorem dX9_slow_64 : decode cX9_slow 64 = .ok (.invokevirtual 152, 3) := by decide +kernel
theorem dX9_slow_67 : decode cX9_slow 67 = .ok (.istore 4, 2) := by decide +kernel
theorem dX9_slow_69 : decode cX9_slow 69 = .ok (.iload 4, 2) := by decide +kernel
theorem dX9_slow_71 : decode cX9_slow 71 = .ok (.sipush 10000, 3) := by decide +kernel
theorem dX9_slow_74 : decode cX9_slow 74 = .ok (.if_icmp .lt 5, 3) := by decide +kernel
theorem dX9_slow_77 : decode cX9_slow 77 = .ok (.iconst (-1), 1) := by decide +kernel
theorem dX9_slow_78 : decode cX9_slow 78 = .ok (.ireturn, 1) := by decide +kernel
theorem dX9_slow_79 : decode cX9_slow 79 = .ok (.iload_n 2, 1) := by decide +kernel
theorem dX9_slow_80 : decode cX9_slow 80 = .ok (.iload 4, 2) := by decide +kernel
theorem dX9_slow_82 : decode cX9_slow 82 = .ok (.iadd, 1) := by decide +kernel
theorem dX9_slow_83 : decode cX9_slow 83 = .ok (.istore_n 2, 1) := by decide +kernel
theorem dX9_slow_84 : decode cX9_slow 84 = .ok (.iinc 3 1, 3) := by decide +kernel
theorem dX9_slow_87 : decode cX9_slow 87 = .ok (.goto (-71), 3) := by decide +kernel
theorem dX9_slow_90 : decode cX9_slow 90 = .ok (.iload_n 2, 1) := by decide +kernel
theorem dX9_slow_91 : decode cX9_slow 91 = .ok (.sipush 30000, 3) := by decide +kernel
theorem dX9_slow_94 : decode cX9_slow 94 = .ok (.if_icmp .le 7, 3) := by decide +kernel
theorem dX9_slow_97 : decode cX9_slow 97 = .ok (.iload_n 2, 1) := by decide +kernel
theorem dX9_slow_98 : decode cX9_slow 98 = .ok (.goto 4, 3) := by decide +kernel
theorem dX9_slow_101 : decode cX9_slow 101 = .ok (.iconst (-1), 1) := by decide +kernel
theorem dX9_slow_102 : decode cX9_slow 102 = .ok (.ireturn, 1) := by decide +kernel
set_option maxRecDepth 20000 in
theorem ggX9_worth_X9_isPlan : GoodIn wsX9_worth wsX9_isPlan := goodIn_r _ [6, 7, 8, 5, 9] (by decide +kernel) (by decide +kernel)
set_option maxRecDepth 20000 in
theorem gX9_worth_X9_isPlan : GoodIn wsX9_worth (va_wsS RX9 189 yX9_isPlan wsX9_isPlan) := goodIn_app (goodIn_of _ (by decide +kernel)) ggX9_worth_X9_isPlan
set_option maxRecDepth 20000 in
theorem ggX9_worth_X9_isIn : GoodIn wsX9_worth wsX9_isIn := goodIn_r _ [9] (by decide +kernel) (by decide +kernel)
set_option maxRecDepth 20000 in
theorem gX9_worth_X9_isIn : GoodIn wsX9_worth (va_wsS RX9 96 yX9_isIn wsX9_isIn) := goodIn_app (goodIn_of _ (by decide +kernel)) ggX9_worth_X9_isIn
set_option maxRecDepth 20000 in
theorem ggX9_worth_X9_plans : GoodIn wsX9_worth wsX9_plans := goodIn_r _ [13, 14, 1, 15, 2, 16, 17, 18, 19, 20, 21, 22, 5, 23, 24, 25, 26, 27, 28, 29, 30, 31, 32, 33, 34, 35, 36, 37, 38, 39, 40, 41, 42, 43, 44, 45, 46, 47, 48, 49, 50, 51, 52, 53, 54, 55, 56, 57, 58, 59, 60, 61, 62, 63, 64, 65, 66, 67, 68, 69, 70, 71, 72, 73, 74, 75, 76, 77, 78, 79, 80, 81, 82, 83, 84, 85, 86, 87, 88, 89, 90, 91, 92, 93, 94, 95, 96, 97, 98, 99, 100, 101, 102, 103, 104, 105, 106, 107, 108, 109, 110, 111, 112, 113, 114, 115, 116, 117, 118, 119, 120, 121, 122, 123, 124, 125, 126, 127, 128, 129, 130, 131, 132, 133, 134, 135] (by decide +kernel) (by decide +kernel)
set_option maxRecDepth 20000 in
theorem gX9_worth_X9_plans : GoodIn wsX9_worth (wsV RX9 192 RX9 yX9_plans wsX9_plans) := goodIn_app (goodIn_of _ (by decide +kernel)) ggX9_worth_X9_plans
set_option maxRecDepth 20000 in
theorem ggX9_worth_X9_isTaken : GoodIn wsX9_worth wsX9_isTaken := goodIn_r _ [98, 14, 16, 99, 100, 101, 102, 103, 104, 105, 106, 107, 108, 109, 110, 111, 112, 113, 114, 115, 116, 117, 118, 119, 120, 121, 122, 123, 124, 125, 126, 127, 128, 129, 130, 131, 132, 133, 134, 135] (by decide +kernel) (by decide +kernel)
set_option maxRecDepth 20000 in
theorem gX9_worth_X9_isTaken : GoodIn wsX9_worth (wsV RX9 186 RX9 yX9_isTaken wsX9_isTaken) := goodIn_app (goodIn_of _ (by decide +kernel)) ggX9_worth_X9_isTaken
set_option maxRecDepth 20000 in
theorem ggX9_worth_X9_minutesOf : GoodIn wsX9_worth wsX9_minutesOf := goodIn_r _ [90, 91, 92, 93, 5, 94, 24, 25, 59, 60, 61, 99, 100, 101, 102, 103, 104, 105, 106, 107, 108, 109, 110, 111, 112, 113, 114, 115, 116, 117, 118, 119, 120, 121, 122, 123, 124, 125, 126, 127, 128, 129, 130, 131, 132, 133, 134, 135] (by decide +kernel) (by decide +kernel)
set_option maxRecDepth 20000 in
theorem gX9_worth_X9_minutesOf : GoodIn wsX9_worth (wsV RX9 177 RX9 yX9_minutesOf wsX9_minutesOf) := goodIn_app (goodIn_of _ (by decide +kernel)) ggX9_worth_X9_minutesOf
set_option maxRecDepth 20000 in
theorem ggX9_worth_X9_scoreOf : GoodIn wsX9_worth wsX9_scoreOf := goodIn_r _ [82, 24, 25, 26, 31, 32, 29, 33, 99, 100, 101, 102, 103, 104, 105, 106, 107, 108, 109, 110, 111, 112, 113, 114, 115, 116, 117, 118, 119, 120, 121, 122, 123, 124, 125, 126, 127, 128, 129, 130, 131, 132, 133, 134, 135] (by decide +kernel) (by decide +kernel)
set_option maxRecDepth 20000 in
theorem gX9_worth_X9_scoreOf : GoodIn wsX9_worth (wsV RX9 168 RX9 yX9_scoreOf wsX9_scoreOf) := goodIn_app (goodIn_of _ (by decide +kernel)) ggX9_worth_X9_scoreOf
theorem dX9_worth_0 : decode cX9_worth 0 = .ok (.iload_n 1, 1) := by decide +kernel
theorem dX9_worth_1 : decode cX9_worth 1 = .ok (.invokestatic 189, 3) := by decide +kernel
theorem dX9_worth_4 : decode cX9_worth 4 = .ok (.ifCond .eq 12, 3) := by decide +kernel
theorem dX9_worth_7 : decode cX9_worth 7 = .ok (.iload_n 2, 1) := by decide +kernel
theorem dX9_worth_8 : decode cX9_worth 8 = .ok (.iconst 0, 1) := by decide +kernel
theorem dX9_worth_9 : decode cX9_worth 9 = .ok (.iconst 2, 1) := by decide +kernel
theorem dX9_worth_10 : decode cX9_worth 10 = .ok (.invokestatic 96, 3) := by decide +kernel
theorem dX9_worth_13 : decode cX9_worth 13 = .ok (.ifCond .ne 5, 3) := by decide +kernel
theorem dX9_worth_16 : decode cX9_worth 16 = .ok (.iconst (-1), 1) := by decide +kernel
theorem dX9_worth_17 : decode cX9_worth 17 = .ok (.ireturn, 1) := by decide +kernel
theorem dX9_worth_18 : decode cX9_worth 18 = .ok (.aload_n 0, 1) := by decide +kernel
theorem dX9_worth_19 : decode cX9_worth 19 = .ok (.iload_n 1, 1) := by decide +kernel
theorem dX9_worth_20 : decode cX9_worth 20 = .ok (.invokevirtual 192, 3) := by decide +kernel
theorem dX9_worth_23 : decode cX9_worth 23 = .ok (.iconst 0, 1) := by decide +kernel
theorem dX9_worth_24 : decode cX9_worth 24 = .ok (.istore_n 3, 1) := by decide +kernel
theorem dX9_worth_25 : decode cX9_worth 25 = .ok (.iconst 0, 1) := by decide +kernel
theorem dX9_worth_26 : decode cX9_worth 26 = .ok (.istore 4, 2) := by decide +kernel
theorem dX9_worth_28 : decode cX9_worth 28 = .ok (.iload 4, 2) := by decide +kernel
theorem dX9_worth_30 : decode cX9_worth 30 = .ok (.aload_n 0, 1) := by decide +kernel
theorem dX9_worth_31 : decode cX9_worth 31 = .ok (.getfield 165, 3) := by decide +kernel
theorem dX9_worth_34 : decode cX9_worth 34 = .ok (.if_icmp .ge 82, 3) := by decide +kernel
theorem dX9_worth_37 : decode cX9_worth 37 = .ok (.aload_n 0, 1) := by decide +kernel
theorem dX9_worth_38 : decode cX9_worth 38 = .ok (.aload_n 0, 1) := by decide +kernel
theorem dX9_worth_39 : decode cX9_worth 39 = .ok (.getfield 78, 3) := by decide +kernel
theorem dX9_worth_42 : decode cX9_worth 42 = .ok (.iload 4, 2) := by decide +kernel
theorem dX9_worth_44 : decode cX9_worth 44 = .ok (.iaload, 1) := by decide +kernel
theorem dX9_worth_45 : decode cX9_worth 45 = .ok (.invokevirtual 186, 3) := by decide +kernel
theorem dX9_worth_48 : decode cX9_worth 48 = .ok (.istore 5, 2) := by decide +kernel
theorem dX9_worth_50 : decode cX9_worth 50 = .ok (.iload_n 3, 1) := by decide +kernel
theorem dX9_worth_51 : decode cX9_worth 51 = .ok (.iload_n 2, 1) := by decide +kernel
theorem dX9_worth_52 : decode cX9_worth 52 = .ok (.iconst 2, 1) := by decide +kernel
theorem dX9_worth_53 : decode cX9_worth 53 = .ok (.if_icmp .ne 26, 3) := by decide +kernel
theorem dX9_worth_56 : decode cX9_worth 56 = .ok (.iload 5, 2) := by decide +kernel
theorem dX9_worth_58 : decode cX9_worth 58 = .ok (.ifCond .eq 17, 3) := by decide +kernel
theorem dX9_worth_61 : decode cX9_worth 61 = .ok (.aload_n 0, 1) := by decide +kernel
theorem dX9_worth_62 : decode cX9_worth 62 = .ok (.aload_n 0, 1) := by decide +kernel
theorem dX9_worth_63 : decode cX9_worth 63 = .ok (.getfield 78, 3) := by decide +kernel
theorem dX9_worth_66 : decode cX9_worth 66 = .ok (.iload 4, 2) := by decide +kernel
theorem dX9_worth_68 : decode cX9_worth 68 = .ok (.iaload, 1) := by decide +kernel
theorem dX9_worth_69 : decode cX9_worth 69 = .ok (.invokevirtual 177, 3) := by decide +kernel
theorem dX9_worth_72 : decode cX9_worth 72 = .ok (.goto 36, 3) := by decide +kernel
theorem dX9_worth_75 : decode cX9_worth 75 = .ok (.iconst 0, 1) := by decide +kernel
theorem dX9_worth_76 : decode cX9_worth 76 = .ok (.goto 32, 3) := by decide +kernel
theorem dX9_worth_79 : decode cX9_worth 79 = .ok (.iload 5, 2) := by decide +kernel
theorem dX9_worth_81 : decode cX9_worth 81 = .ok (.iload_n 2, 1) := by decide +kernel
theorem dX9_worth_82 : decode cX9_worth 82 = .ok (.ifCond .ne 7, 3) := by decide +kernel
theorem dX9_worth_85 : decode cX9_worth 85 = .ok (.iconst 1, 1) := by decide +kernel
theorem dX9_worth_86 : decode cX9_worth 86 = .ok (.goto 4, 3) := by decide +kernel
theorem dX9_worth_89 : decode cX9_worth 89 = .ok (.iconst 0, 1) := by decide +kernel
theorem dX9_worth_90 : decode cX9_worth 90 = .ok (.if_icmp .ne 17, 3) := by decide +kernel
theorem dX9_worth_93 : decode cX9_worth 93 = .ok (.aload_n 0, 1) := by decide +kernel
theorem dX9_worth_94 : decode cX9_worth 94 = .ok (.aload_n 0, 1) := by decide +kernel
theorem dX9_worth_95 : decode cX9_worth 95 = .ok (.getfield 78, 3) := by decide +kernel
theorem dX9_worth_98 : decode cX9_worth 98 = .ok (.iload 4, 2) := by decide +kernel
theorem dX9_worth_100 : decode cX9_worth 100 = .ok (.iaload, 1) := by decide +kernel
theorem dX9_worth_101 : decode cX9_worth 101 = .ok (.invokevirtual 168, 3) := by decide +kernel
theorem dX9_worth_104 : decode cX9_worth 104 = .ok (.goto 4, 3) := by decide +kernel
theorem dX9_worth_107 : decode cX9_worth 107 = .ok (.iconst 0, 1) := by decide +kernel
theorem dX9_worth_108 : decode cX9_worth 108 = .ok (.iadd, 1) := by decide +kernel
theorem dX9_worth_109 : decode cX9_worth 109 = .ok (.istore_n 3, 1) := by decide +kernel
theorem dX9_worth_110 : decode cX9_worth 110 = .ok (.iinc 4 1, 3) := by decide +kernel
theorem dX9_worth_113 : decode cX9_worth 113 = .ok (.goto (-85), 3) := by decide +kernel
theorem dX9_worth_116 : decode cX9_worth 116 = .ok (.iload_n 3, 1) := by decide +kernel
theorem dX9_worth_117 : decode cX9_worth 117 = .ok (.ireturn, 1) := by decide +kernel
set_option maxRecDepth 20000 in
theorem ggX9_source_X9_isIn : GoodIn wsX9_source wsX9_isIn := goodIn_r _ [10] (by decide +kernel) (by decide +kernel)
set_option maxRecDepth 20000 in
theorem gX9_source_X9_isIn : GoodIn wsX9_source (va_wsS RX9 96 yX9_isIn wsX9_isIn) := goodIn_app (goodIn_of _ (by decide +kernel)) ggX9_source_X9_isIn
set_option maxRecDepth 20000 in
theorem ggX9_source_X9_one : GoodIn wsX9_source wsX9_one := goodIn_r _ [13] (by decide +kernel) (by decide +kernel)
set_option maxRecDepth 20000 in
theorem gX9_source_X9_one : GoodIn wsX9_source (va_wsS RX9 107 yX9_one wsX9_one) := goodIn_app (goodIn_of _ (by decide +kernel)) ggX9_source_X9_one
theorem dX9_source_0 : decode cX9_source 0 = .ok (.iload_n 1, 1) := by decide +kernel
theorem dX9_source_1 : decode cX9_source 1 = .ok (.iconst 0, 1) := by decide +kernel
theorem dX9_source_2 : decode cX9_source 2 = .ok (.bipush 9, 2) := by decide +kernel
theorem dX9_source_4 : decode cX9_source 4 = .ok (.invokestatic 96, 3) := by decide +kernel
theorem dX9_source_7 : decode cX9_source 7 = .ok (.ifCond .eq 13, 3) := by decide +kernel
theorem dX9_source_10 : decode cX9_source 10 = .ok (.iload_n 2, 1) := by decide +kernel
theorem dX9_source_11 : decode cX9_source 11 = .ok (.iconst 0, 1) := by decide +kernel
theorem dX9_source_12 : decode cX9_source 12 = .ok (.bipush 6, 2) := by decide +kernel
theorem dX9_source_14 : decode cX9_source 14 = .ok (.invokestatic 96, 3) := by decide +kernel
theorem dX9_source_17 : decode cX9_source 17 = .ok (.ifCond .ne 5, 3) := by decide +kernel
theorem dX9_source_20 : decode cX9_source 20 = .ok (.iconst (-1), 1) := by decide +kernel
theorem dX9_source_21 : decode cX9_source 21 = .ok (.ireturn, 1) := by decide +kernel
theorem dX9_source_22 : decode cX9_source 22 = .ok (.iconst 0, 1) := by decide +kernel
theorem dX9_source_23 : decode cX9_source 23 = .ok (.istore_n 3, 1) := by decide +kernel
theorem dX9_source_24 : decode cX9_source 24 = .ok (.iconst 0, 1) := by decide +kernel
theorem dX9_source_25 : decode cX9_source 25 = .ok (.istore 4, 2) := by decide +kernel
theorem dX9_source_27 : decode cX9_source 27 = .ok (.iload 4, 2) := by decide +kernel
theorem dX9_source_29 : decode cX9_source 29 = .ok (.aload_n 0, 1) := by decide +kernel
theorem dX9_source_30 : decode cX9_source 30 = .ok (.getfield 93, 3) := by decide +kernel
theorem dX9_source_33 : decode cX9_source 33 = .ok (.if_icmp .ge 164, 3) := by decide +kernel
theorem dX9_source_36 : decode cX9_source 36 = .ok (.aload_n 0, 1) := by decide +kernel
theorem dX9_source_37 : decode cX9_source 37 = .ok (.getfield 23, 3) := by decide +kernel
theorem dX9_source_40 : decode cX9_source 40 = .ok (.iload 4, 2) := by decide +kernel
theorem dX9_source_42 : decode cX9_source 42 = .ok (.iaload, 1) := by decide +kernel
theorem dX9_source_43 : decode cX9_source 43 = .ok (.iload_n 1, 1) := by decide +kernel
theorem dX9_source_44 : decode cX9_source 44 = .ok (.if_icmp .eq 6, 3) := by decide +kernel
theorem dX9_source_47 : decode cX9_source 47 = .ok (.goto 144, 3) := by decide +kernel
theorem dX9_source_50 : decode cX9_source 50 = .ok (.aload_n 0, 1) := by decide +kernel
theorem dX9_source_51 : decode cX9_source 51 = .ok (.getfield 47, 3) := by decide +kernel
theorem dX9_source_54 : decode cX9_source 54 = .ok (.iload 4, 2) := by decide +kernel
theorem dX9_source_56 : decode cX9_source 56 = .ok (.baload, 1) := by decide +kernel
theorem dX9_source_57 : decode cX9_source 57 = .ok (.ifCond .ne 17, 3) := by decide +kernel
theorem dX9_source_60 : decode cX9_source 60 = .ok (.aload_n 0, 1) := by decide +kernel
theorem dX9_source_61 : decode cX9_source 61 = .ok (.getfield 51, 3) := by decide +kernel
theorem dX9_source_64 : decode cX9_source 64 = .ok (.iload 4, 2) := by decide +kernel
theorem dX9_source_66 : decode cX9_source 66 = .ok (.baload, 1) := by decide +kernel
theorem dX9_source_67 : decode cX9_source 67 = .ok (.ifCond .ne 7, 3) := by decide +kernel
theorem dX9_source_70 : decode cX9_source 70 = .ok (.iconst 1, 1) := by decide +kernel
theorem dX9_source_71 : decode cX9_source 71 = .ok (.goto 4, 3) := by decide +kernel
theorem dX9_source_74 : decode cX9_source 74 = .ok (.iconst 0, 1) := by decide +kernel
theorem dX9_source_75 : decode cX9_source 75 = .ok (.istore 5, 2) := by decide +kernel
theorem dX9_source_77 : decode cX9_source 77 = .ok (.iload_n 3, 1) := by decide +kernel
theorem dX9_source_78 : decode cX9_source 78 = .ok (.iload_n 2, 1) := by decide +kernel
theorem dX9_source_79 : decode cX9_source 79 = .ok (.iconst 1, 1) := by decide +kernel
theorem dX9_source_80 : decode cX9_source 80 = .ok (.if_icmp .ne 13, 3) := by decide +kernel
theorem dX9_source_83 : decode cX9_source 83 = .ok (.aload_n 0, 1) := by decide +kernel
theorem dX9_source_84 : decode cX9_source 84 = .ok (.getfield 35, 3) := by decide +kernel
theorem dX9_source_87 : decode cX9_source 87 = .ok (.iload 4, 2) := by decide +kernel
theorem dX9_source_89 : decode cX9_source 89 = .ok (.iaload, 1) := by decide +kernel
theorem dX9_source_90 : decode cX9_source 90 = .ok (.goto 99, 3) := by decide +kernel
theorem dX9_source_93 : decode cX9_source 93 = .ok (.iload_n 2, 1) := by decide +kernel
theorem dX9_source_94 : decode cX9_source 94 = .ok (.ifCond .eq 87, 3) := by decide +kernel
theorem dX9_source_97 : decode cX9_source 97 = .ok (.iload_n 2, 1) := by decide +kernel
theorem dX9_source_98 : decode cX9_source 98 = .ok (.iconst 2, 1) := by decide +kernel
theorem dX9_source_99 : decode cX9_source 99 = .ok (.if_icmp .ne 13, 3) := by decide +kernel
theorem dX9_source_102 : decode cX9_source 102 = .ok (.aload_n 0, 1) := by decide +kernel
theorem dX9_source_103 : decode cX9_source 103 = .ok (.getfield 47, 3) := by decide +kernel
theorem dX9_source_106 : decode cX9_source 106 = .ok (.iload 4, 2) := by decide +kernel
theorem dX9_source_108 : decode cX9_source 108 = .ok (.baload, 1) := by decide +kernel
theorem dX9_source_109 : decode cX9_source 109 = .ok (.ifCond .ne 72, 3) := by decide +kernel
theorem dX9_source_112 : decode cX9_source 112 = .ok (.iload_n 2, 1) := by decide +kernel
theorem dX9_source_113 : decode cX9_source 113 = .ok (.iconst 3, 1) := by decide +kernel
theorem dX9_source_114 : decode cX9_source 114 = .ok (.if_icmp .ne 13, 3) := by decide +kernel
theorem dX9_source_117 : decode cX9_source 117 = .ok (.aload_n 0, 1) := by decide +kernel
theorem dX9_source_118 : decode cX9_source 118 = .ok (.getfield 51, 3) := by decide +kernel
theorem dX9_source_121 : decode cX9_source 121 = .ok (.iload 4, 2) := by decide +kernel
theorem dX9_source_123 : decode cX9_source 123 = .ok (.baload, 1) := by decide +kernel
theorem dX9_source_124 : decode cX9_source 124 = .ok (.ifCond .ne 57, 3) := by decide +kernel
theorem dX9_source_127 : decode cX9_source 127 = .ok (.iload_n 2, 1) := by decide +kernel
theorem dX9_source_128 : decode cX9_source 128 = .ok (.iconst 4, 1) := by decide +kernel
theorem dX9_source_129 : decode cX9_source 129 = .ok (.if_icmp .ne 14, 3) := by decide +kernel
theorem dX9_source_132 : decode cX9_source 132 = .ok (.aload_n 0, 1) := by decide +kernel
theorem dX9_source_133 : decode cX9_source 133 = .ok (.getfield 38, 3) := by decide +kernel
theorem dX9_source_136 : decode cX9_source 136 = .ok (.iload 4, 2) := by decide +kernel
theorem dX9_source_138 : decode cX9_source 138 = .ok (.iaload, 1) := by decide +kernel
theorem dX9_source_139 : decode cX9_source 139 = .ok (.iconst 1, 1) := by decide +kernel
theorem dX9_source_140 : decode cX9_source 140 = .ok (.if_icmp .eq 41, 3) := by decide +kernel
theorem dX9_source_143 : decode cX9_source 143 = .ok (.iload_n 2, 1) := by decide +kernel
theorem dX9_source_144 : decode cX9_source 144 = .ok (.iconst 5, 1) := by decide +kernel
theorem dX9_source_145 : decode cX9_source 145 = .ok (.if_icmp .ne 14, 3) := by decide +kernel
theorem dX9_source_148 : decode cX9_source 148 = .ok (.aload_n 0, 1) := by decide +kernel
theorem dX9_source_149 : decode cX9_source 149 = .ok (.getfield 38, 3) := by decide +kernel
theorem dX9_source_152 : decode cX9_source 152 = .ok (.iload 4, 2) := by decide +kernel
theorem dX9_source_154 : decode cX9_source 154 = .ok (.iaload, 1) := by decide +kernel
theorem dX9_source_155 : decode cX9_source 155 = .ok (.iconst 2, 1) := by decide +kernel
theorem dX9_source_156 : decode cX9_source 156 = .ok (.if_icmp .eq 25, 3) := by decide +kernel
theorem dX9_source_159 : decode cX9_source 159 = .ok (.iload_n 2, 1) := by decide +kernel
theorem dX9_source_160 : decode cX9_source 160 = .ok (.bipush 6, 2) := by decide +kernel
theorem dX9_source_162 : decode cX9_source 162 = .ok (.if_icmp .ne 23, 3) := by decide +kernel
theorem dX9_source_165 : decode cX9_source 165 = .ok (.aload_n 0, 1) := by decide +kernel
theorem dX9_source_166 : decode cX9_source 166 = .ok (.getfield 38, 3) := by decide +kernel
theorem dX9_source_169 : decode cX9_source 169 = .ok (.iload 4, 2) := by decide +kernel
theorem dX9_source_171 : decode cX9_source 171 = .ok (.iaload, 1) := by decide +kernel
theorem dX9_source_172 : decode cX9_source 172 = .ok (.iconst 1, 1) := by decide +kernel
theorem dX9_source_173 : decode cX9_source 173 = .ok (.if_icmp .ne 12, 3) := by decide +kernel
theorem dX9_source_176 : decode cX9_source 176 = .ok (.iload 5, 2) := by decide +kernel
theorem dX9_source_178 : decode cX9_source 178 = .ok (.ifCond .ne 7, 3) := by decide +kernel
theorem dX9_source_181 : decode cX9_source 181 = .ok (.iconst 1, 1) := by decide +kernel
theorem dX9_source_182 : decode cX9_source 182 = .ok (.goto 4, 3) := by decide +kernel
theorem dX9_source_185 : decode cX9_source 185 = .ok (.iconst 0, 1) := by decide +kernel
theorem dX9_source_186 : decode cX9_source 186 = .ok (.invokestatic 107, 3) := by decide +kernel
theorem dX9_source_189 : decode cX9_source 189 = .ok (.iadd, 1) := by decide +kernel
theorem dX9_source_190 : decode cX9_source 190 = .ok (.istore_n 3, 1) := by decide +kernel
theorem dX9_source_191 : decode cX9_source 191 = .ok (.iinc 4 1, 3) := by decide +kernel
theorem dX9_source_194 : decode cX9_source 194 = .ok (.goto (-167), 3) := by decide +kernel
theorem dX9_source_197 : decode cX9_source 197 = .ok (.iload_n 3, 1) := by decide +kernel
theorem dX9_source_198 : decode cX9_source 198 = .ok (.ireturn, 1) := by decide +kernel
