set_option maxRecDepth 20000 in
theorem ggX8_alarm_X8_isBelow : GoodIn wsX8_alarm wsX8_isBelow := goodIn_r _ [18] (by decide +kernel) (by decide +kernel)
set_option maxRecDepth 20000 in
theorem gX8_alarm_X8_isBelow : GoodIn wsX8_alarm (va_wsS RX8 64 yX8_isBelow wsX8_isBelow) := goodIn_app (goodIn_of _ (by decide +kernel)) ggX8_alarm_X8_isBelow
set_option maxRecDepth 20000 in
theorem ggX8_alarm_X8_alarmToRepeat : GoodIn wsX8_alarm wsX8_alarmToRepeat := goodIn_r _ [22, 3, 13, 23, 24, 25, 1, 26, 27, 28, 29, 6, 30, 31, 32, 33, 34, 35, 36, 37, 38, 39, 40, 41, 119, 120, 121, 122, 123, 124, 125, 126, 127, 128, 129, 130, 131, 132, 133, 134, 135, 136, 137, 138, 139, 140, 141, 142, 143, 144, 145, 146, 147, 148, 149] (by decide +kernel) (by decide +kernel)
set_option maxRecDepth 20000 in
theorem gX8_alarm_X8_alarmToRepeat : GoodIn wsX8_alarm (wsV RX8 68 RX8 yX8_alarmToRepeat wsX8_alarmToRepeat) := goodIn_app (goodIn_of _ (by decide +kernel)) ggX8_alarm_X8_alarmToRepeat
set_option maxRecDepth 20000 in
theorem ggX8_alarm_X3_grow : GoodIn wsX8_alarm wsX3_grow := goodIn_r _ [52, 53, 54, 51, 55, 56, 57, 58, 59, 60, 61, 62, 63, 64, 65, 66, 67, 68, 69, 70, 71, 72, 150, 151, 152, 153, 154, 155, 156, 157] (by decide +kernel) (by decide +kernel)
set_option maxRecDepth 20000 in
theorem gX8_alarm_X3_grow : GoodIn wsX8_alarm (wsV RX8 82 RX3 yX3_grow wsX3_grow) := goodIn_app (goodIn_of _ (by decide +kernel)) ggX8_alarm_X3_grow
set_option maxRecDepth 20000 in
theorem ggX8_alarm_X0_init : GoodIn wsX8_alarm wsX0_init := goodIn_r _ [75, 76, 69, 70, 35, 77, 78, 79, 80, 81, 82, 83, 84, 85, 86, 87, 47, 88, 89, 90, 91, 92, 133, 134, 135, 136, 137, 138, 139, 140, 141, 142, 143, 144, 145, 146, 147, 148, 149, 158, 159, 160, 161] (by decide +kernel) (by decide +kernel)
set_option maxRecDepth 20000 in
theorem gX8_alarm_X0_init : GoodIn wsX8_alarm (wsX0_init) := ggX8_alarm_X0_init
set_option maxRecDepth 20000 in
theorem ggX8_alarm_X8_isSilencedNow : GoodIn wsX8_alarm wsX8_isSilencedNow := goodIn_r _ [96, 97, 98, 1, 99, 100, 101, 102, 103, 104, 105, 106, 119, 120, 121, 122, 123, 124, 125, 126, 127, 128, 129, 130, 131, 132, 162, 163, 164] (by decide +kernel) (by decide +kernel)
set_option maxRecDepth 20000 in
theorem gX8_alarm_X8_isSilencedNow : GoodIn wsX8_alarm (wsV RX8 89 RX8 yX8_isSilencedNow wsX8_isSilencedNow) := goodIn_app (goodIn_of _ (by decide +kernel)) ggX8_alarm_X8_isSilencedNow
set_option maxRecDepth 20000 in
theorem ggX8_alarm_X8_isCapFullNow : GoodIn wsX8_alarm wsX8_isCapFullNow := goodIn_r _ [110, 3, 1, 13, 111, 23, 112, 113, 37, 38, 6, 39, 40, 41, 119, 120, 121, 122, 123, 124, 125, 126, 127, 128, 129, 130, 131, 132, 133, 134, 135, 136, 137, 138, 139, 140, 141, 142, 143, 144, 145, 146, 147, 148, 149] (by decide +kernel) (by decide +kernel)
set_option maxRecDepth 20000 in
theorem gX8_alarm_X8_isCapFullNow : GoodIn wsX8_alarm (wsV RX8 97 RX8 yX8_isCapFullNow wsX8_isCapFullNow) := goodIn_app (goodIn_of _ (by decide +kernel)) ggX8_alarm_X8_isCapFullNow
set_option maxRecDepth 20000 in
theorem ggX8_alarm_X3_addOpen : GoodIn wsX8_alarm wsX3_addOpen := goodIn_r _ [117, 118, 71, 150, 151, 152, 153, 154, 155, 156, 157] (by decide +kernel) (by decide +kernel)
set_option maxRecDepth 20000 in
theorem gX8_alarm_X3_addOpen : GoodIn wsX8_alarm (wsV RX8 106 RX3 yX3_addOpen wsX3_addOpen) := goodIn_app (goodIn_of _ (by decide +kernel)) ggX8_alarm_X3_addOpen
theorem dX8_alarm_0 : decode cX8_alarm 0 = .ok (.iload_n 1, 1) := by decide +kernel
theorem dX8_alarm_1 : decode cX8_alarm 1 = .ok (.bipush 10, 2) := by decide +kernel
theorem dX8_alarm_3 : decode cX8_alarm 3 = .ok (.invokestatic 64, 3) := by decide +kernel
theorem dX8_alarm_6 : decode cX8_alarm 6 = .ok (.ifCond .eq 35, 3) := by decide +kernel
theorem dX8_alarm_9 : decode cX8_alarm 9 = .ok (.iload_n 2, 1) := by decide +kernel
theorem dX8_alarm_10 : decode cX8_alarm 10 = .ok (.bipush 40, 2) := by decide +kernel
theorem dX8_alarm_12 : decode cX8_alarm 12 = .ok (.invokestatic 64, 3) := by decide +kernel
theorem dX8_alarm_15 : decode cX8_alarm 15 = .ok (.ifCond .eq 26, 3) := by decide +kernel
theorem dX8_alarm_18 : decode cX8_alarm 18 = .ok (.iload_n 3, 1) := by decide +kernel
theorem dX8_alarm_19 : decode cX8_alarm 19 = .ok (.sipush 4096, 3) := by decide +kernel
theorem dX8_alarm_22 : decode cX8_alarm 22 = .ok (.invokestatic 64, 3) := by decide +kernel
theorem dX8_alarm_25 : decode cX8_alarm 25 = .ok (.ifCond .eq 16, 3) := by decide +kernel
theorem dX8_alarm_28 : decode cX8_alarm 28 = .ok (.iload 4, 2) := by decide +kernel
theorem dX8_alarm_30 : decode cX8_alarm 30 = .ok (.iconst 1, 1) := by decide +kernel
theorem dX8_alarm_31 : decode cX8_alarm 31 = .ok (.if_icmp .lt 10, 3) := by decide +kernel
theorem dX8_alarm_34 : decode cX8_alarm 34 = .ok (.iload 4, 2) := by decide +kernel
theorem dX8_alarm_36 : decode cX8_alarm 36 = .ok (.bipush 100, 2) := by decide +kernel
theorem dX8_alarm_38 : decode cX8_alarm 38 = .ok (.if_icmp .le 6, 3) := by decide +kernel
theorem dX8_alarm_41 : decode cX8_alarm 41 = .ok (.bipush (-2), 2) := by decide +kernel
theorem dX8_alarm_43 : decode cX8_alarm 43 = .ok (.ireturn, 1) := by decide +kernel
theorem dX8_alarm_44 : decode cX8_alarm 44 = .ok (.aload_n 0, 1) := by decide +kernel
theorem dX8_alarm_45 : decode cX8_alarm 45 = .ok (.iload_n 1, 1) := by decide +kernel
theorem dX8_alarm_46 : decode cX8_alarm 46 = .ok (.iload_n 2, 1) := by decide +kernel
theorem dX8_alarm_47 : decode cX8_alarm 47 = .ok (.iload_n 3, 1) := by decide +kernel
theorem dX8_alarm_48 : decode cX8_alarm 48 = .ok (.invokevirtual 68, 3) := by decide +kernel
theorem dX8_alarm_51 : decode cX8_alarm 51 = .ok (.astore 5, 2) := by decide +kernel
theorem dX8_alarm_53 : decode cX8_alarm 53 = .ok (.aload 5, 2) := by decide +kernel
theorem dX8_alarm_55 : decode cX8_alarm 55 = .ok (.ifnull 18, 3) := by decide +kernel
theorem dX8_alarm_73 : decode cX8_alarm 73 = .ok (.aload_n 0, 1) := by decide +kernel
theorem dX8_alarm_74 : decode cX8_alarm 74 = .ok (.getfield 79, 3) := by decide +kernel
theorem dX8_alarm_77 : decode cX8_alarm 77 = .ok (.sipush 200, 3) := by decide +kernel
theorem dX8_alarm_80 : decode cX8_alarm 80 = .ok (.if_icmp .lt 6, 3) := by decide +kernel
theorem dX8_alarm_86 : decode cX8_alarm 86 = .ok (.new 9, 3) := by decide +kernel
theorem dX8_alarm_89 : decode cX8_alarm 89 = .ok (.dup, 1) := by decide +kernel
theorem dX8_alarm_90 : decode cX8_alarm 90 = .ok (.aload_n 0, 1) := by decide +kernel
theorem dX8_alarm_91 : decode cX8_alarm 91 = .ok (.getfield 79, 3) := by decide +kernel
theorem dX8_alarm_94 : decode cX8_alarm 94 = .ok (.aload_n 0, 1) := by decide +kernel
theorem dX8_alarm_95 : decode cX8_alarm 95 = .ok (.getfield 61, 3) := by decide +kernel
theorem dX8_alarm_98 : decode cX8_alarm 98 = .ok (.iload_n 1, 1) := by decide +kernel
theorem dX8_alarm_99 : decode cX8_alarm 99 = .ok (.iload_n 2, 1) := by decide +kernel
theorem dX8_alarm_100 : decode cX8_alarm 100 = .ok (.iload_n 3, 1) := by decide +kernel
theorem dX8_alarm_101 : decode cX8_alarm 101 = .ok (.iload 4, 2) := by decide +kernel
theorem dX8_alarm_103 : decode cX8_alarm 103 = .ok (.aload_n 0, 1) := by decide +kernel
theorem dX8_alarm_104 : decode cX8_alarm 104 = .ok (.getfield 29, 3) := by decide +kernel
theorem dX8_alarm_107 : decode cX8_alarm 107 = .ok (.iload_n 3, 1) := by decide +kernel
theorem dX8_alarm_108 : decode cX8_alarm 108 = .ok (.invokevirtual 82, 3) := by decide +kernel
theorem dX8_alarm_111 : decode cX8_alarm 111 = .ok (.invokespecial 86, 3) := by decide +kernel
theorem dX8_alarm_114 : decode cX8_alarm 114 = .ok (.astore 6, 2) := by decide +kernel
theorem dX8_alarm_116 : decode cX8_alarm 116 = .ok (.aload 6, 2) := by decide +kernel
theorem dX8_alarm_118 : decode cX8_alarm 118 = .ok (.aload_n 0, 1) := by decide +kernel
theorem dX8_alarm_119 : decode cX8_alarm 119 = .ok (.iload_n 1, 1) := by decide +kernel
theorem dX8_alarm_120 : decode cX8_alarm 120 = .ok (.invokevirtual 89, 3) := by decide +kernel
theorem dX8_alarm_123 : decode cX8_alarm 123 = .ok (.putfield 93, 3) := by decide +kernel
theorem dX8_alarm_126 : decode cX8_alarm 126 = .ok (.aload 6, 2) := by decide +kernel
theorem dX8_alarm_128 : decode cX8_alarm 128 = .ok (.aload 6, 2) := by decide +kernel
theorem dX8_alarm_130 : decode cX8_alarm 130 = .ok (.getfield 93, 3) := by decide +kernel
theorem dX8_alarm_133 : decode cX8_alarm 133 = .ok (.ifCond .ne 15, 3) := by decide +kernel
theorem dX8_alarm_136 : decode cX8_alarm 136 = .ok (.aload_n 0, 1) := by decide +kernel
theorem dX8_alarm_137 : decode cX8_alarm 137 = .ok (.iload_n 1, 1) := by decide +kernel
theorem dX8_alarm_138 : decode cX8_alarm 138 = .ok (.invokevirtual 97, 3) := by decide +kernel
theorem dX8_alarm_141 : decode cX8_alarm 141 = .ok (.ifCond .eq 7, 3) := by decide +kernel
theorem dX8_alarm_148 : decode cX8_alarm 148 = .ok (.iconst 0, 1) := by decide +kernel
theorem dX8_alarm_149 : decode cX8_alarm 149 = .ok (.putfield 100, 3) := by decide +kernel
theorem dX8_alarm_152 : decode cX8_alarm 152 = .ok (.aload 6, 2) := by decide +kernel
theorem dX8_alarm_154 : decode cX8_alarm 154 = .ok (.getfield 103, 3) := by decide +kernel
theorem dX8_alarm_157 : decode cX8_alarm 157 = .ok (.invokevirtual 106, 3) := by decide +kernel
theorem dX8_alarm_160 : decode cX8_alarm 160 = .ok (.aload 6, 2) := by decide +kernel
theorem dX8_alarm_162 : decode cX8_alarm 162 = .ok (.aload_n 0, 1) := by decide +kernel
theorem dX8_alarm_163 : decode cX8_alarm 163 = .ok (.getfield 15, 3) := by decide +kernel
theorem dX8_alarm_166 : decode cX8_alarm 166 = .ok (.iload_n 2, 1) := by decide +kernel
theorem dX8_alarm_167 : decode cX8_alarm 167 = .ok (.aaload, 1) := by decide +kernel
theorem dX8_alarm_168 : decode cX8_alarm 168 = .ok (.putfield 109, 3) := by decide +kernel
theorem dX8_alarm_171 : decode cX8_alarm 171 = .ok (.aload_n 0, 1) := by decide +kernel
theorem dX8_alarm_172 : decode cX8_alarm 172 = .ok (.getfield 15, 3) := by decide +kernel
theorem dX8_alarm_175 : decode cX8_alarm 175 = .ok (.iload_n 2, 1) := by decide +kernel
theorem dX8_alarm_176 : decode cX8_alarm 176 = .ok (.aload 6, 2) := by decide +kernel
theorem dX8_alarm_178 : decode cX8_alarm 178 = .ok (.aastore, 1) := by decide +kernel
theorem dX8_alarm_179 : decode cX8_alarm 179 = .ok (.aload_n 0, 1) := by decide +kernel
theorem dX8_alarm_180 : decode cX8_alarm 180 = .ok (.getfield 11, 3) := by decide +kernel
theorem dX8_alarm_183 : decode cX8_alarm 183 = .ok (.aload_n 0, 1) := by decide +kernel
theorem dX8_alarm_184 : decode cX8_alarm 184 = .ok (.getfield 79, 3) := by decide +kernel
theorem dX8_alarm_187 : decode cX8_alarm 187 = .ok (.aload 6, 2) := by decide +kernel
theorem dX8_alarm_189 : decode cX8_alarm 189 = .ok (.aastore, 1) := by decide +kernel
theorem dX8_alarm_190 : decode cX8_alarm 190 = .ok (.aload_n 0, 1) := by decide +kernel
theorem dX8_alarm_191 : decode cX8_alarm 191 = .ok (.dup, 1) := by decide +kernel
theorem dX8_alarm_192 : decode cX8_alarm 192 = .ok (.getfield 79, 3) := by decide +kernel
theorem dX8_alarm_195 : decode cX8_alarm 195 = .ok (.iconst 1, 1) := by decide +kernel
theorem dX8_alarm_196 : decode cX8_alarm 196 = .ok (.iadd, 1) := by decide +kernel
theorem dX8_alarm_197 : decode cX8_alarm 197 = .ok (.putfield 79, 3) := by decide +kernel
theorem dX8_alarm_200 : decode cX8_alarm 200 = .ok (.aload_n 0, 1) := by decide +kernel
theorem dX8_alarm_201 : decode cX8_alarm 201 = .ok (.iconst 1, 1) := by decide +kernel
theorem dX8_alarm_202 : decode cX8_alarm 202 = .ok (.putfield 113, 3) := by decide +kernel
theorem dX8_alarm_205 : decode cX8_alarm 205 = .ok (.aload 6, 2) := by decide +kernel
theorem dX8_alarm_207 : decode cX8_alarm 207 = .ok (.getfield 76, 3) := by decide +kernel
theorem dX8_alarm_210 : decode cX8_alarm 210 = .ok (.ireturn, 1) := by decide +kernel
