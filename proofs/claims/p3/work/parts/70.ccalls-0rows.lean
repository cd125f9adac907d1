theorem dX8_pass_0 : decode cX8_pass 0 = .ok (.iload_n 1, 1) := by decide +kernel
theorem dX8_pass_1 : decode cX8_pass 1 = .ok (.iconst 1, 1) := by decide +kernel
theorem dX8_pass_2 : decode cX8_pass 2 = .ok (.if_icmp .lt 22, 3) := by decide +kernel
theorem dX8_pass_5 : decode cX8_pass 5 = .ok (.iload_n 1, 1) := by decide +kernel
theorem dX8_pass_6 : decode cX8_pass 6 = .ok (.sipush 1000, 3) := by decide +kernel
theorem dX8_pass_9 : decode cX8_pass 9 = .ok (.if_icmp .gt 15, 3) := by decide +kernel
theorem dX8_pass_12 : decode cX8_pass 12 = .ok (.aload_n 0, 1) := by decide +kernel
theorem dX8_pass_13 : decode cX8_pass 13 = .ok (.getfield 61, 3) := by decide +kernel
theorem dX8_pass_16 : decode cX8_pass 16 = .ok (.iload_n 1, 1) := by decide +kernel
theorem dX8_pass_17 : decode cX8_pass 17 = .ok (.iadd, 1) := by decide +kernel
theorem dX8_pass_18 : decode cX8_pass 18 = .ok (.sipush 10000, 3) := by decide +kernel
theorem dX8_pass_21 : decode cX8_pass 21 = .ok (.if_icmp .le 5, 3) := by decide +kernel
theorem dX8_pass_24 : decode cX8_pass 24 = .ok (.iconst (-1), 1) := by decide +kernel
theorem dX8_pass_25 : decode cX8_pass 25 = .ok (.ireturn, 1) := by decide +kernel
theorem dX8_pass_26 : decode cX8_pass 26 = .ok (.aload_n 0, 1) := by decide +kernel
theorem dX8_pass_27 : decode cX8_pass 27 = .ok (.dup, 1) := by decide +kernel
theorem dX8_pass_28 : decode cX8_pass 28 = .ok (.getfield 61, 3) := by decide +kernel
theorem dX8_pass_31 : decode cX8_pass 31 = .ok (.iload_n 1, 1) := by decide +kernel
theorem dX8_pass_32 : decode cX8_pass 32 = .ok (.iadd, 1) := by decide +kernel
theorem dX8_pass_33 : decode cX8_pass 33 = .ok (.putfield 61, 3) := by decide +kernel
theorem dX8_pass_36 : decode cX8_pass 36 = .ok (.aload_n 0, 1) := by decide +kernel
theorem dX8_pass_37 : decode cX8_pass 37 = .ok (.getfield 61, 3) := by decide +kernel
theorem dX8_pass_40 : decode cX8_pass 40 = .ok (.ireturn, 1) := by decide +kernel
set_option maxRecDepth 20000 in
theorem ggX8_alarm_X8_isBelow : GoodIn wsX8_alarm wsX8_isBelow := goodIn_r _ [18] (by decide +kernel) (by decide +kernel)
set_option maxRecDepth 20000 in
theorem gX8_alarm_X8_isBelow : GoodIn wsX8_alarm (va_wsS RX8 64 yX8_isBelow wsX8_isBelow) := goodIn_app (goodIn_of _ (by decide +kernel)) ggX8_alarm_X8_isBelow
set_option maxRecDepth 20000 in
theorem ggX8_alarm_X8_alarmToRepeat : GoodIn wsX8_alarm wsX8_alarmToRepeat := goodIn_r _ [22, 3, 13, 23, 24, 25, 1, 26, 27, 28, 29, 6, 30, 31, 32, 33, 34, 35, 36, 37, 38, 39, 40, 41, 119, 120, 121, 122, 123, 124, 125, 126, 127, 128, 129, 130, 131, 132, 133, 134, 135, 136, 137, 138, 139, 140, 141, 142, 143, 144, 145, 146, 147, 148, 149] (by decide +kernel) (by decide +kernel)
set_option maxRecDepth 20000 in
theorem gX8_alarm_X8_alarmToRepeat : GoodIn wsX8_alarm (wsV RX8 68 RX8 yX8_alarmToRepeat wsX8_alarmToRepeat) := goodIn_app (goodIn_of _ (by decide +kernel)) ggX8_alarm_X8_alarmToRepeat
set_option maxRecDepth 20000 in
theorem ggX8_alarm_X0_repeat : GoodIn wsX8_alarm wsX0_repeat := goodIn_r _ [45, 46, 47, 133, 134, 135, 136, 137, 138, 139, 140, 141, 142, 143, 144, 145, 146, 147, 148, 149] (by decide +kernel) (by decide +kernel)
set_option maxRecDepth 20000 in
theorem gX8_alarm_X0_repeat : GoodIn wsX8_alarm (wsV RX8 72 RX0 yX0_repeat wsX0_repeat) := goodIn_app (goodIn_of _ (by decide +kernel)) ggX8_alarm_X0_repeat
set_option maxRecDepth 20000 in
theorem ggX8_alarm_X3_grow : GoodIn wsX8_alarm wsX3_grow := goodIn_r _ [52, 53, 54, 51, 55, 56, 57, 58, 59, 60, 61, 62, 63, 64, 65, 66, 67, 68, 69, 70, 71, 72, 150, 151, 152, 153, 154, 155, 156, 157] (by decide +kernel) (by decide +kernel)
set_option maxRecDepth 20000 in
theorem gX8_alarm_X3_grow : GoodIn wsX8_alarm (wsV RX8 82 RX3 yX3_grow wsX3_grow) := goodIn_app (goodIn_of _ (by decide +kernel)) ggX8_alarm_X3_grow
set_option maxRecDepth 20000 in
theorem ggX8_alarm_X0_init : GoodIn wsX8_alarm wsX0_init := goodIn_r _ [75, 76, 69, 70, 35, 77, 78, 79, 80, 81, 82, 83, 84, 85, 86, 87, 47, 88, 89, 90, 91, 92, 133, 134, 135, 136, 137, 138, 139, 140, 141, 142, 143, 144, 145, 146, 147, 148, 149, 158, 159, 160, 161] (by decide +kernel) (by decide +kernel)
set_option maxRecDepth 20000 in
theorem gX8_alarm_X0_init : GoodIn wsX8_alarm (wsX0_init) := ggX8_alarm_X0_init
set_option maxRecDepth 20000 in
theorem ggX8_alarm_X8_isSilencedNow : GoodIn wsX8_alarm wsX8_isSilencedNow := goodIn_r _ [96, 97, 98, 1, 99, 100, 101, 102, 103, 104, 105, 106, 119, 120, 121, 122, 123, 124, 125, 126, 127, 128, 129, 130, 131, 132, 162, 163, 164] (by decide +kernel) (by decide +kernel)
set_option maxRecDepth 20000 in
theorem gX8_alarm_X8_isSilencedNow : GoodIn wsX8_alarm (wsV RX8 89 RX8 yX8_isSilencedNow wsX8_isSilencedNow) := goodIn_app (goodIn_of _ (by decide +kernel)) ggX8_alarm_X8_isSilencedNow
set_option maxRecDepth 20000 in
theorem ggX8_alarm_X8_isCapFullNow : GoodIn wsX8_alarm wsX8_isCapFullNow := goodIn_r _ [110, 3, 1, 13, 111, 23, 112, 113, 37, 38, 6, 39, 40, 41, 119, 120, 121, 122, 123, 124, 125, 126, 127, 128, 129, 130, 131, 132, 133, 134, 135, 136, 137, 138, 139, 140, 141, 142, 143, 144, 145, 146, 147, 148, 149] (by decide +kernel) (by decide +kernel)
set_option maxRecDepth 20000 in
theorem gX8_alarm_X8_isCapFullNow : GoodIn wsX8_alarm (wsV RX8 97 RX8 yX8_isCapFullNow wsX8_isCapFullNow) := goodIn_app (goodIn_of _ (by decide +kernel)) ggX8_alarm_X8_isCapFullNow
set_option maxRecDepth 20000 in
theorem ggX8_alarm_X3_addOpen : GoodIn wsX8_alarm wsX3_addOpen := goodIn_r _ [117, 118, 71, 150, 151, 152, 153, 154, 155, 156, 157] (by decide +kernel) (by decide +kernel)
set_option maxRecDepth 20000 in
theorem gX8_alarm_X3_addOpen : GoodIn wsX8_alarm (wsV RX8 106 RX3 yX3_addOpen wsX3_addOpen) := goodIn_app (goodIn_of _ (by decide +kernel)) ggX8_alarm_X3_addOpen
theorem dX8_alarm_0 : decode cX8_alarm 0 = .ok (.iload_n 1, 1) := by decide +kernel
theorem dX8_alarm_1 : decode cX8_alarm 1 = .ok (.bipush 10, 2) := by decide +kernel
theorem dX8_alarm_3 : decode cX8_alarm 3 = .ok (.invokestatic 64, 3) := by decide +kernel
theorem dX8_alarm_6 : decode cX8_alarm 6 = .ok (.ifCond .eq 35, 3) := by decide +kernel
theorem dX8_alarm_9 : decode cX8_alarm 9 = .ok (.iload_n 2, 1) := by decide +kernel
theorem dX8_alarm_10 : decode cX8_alarm 10 = .ok (.bipush 40, 2) := by decide +kernel
theorem dX8_alarm_12 : decode cX8_alarm 12 = .ok (.invokestatic 64, 3) := by decide +kernel
theorem dX8_alarm_15 : decode cX8_alarm 15 = .ok (.ifCond .eq 26, 3) := by decide +kernel
theorem dX8_alarm_18 : decode cX8_alarm 18 = .ok (.iload_n 3, 1) := by decide +kernel
theorem dX8_alarm_19 : decode cX8_alarm 19 = .ok (.sipush 4096, 3) := by decide +kernel
theorem dX8_alarm_22 : decode cX8_alarm 22 = .ok (.invokestatic 64, 3) := by decide +kernel
theorem dX8_alarm_25 : decode cX8_alarm 25 = .ok (.ifCond .eq 16, 3) := by decide +kernel
theorem dX8_alarm_28 : decode cX8_alarm 28 = .ok (.iload 4, 2) := by decide +kernel
theorem dX8_alarm_30 : decode cX8_alarm 30 = .ok (.iconst 1, 1) := by decide +kernel
theorem dX8_alarm_31 : decode cX8_alarm 31 = .ok (.if_icmp .lt 10, 3) := by decide +kernel
theorem dX8_alarm_34 : decode cX8_alarm 34 = .ok (.iload 4, 2) := by decide +kernel
theorem dX8_alarm_36 : decode cX8_alarm 36 = .ok (.bipush 100, 2) := by decide +kernel
theorem dX8_alarm_38 : decode cX8_alarm 38 = .ok (.if_icmp .le 6, 3) := by decide +kernel
theorem dX8_alarm_41 : decode cX8_alarm 41 = .ok (.bipush (-2), 2) := by decide +kernel
theorem dX8_alarm_43 : decode cX8_alarm 43 = .ok (.ireturn, 1) := by decide +kernel
theorem dX8_alarm_44 : decode cX8_alarm 44 = .ok (.aload_n 0, 1) := by decide +kernel
theorem dX8_alarm_45 : decode cX8_alarm 45 = .ok (.iload_n 1, 1) := by decide +kernel
theorem dX8_alarm_46 : decode cX8_alarm 46 = .ok (.iload_n 2, 1) := by decide +kernel
theorem dX8_alarm_47 : decode cX8_alarm 47 = .ok (.iload_n 3, 1) := by decide +kernel
theorem dX8_alarm_48 : decode cX8_alarm 48 = .ok (.invokevirtual 68, 3) := by decide +kernel
theorem dX8_alarm_51 : decode cX8_alarm 51 = .ok (.astore 5, 2) := by decide +kernel
theorem dX8_alarm_53 : decode cX8_alarm 53 = .ok (.aload 5, 2) := by decide +kernel
theorem dX8_alarm_55 : decode cX8_alarm 55 = .ok (.ifnull 18, 3) := by decide +kernel
theorem dX8_alarm_58 : decode cX8_alarm 58 = .ok (.aload 5, 2) := by decide +kernel
theorem dX8_alarm_60 : decode cX8_alarm 60 = .ok (.aload_n 0, 1) := by decide +kernel
theorem dX8_alarm_61 : decode cX8_alarm 61 = .ok (.getfield 61, 3) := by decide +kernel
theorem dX8_alarm_64 : decode cX8_alarm 64 = .ok (.invokevirtual 72, 3) := by decide +kernel
theorem dX8_alarm_67 : decode cX8_alarm 67 = .ok (.aload 5, 2) := by decide +kernel
theorem dX8_alarm_69 : decode cX8_alarm 69 = .ok (.getfield 76, 3) := by decide +kernel
theorem dX8_alarm_72 : decode cX8_alarm 72 = .ok (.ireturn, 1) := by decide +kernel
theorem dX8_alarm_73 : decode cX8_alarm 73 = .ok (.aload_n 0, 1) := by decide +kernel
theorem dX8_alarm_74 : decode cX8_alarm 74 = .ok (.getfield 79, 3) := by decide +kernel
theorem dX8_alarm_77 : decode cX8_alarm 77 = .ok (.sipush 200, 3) := by decide +kernel
theorem dX8_alarm_80 : decode cX8_alarm 80 = .ok (.if_icmp .lt 6, 3) := by decide +kernel
theorem dX8_alarm_83 : decode cX8_alarm 83 = .ok (.bipush (-3), 2) := by decide +kernel
theorem dX8_alarm_85 : decode cX8_alarm 85 = .ok (.ireturn, 1) := by decide +kernel
theorem dX8_alarm_86 : decode cX8_alarm 86 = .ok (.new 9, 3) := by decide +kernel
theorem dX8_alarm_89 : decode cX8_alarm 89 = .ok (.dup, 1) := by decide +kernel
theorem dX8_alarm_90 : decode cX8_alarm 90 = .ok (.aload_n 0, 1) := by decide +kernel
theorem dX8_alarm_91 : decode cX8_alarm 91 = .ok (.getfield 79, 3) := by decide +kernel
theorem dX8_alarm_94 : decode cX8_alarm 94 = .ok (.aload_n 0, 1) := by decide +kernel
theorem dX8_alarm_95 : decode cX8_alarm 95 = .ok (.getfield 61, 3) := by decide +kernel
theorem dX8_alarm_98 : decode cX8_alarm 98 = .ok (.iload_n 1, 1) := by decide +kernel
theorem dX8_alarm_99 : decode cX8_alarm 99 = .ok (.iload_n 2, 1) := by decide +kernel
theorem dX8_alarm_100 : decode cX8_alarm 100 = .ok (.iload_n 3, 1) := by decide +kernel
theorem dX8_alarm_101 : decode cX8_alarm 101 = .ok (.iload 4, 2) := by decide +kernel
theorem dX8_alarm_103 : decode cX8_alarm 103 = .ok (.aload_n 0, 1) := by decide +kernel
theorem dX8_alarm_104 : decode cX8_alarm 104 = .ok (.getfield 29, 3) := by decide +kernel
theorem dX8_alarm_107 : decode cX8_alarm 107 = .ok (.iload_n 3, 1) := by decide +kernel
theorem dX8_alarm_108 : decode cX8_alarm 108 = .ok (.invokevirtual 82, 3) := by decide +kernel
theorem dX8_alarm_111 : decode cX8_alarm 111 = .ok (.invokespecial 86, 3) := by decide +kernel
theorem dX8_alarm_114 : decode cX8_alarm 114 = .ok (.astore 6, 2) := by decide +kernel
theorem dX8_alarm_116 : decode cX8_alarm 116 = .ok (.aload 6, 2) := by decide +kernel
theorem dX8_alarm_118 : decode cX8_alarm 118 = .ok (.aload_n 0, 1) := by decide +kernel
theorem dX8_alarm_119 : decode cX8_alarm 119 = .ok (.iload_n 1, 1) := by decide +kernel
theorem dX8_alarm_120 : decode cX8_alarm 120 = .ok (.invokevirtual 89, 3) := by decide +kernel
theorem dX8_alarm_123 : decode cX8_alarm 123 = .ok (.putfield 93, 3) := by decide +kernel
theorem dX8_alarm_126 : decode cX8_alarm 126 = .ok (.aload 6, 2) := by decide +kernel
theorem dX8_alarm_128 : decode cX8_alarm 128 = .ok (.aload 6, 2) := by decide +kernel
theorem dX8_alarm_130 : decode cX8_alarm 130 = .ok (.getfield 93, 3) := by decide +kernel
theorem dX8_alarm_133 : decode cX8_alarm 133 = .ok (.ifCond .ne 15, 3) := by decide +kernel
theorem dX8_alarm_136 : decode cX8_alarm 136 = .ok (.aload_n 0, 1) := by decide +kernel
theorem dX8_alarm_137 : decode cX8_alarm 137 = .ok (.iload_n 1, 1) := by decide +kernel
theorem dX8_alarm_138 : decode cX8_alarm 138 = .ok (.invokevirtual 97, 3) := by decide +kernel
theorem dX8_alarm_141 : decode cX8_alarm 141 = .ok (.ifCond .eq 7, 3) := by decide +kernel
theorem dX8_alarm_144 : decode cX8_alarm 144 = .ok (.iconst 1, 1) := by decide +kernel
theorem dX8_alarm_145 : decode cX8_alarm 145 = .ok (.goto 4, 3) := by decide +kernel
theorem dX8_alarm_148 : decode cX8_alarm 148 = .ok (.iconst 0, 1) := by decide +kernel
theorem dX8_alarm_149 : decode cX8_alarm 149 = .ok (.putfield 100, 3) := by decide +kernel
theorem dX8_alarm_152 : decode cX8_alarm 152 = .ok (.aload 6, 2) := by decide +kernel
theorem dX8_alarm_154 : decode cX8_alarm 154 = .ok (.getfield 103, 3) := by decide +kernel
theorem dX8_alarm_157 : decode cX8_alarm 157 = .ok (.invokevirtual 106, 3) := by decide +kernel
theorem dX8_alarm_160 : decode cX8_alarm 160 = .ok (.aload 6, 2) := by decide +kernel
theorem dX8_alarm_162 : decode cX8_alarm 162 = .ok (.aload_n 0, 1) := by decide +kernel
theorem dX8_alarm_163 : decode cX8_alarm 163 = .ok (.getfield 15, 3) := by decide +kernel
theorem dX8_alarm_166 : decode cX8_alarm 166 = .ok (.iload_n 2, 1) := by decide +kernel
theorem dX8_alarm_167 : decode cX8_alarm 167 = .ok (.aaload, 1) := by decide +kernel
theorem dX8_alarm_168 : decode cX8_alarm 168 = .ok (.putfield 109, 3) := by decide +kernel
theorem dX8_alarm_171 : decode cX8_alarm 171 = .ok (.aload_n 0, 1) := by decide +kernel
theorem dX8_alarm_172 : decode cX8_alarm 172 = .ok (.getfield 15, 3) := by decide +kernel
theorem dX8_alarm_175 : decode cX8_alarm 175 = .ok (.iload_n 2, 1) := by decide +kernel
theorem dX8_alarm_176 : decode cX8_alarm 176 = .ok (.aload 6, 2) := by decide +kernel
theorem dX8_alarm_178 : decode cX8_alarm 178 = .ok (.aastore, 1) := by decide +kernel
theorem dX8_alarm_179 : decode cX8_alarm 179 = .ok (.aload_n 0, 1) := by decide +kernel
theorem dX8_alarm_180 : decode cX8_alarm 180 = .ok (.getfield 11, 3) := by decide +kernel
theorem dX8_alarm_183 : decode cX8_alarm 183 = .ok (.aload_n 0, 1) := by decide +kernel
theorem dX8_alarm_184 : decode cX8_alarm 184 = .ok (.getfield 79, 3) := by decide +kernel
theorem dX8_alarm_187 : decode cX8_alarm 187 = .ok (.aload 6, 2) := by decide +kernel
theorem dX8_alarm_189 : decode cX8_alarm 189 = .ok (.aastore, 1) := by decide +kernel
theorem dX8_alarm_190 : decode cX8_alarm 190 = .ok (.aload_n 0, 1) := by decide +kernel
theorem dX8_alarm_191 : decode cX8_alarm 191 = .ok (.dup, 1) := by decide +kernel
theorem dX8_alarm_192 : decode cX8_alarm 192 = .ok (.getfield 79, 3) := by decide +kernel
theorem dX8_alarm_195 : decode cX8_alarm 195 = .ok (.iconst 1, 1) := by decide +kernel
theorem dX8_alarm_196 : decode cX8_alarm 196 = .ok (.iadd, 1) := by decide +kernel
theorem dX8_alarm_197 : decode cX8_alarm 197 = .ok (.putfield 79, 3) := by decide +kernel
theorem dX8_alarm_200 : decode cX8_alarm 200 = .ok (.aload_n 0, 1) := by decide +kernel
theorem dX8_alarm_201 : decode cX8_alarm 201 = .ok (.iconst 1, 1) := by decide +kernel
theorem dX8_alarm_202 : decode cX8_alarm 202 = .ok (.putfield 113, 3) := by decide +kernel
theorem dX8_alarm_205 : decode cX8_alarm 205 = .ok (.aload 6, 2) := by decide +kernel
theorem dX8_alarm_207 : decode cX8_alarm 207 = .ok (.getfield 76, 3) := by decide +kernel
theorem dX8_alarm_210 : decode cX8_alarm 210 = .ok (.ireturn, 1) := by decide +kernel
set_option maxRecDepth 20000 in
theorem ggX8_silence_X8_isBelow : GoodIn wsX8_silence wsX8_isBelow := goodIn_r _ [9] (by decide +kernel) (by decide +kernel)
set_option maxRecDepth 20000 in
theorem gX8_silence_X8_isBelow : GoodIn wsX8_silence (va_wsS RX8 64 yX8_isBelow wsX8_isBelow) := goodIn_app (goodIn_of _ (by decide +kernel)) ggX8_silence_X8_isBelow
set_option maxRecDepth 20000 in
theorem ggX8_silence_X6_init : GoodIn wsX8_silence wsX6_init := goodIn_r _ [12, 13, 14, 15, 16, 17, 18, 33, 34, 35] (by decide +kernel) (by decide +kernel)
set_option maxRecDepth 20000 in
theorem gX8_silence_X6_init : GoodIn wsX8_silence (wsX6_init) := ggX8_silence_X6_init
theorem dX8_silence_0 : decode cX8_silence 0 = .ok (.iload_n 1, 1) := by decide +kernel
theorem dX8_silence_1 : decode cX8_silence 1 = .ok (.bipush 10, 2) := by decide +kernel
theorem dX8_silence_3 : decode cX8_silence 3 = .ok (.invokestatic 64, 3) := by decide +kernel
theorem dX8_silence_6 : decode cX8_silence 6 = .ok (.ifCond .eq 28, 3) := by decide +kernel
theorem dX8_silence_9 : decode cX8_silence 9 = .ok (.iload_n 2, 1) := by decide +kernel
theorem dX8_silence_10 : decode cX8_silence 10 = .ok (.ifCond .lt 24, 3) := by decide +kernel
theorem dX8_silence_13 : decode cX8_silence 13 = .ok (.iload_n 2, 1) := by decide +kernel
theorem dX8_silence_14 : decode cX8_silence 14 = .ok (.iload_n 3, 1) := by decide +kernel
theorem dX8_silence_15 : decode cX8_silence 15 = .ok (.if_icmp .gt 19, 3) := by decide +kernel
theorem dX8_silence_18 : decode cX8_silence 18 = .ok (.iload_n 3, 1) := by decide +kernel
theorem dX8_silence_19 : decode cX8_silence 19 = .ok (.sipush 10000, 3) := by decide +kernel
theorem dX8_silence_22 : decode cX8_silence 22 = .ok (.if_icmp .gt 12, 3) := by decide +kernel
theorem dX8_silence_25 : decode cX8_silence 25 = .ok (.aload_n 0, 1) := by decide +kernel
theorem dX8_silence_26 : decode cX8_silence 26 = .ok (.getfield 116, 3) := by decide +kernel
theorem dX8_silence_29 : decode cX8_silence 29 = .ok (.bipush 30, 2) := by decide +kernel
theorem dX8_silence_31 : decode cX8_silence 31 = .ok (.if_icmp .lt 5, 3) := by decide +kernel
theorem dX8_silence_34 : decode cX8_silence 34 = .ok (.iconst (-1), 1) := by decide +kernel
theorem dX8_silence_35 : decode cX8_silence 35 = .ok (.ireturn, 1) := by decide +kernel
theorem dX8_silence_36 : decode cX8_silence 36 = .ok (.aload_n 0, 1) := by decide +kernel
theorem dX8_silence_37 : decode cX8_silence 37 = .ok (.getfield 20, 3) := by decide +kernel
theorem dX8_silence_40 : decode cX8_silence 40 = .ok (.aload_n 0, 1) := by decide +kernel
theorem dX8_silence_41 : decode cX8_silence 41 = .ok (.getfield 116, 3) := by decide +kernel
theorem dX8_silence_44 : decode cX8_silence 44 = .ok (.new 18, 3) := by decide +kernel
theorem dX8_silence_47 : decode cX8_silence 47 = .ok (.dup, 1) := by decide +kernel
theorem dX8_silence_48 : decode cX8_silence 48 = .ok (.iload_n 1, 1) := by decide +kernel
theorem dX8_silence_49 : decode cX8_silence 49 = .ok (.iload_n 2, 1) := by decide +kernel
theorem dX8_silence_50 : decode cX8_silence 50 = .ok (.iload_n 3, 1) := by decide +kernel
theorem dX8_silence_51 : decode cX8_silence 51 = .ok (.invokespecial 119, 3) := by decide +kernel
theorem dX8_silence_54 : decode cX8_silence 54 = .ok (.aastore, 1) := by decide +kernel
theorem dX8_silence_55 : decode cX8_silence 55 = .ok (.aload_n 0, 1) := by decide +kernel
theorem dX8_silence_56 : decode cX8_silence 56 = .ok (.dup, 1) := by decide +kernel
theorem dX8_silence_57 : decode cX8_silence 57 = .ok (.getfield 116, 3) := by decide +kernel
theorem dX8_silence_60 : decode cX8_silence 60 = .ok (.iconst 1, 1) := by decide +kernel
theorem dX8_silence_61 : decode cX8_silence 61 = .ok (.iadd, 1) := by decide +kernel
theorem dX8_silence_62 : decode cX8_silence 62 = .ok (.putfield 116, 3) := by decide +kernel
theorem dX8_silence_65 : decode cX8_silence 65 = .ok (.aload_n 0, 1) := by decide +kernel
theorem dX8_silence_66 : decode cX8_silence 66 = .ok (.getfield 116, 3) := by decide +kernel
theorem dX8_silence_69 : decode cX8_silence 69 = .ok (.ireturn, 1) := by decide +kernel
theorem dX8_set_0 : decode cX8_set 0 = .ok (.iload_n 1, 1) := by decide +kernel
theorem dX8_set_1 : decode cX8_set 1 = .ok (.ifCond .ne 21, 3) := by decide +kernel
theorem dX8_set_4 : decode cX8_set 4 = .ok (.iload_n 2, 1) := by decide +kernel
theorem dX8_set_5 : decode cX8_set 5 = .ok (.iconst 1, 1) := by decide +kernel
theorem dX8_set_6 : decode cX8_set 6 = .ok (.if_icmp .lt 16, 3) := by decide +kernel
theorem dX8_set_9 : decode cX8_set 9 = .ok (.iload_n 2, 1) := by decide +kernel
theorem dX8_set_10 : decode cX8_set 10 = .ok (.bipush 50, 2) := by decide +kernel
theorem dX8_set_12 : decode cX8_set 12 = .ok (.if_icmp .gt 10, 3) := by decide +kernel
theorem dX8_set_15 : decode cX8_set 15 = .ok (.aload_n 0, 1) := by decide +kernel
theorem dX8_set_16 : decode cX8_set 16 = .ok (.iload_n 2, 1) := by decide +kernel
theorem dX8_set_17 : decode cX8_set 17 = .ok (.putfield 54, 3) := by decide +kernel
theorem dX8_set_20 : decode cX8_set 20 = .ok (.iconst 1, 1) := by decide +kernel
theorem dX8_set_21 : decode cX8_set 21 = .ok (.ireturn, 1) := by decide +kernel
theorem dX8_set_22 : decode cX8_set 22 = .ok (.iload_n 1, 1) := by decide +kernel
theorem dX8_set_23 : decode cX8_set 23 = .ok (.iconst 1, 1) := by decide +kernel
theorem dX8_set_24 : decode cX8_set 24 = .ok (.if_icmp .ne 26, 3) := by decide +kernel
theorem dX8_set_27 : decode cX8_set 27 = .ok (.iload_n 2, 1) := by decide +kernel
theorem dX8_set_28 : decode cX8_set 28 = .ok (.iconst 1, 1) := by decide +kernel
theorem dX8_set_29 : decode cX8_set 29 = .ok (.if_icmp .lt 21, 3) := by decide +kernel
theorem dX8_set_32 : decode cX8_set 32 = .ok (.iload_n 2, 1) := by decide +kernel
theorem dX8_set_33 : decode cX8_set 33 = .ok (.bipush 20, 2) := by decide +kernel
theorem dX8_set_35 : decode cX8_set 35 = .ok (.if_icmp .gt 15, 3) := by decide +kernel
theorem dX8_set_38 : decode cX8_set 38 = .ok (.aload_n 0, 1) := by decide +kernel
theorem dX8_set_39 : decode cX8_set 39 = .ok (.iload_n 2, 1) := by decide +kernel
theorem dX8_set_40 : decode cX8_set 40 = .ok (.putfield 58, 3) := by decide +kernel
theorem dX8_set_43 : decode cX8_set 43 = .ok (.aload_n 0, 1) := by decide +kernel
theorem dX8_set_44 : decode cX8_set 44 = .ok (.iconst 1, 1) := by decide +kernel
theorem dX8_set_45 : decode cX8_set 45 = .ok (.putfield 113, 3) := by decide +kernel
theorem dX8_set_48 : decode cX8_set 48 = .ok (.iconst 1, 1) := by decide +kernel
theorem dX8_set_49 : decode cX8_set 49 = .ok (.ireturn, 1) := by decide +kernel
theorem dX8_set_50 : decode cX8_set 50 = .ok (.iload_n 1, 1) := by decide +kernel
theorem dX8_set_51 : decode cX8_set 51 = .ok (.iconst 2, 1) := by decide +kernel
theorem dX8_set_52 : decode cX8_set 52 = .ok (.if_icmp .ne 19, 3) := by decide +kernel
theorem dX8_set_55 : decode cX8_set 55 = .ok (.iload_n 2, 1) := by decide +kernel
theorem dX8_set_56 : decode cX8_set 56 = .ok (.ifCond .lt 15, 3) := by decide +kernel
theorem dX8_set_59 : decode cX8_set 59 = .ok (.iload_n 2, 1) := by decide +kernel
theorem dX8_set_60 : decode cX8_set 60 = .ok (.iconst 5, 1) := by decide +kernel
theorem dX8_set_61 : decode cX8_set 61 = .ok (.if_icmp .gt 10, 3) := by decide +kernel
theorem dX8_set_64 : decode cX8_set 64 = .ok (.aload_n 0, 1) := by decide +kernel
theorem dX8_set_65 : decode cX8_set 65 = .ok (.iload_n 2, 1) := by decide +kernel
theorem dX8_set_66 : decode cX8_set 66 = .ok (.putfield 122, 3) := by decide +kernel
theorem dX8_set_69 : decode cX8_set 69 = .ok (.iconst 1, 1) := by decide +kernel
theorem dX8_set_70 : decode cX8_set 70 = .ok (.ireturn, 1) := by decide +kernel
theorem dX8_set_71 : decode cX8_set 71 = .ok (.iconst 0, 1) := by decide +kernel
theorem dX8_set_72 : decode cX8_set 72 = .ok (.ireturn, 1) := by decide +kernel
set_option maxRecDepth 20000 in
theorem ggX8_verdict_X8_alarmAt : GoodIn wsX8_verdict wsX8_alarmAt := goodIn_r _ [7, 8, 9, 10, 11, 6, 12, 64, 65, 66, 67, 68, 69, 70, 71, 72, 73, 74, 75, 76, 77] (by decide +kernel) (by decide +kernel)
set_option maxRecDepth 20000 in
theorem gX8_verdict_X8_alarmAt : GoodIn wsX8_verdict (wsV RX8 125 RX8 yX8_alarmAt wsX8_alarmAt) := goodIn_app (goodIn_of _ (by decide +kernel)) ggX8_verdict_X8_alarmAt
set_option maxRecDepth 20000 in
theorem ggX8_verdict_X8_isBelow : GoodIn wsX8_verdict wsX8_isBelow := goodIn_r _ [12] (by decide +kernel) (by decide +kernel)
set_option maxRecDepth 20000 in
theorem gX8_verdict_X8_isBelow : GoodIn wsX8_verdict (va_wsS RX8 64 yX8_isBelow wsX8_isBelow) := goodIn_app (goodIn_of _ (by decide +kernel)) ggX8_verdict_X8_isBelow
set_option maxRecDepth 20000 in
theorem ggX8_verdict_X0_isOpen : GoodIn wsX8_verdict wsX0_isOpen := goodIn_r _ [17, 18, 47, 48, 49, 50, 51, 52, 53, 54, 55, 56, 57, 58, 59, 60, 61, 62, 63] (by decide +kernel) (by decide +kernel)
set_option maxRecDepth 20000 in
theorem gX8_verdict_X0_isOpen : GoodIn wsX8_verdict (wsV RX8 129 RX0 yX0_isOpen wsX0_isOpen) := goodIn_app (goodIn_of _ (by decide +kernel)) ggX8_verdict_X0_isOpen
set_option maxRecDepth 20000 in
theorem ggX8_verdict_X0_hasHeard : GoodIn wsX8_verdict wsX0_hasHeard := goodIn_r _ [22, 23, 24, 47, 48, 49, 50, 51, 52, 53, 54, 55, 56, 57, 58, 59, 60, 61, 62, 63] (by decide +kernel) (by decide +kernel)
set_option maxRecDepth 20000 in
theorem gX8_verdict_X0_hasHeard : GoodIn wsX8_verdict (wsV RX8 133 RX0 yX0_hasHeard wsX0_hasHeard) := goodIn_app (goodIn_of _ (by decide +kernel)) ggX8_verdict_X0_hasHeard
set_option maxRecDepth 20000 in
theorem ggX8_verdict_X0_hear : GoodIn wsX8_verdict wsX0_hear := goodIn_r _ [28, 23, 24, 18, 29, 30, 31, 32, 33, 34, 35, 47, 48, 49, 50, 51, 52, 53, 54, 55, 56, 57, 58, 59, 60, 61, 62, 63] (by decide +kernel) (by decide +kernel)
set_option maxRecDepth 20000 in
theorem gX8_verdict_X0_hear : GoodIn wsX8_verdict (wsV RX8 136 RX0 yX0_hear wsX0_hear) := goodIn_app (goodIn_of _ (by decide +kernel)) ggX8_verdict_X0_hear
set_option maxRecDepth 20000 in
theorem ggX8_verdict_X3_settle : GoodIn wsX8_verdict wsX3_settle := goodIn_r _ [40, 41, 42, 43, 44, 45, 6, 46, 78, 79, 80, 81, 82, 83, 84, 85] (by decide +kernel) (by decide +kernel)
set_option maxRecDepth 20000 in
theorem gX8_verdict_X3_settle : GoodIn wsX8_verdict (wsV RX8 140 RX3 yX3_settle wsX3_settle) := goodIn_app (goodIn_of _ (by decide +kernel)) ggX8_verdict_X3_settle
theorem dX8_verdict_0 : decode cX8_verdict 0 = .ok (.aload_n 0, 1) := by decide +kernel
theorem dX8_verdict_1 : decode cX8_verdict 1 = .ok (.iload_n 1, 1) := by decide +kernel
theorem dX8_verdict_2 : decode cX8_verdict 2 = .ok (.invokevirtual 125, 3) := by decide +kernel
theorem dX8_verdict_5 : decode cX8_verdict 5 = .ok (.astore 4, 2) := by decide +kernel
theorem dX8_verdict_7 : decode cX8_verdict 7 = .ok (.aload 4, 2) := by decide +kernel
theorem dX8_verdict_9 : decode cX8_verdict 9 = .ok (.ifnull 29, 3) := by decide +kernel
theorem dX8_verdict_12 : decode cX8_verdict 12 = .ok (.iload_n 2, 1) := by decide +kernel
theorem dX8_verdict_13 : decode cX8_verdict 13 = .ok (.bipush 10, 2) := by decide +kernel
theorem dX8_verdict_15 : decode cX8_verdict 15 = .ok (.invokestatic 64, 3) := by decide +kernel
theorem dX8_verdict_18 : decode cX8_verdict 18 = .ok (.ifCond .eq 20, 3) := by decide +kernel
theorem dX8_verdict_21 : decode cX8_verdict 21 = .ok (.aload 4, 2) := by decide +kernel
theorem dX8_verdict_23 : decode cX8_verdict 23 = .ok (.invokevirtual 129, 3) := by decide +kernel
theorem dX8_verdict_26 : decode cX8_verdict 26 = .ok (.ifCond .eq 12, 3) := by decide +kernel
theorem dX8_verdict_29 : decode cX8_verdict 29 = .ok (.aload 4, 2) := by decide +kernel
theorem dX8_verdict_31 : decode cX8_verdict 31 = .ok (.iload_n 2, 1) := by decide +kernel
theorem dX8_verdict_32 : decode cX8_verdict 32 = .ok (.invokevirtual 133, 3) := by decide +kernel
theorem dX8_verdict_35 : decode cX8_verdict 35 = .ok (.ifCond .eq 5, 3) := by decide +kernel
theorem dX8_verdict_38 : decode cX8_verdict 38 = .ok (.iconst (-1), 1) := by decide +kernel
theorem dX8_verdict_39 : decode cX8_verdict 39 = .ok (.ireturn, 1) := by decide +kernel
theorem dX8_verdict_40 : decode cX8_verdict 40 = .ok (.aload 4, 2) := by decide +kernel
theorem dX8_verdict_42 : decode cX8_verdict 42 = .ok (.iload_n 2, 1) := by decide +kernel
theorem dX8_verdict_43 : decode cX8_verdict 43 = .ok (.iload_n 3, 1) := by decide +kernel
theorem dX8_verdict_44 : decode cX8_verdict 44 = .ok (.invokevirtual 136, 3) := by decide +kernel
theorem dX8_verdict_47 : decode cX8_verdict 47 = .ok (.aload 4, 2) := by decide +kernel
theorem dX8_verdict_49 : decode cX8_verdict 49 = .ok (.invokevirtual 129, 3) := by decide +kernel
theorem dX8_verdict_52 : decode cX8_verdict 52 = .ok (.ifCond .eq 5, 3) := by decide +kernel
theorem dX8_verdict_55 : decode cX8_verdict 55 = .ok (.iconst 0, 1) := by decide +kernel
theorem dX8_verdict_56 : decode cX8_verdict 56 = .ok (.ireturn, 1) := by decide +kernel
theorem dX8_verdict_57 : decode cX8_verdict 57 = .ok (.aload 4, 2) := by decide +kernel
theorem dX8_verdict_59 : decode cX8_verdict 59 = .ok (.getfield 103, 3) := by decide +kernel
theorem dX8_verdict_62 : decode cX8_verdict 62 = .ok (.iload_n 3, 1) := by decide +kernel
theorem dX8_verdict_63 : decode cX8_verdict 63 = .ok (.invokevirtual 140, 3) := by decide +kernel
theorem dX8_verdict_66 : decode cX8_verdict 66 = .ok (.aload_n 0, 1) := by decide +kernel
theorem dX8_verdict_67 : decode cX8_verdict 67 = .ok (.iconst 1, 1) := by decide +kernel
theorem dX8_verdict_68 : decode cX8_verdict 68 = .ok (.putfield 113, 3) := by decide +kernel
theorem dX8_verdict_71 : decode cX8_verdict 71 = .ok (.iconst 1, 1) := by decide +kernel
theorem dX8_verdict_72 : decode cX8_verdict 72 = .ok (.ireturn, 1) := by decide +kernel
set_option maxRecDepth 20000 in
theorem ggX8_tie_X8_isBelow : GoodIn wsX8_tie wsX8_isBelow := goodIn_r _ [7] (by decide +kernel) (by decide +kernel)
set_option maxRecDepth 20000 in
theorem gX8_tie_X8_isBelow : GoodIn wsX8_tie (va_wsS RX8 64 yX8_isBelow wsX8_isBelow) := goodIn_app (goodIn_of _ (by decide +kernel)) ggX8_tie_X8_isBelow
set_option maxRecDepth 20000 in
theorem ggX8_tie_X7_tell : GoodIn wsX8_tie wsX7_tell := goodIn_r _ [12, 13, 14, 15, 16, 17, 18, 19, 20, 21, 22, 23, 24, 25, 26, 27, 28, 11, 29, 30, 31, 32, 33, 34, 35, 36, 37, 38, 39, 40, 55, 56, 57, 58, 59] (by decide +kernel) (by decide +kernel)
set_option maxRecDepth 20000 in
theorem gX8_tie_X7_tell : GoodIn wsX8_tie (wsV RX8 144 RX7 yX7_tell wsX7_tell) := goodIn_app (goodIn_of _ (by decide +kernel)) ggX8_tie_X7_tell
theorem dX8_tie_0 : decode cX8_tie 0 = .ok (.iload_n 1, 1) := by decide +kernel
theorem dX8_tie_1 : decode cX8_tie 1 = .ok (.iload_n 2, 1) := by decide +kernel
theorem dX8_tie_2 : decode cX8_tie 2 = .ok (.if_icmp .eq 25, 3) := by decide +kernel
theorem dX8_tie_5 : decode cX8_tie 5 = .ok (.iload_n 1, 1) := by decide +kernel
theorem dX8_tie_6 : decode cX8_tie 6 = .ok (.aload_n 0, 1) := by decide +kernel
theorem dX8_tie_7 : decode cX8_tie 7 = .ok (.getfield 79, 3) := by decide +kernel
theorem dX8_tie_10 : decode cX8_tie 10 = .ok (.invokestatic 64, 3) := by decide +kernel
theorem dX8_tie_13 : decode cX8_tie 13 = .ok (.ifCond .eq 14, 3) := by decide +kernel
theorem dX8_tie_16 : decode cX8_tie 16 = .ok (.iload_n 2, 1) := by decide +kernel
theorem dX8_tie_17 : decode cX8_tie 17 = .ok (.aload_n 0, 1) := by decide +kernel
theorem dX8_tie_18 : decode cX8_tie 18 = .ok (.getfield 79, 3) := by decide +kernel
theorem dX8_tie_21 : decode cX8_tie 21 = .ok (.invokestatic 64, 3) := by decide +kernel
theorem dX8_tie_24 : decode cX8_tie 24 = .ok (.ifCond .ne 5, 3) := by decide +kernel
theorem dX8_tie_27 : decode cX8_tie 27 = .ok (.iconst 0, 1) := by decide +kernel
theorem dX8_tie_28 : decode cX8_tie 28 = .ok (.ireturn, 1) := by decide +kernel
theorem dX8_tie_29 : decode cX8_tie 29 = .ok (.aload_n 0, 1) := by decide +kernel
theorem dX8_tie_30 : decode cX8_tie 30 = .ok (.getfield 36, 3) := by decide +kernel
theorem dX8_tie_33 : decode cX8_tie 33 = .ok (.iload_n 1, 1) := by decide +kernel
theorem dX8_tie_34 : decode cX8_tie 34 = .ok (.iload_n 2, 1) := by decide +kernel
theorem dX8_tie_35 : decode cX8_tie 35 = .ok (.iload_n 3, 1) := by decide +kernel
theorem dX8_tie_36 : decode cX8_tie 36 = .ok (.invokevirtual 144, 3) := by decide +kernel
theorem dX8_tie_39 : decode cX8_tie 39 = .ok (.ifCond .ne 5, 3) := by decide +kernel
theorem dX8_tie_42 : decode cX8_tie 42 = .ok (.iconst 0, 1) := by decide +kernel
theorem dX8_tie_43 : decode cX8_tie 43 = .ok (.ireturn, 1) := by decide +kernel
theorem dX8_tie_44 : decode cX8_tie 44 = .ok (.aload_n 0, 1) := by decide +kernel
theorem dX8_tie_45 : decode cX8_tie 45 = .ok (.iconst 1, 1) := by decide +kernel
theorem dX8_tie_46 : decode cX8_tie 46 = .ok (.putfield 113, 3) := by decide +kernel
theorem dX8_tie_49 : decode cX8_tie 49 = .ok (.iconst 1, 1) := by decide +kernel
theorem dX8_tie_50 : decode cX8_tie 50 = .ok (.ireturn, 1) := by decide +kernel
set_option maxRecDepth 20000 in
theorem ggX8_told_X8_alarmAt : GoodIn wsX8_told wsX8_alarmAt := goodIn_r _ [16, 17, 18, 19, 20, 15, 21, 197, 198, 199, 200, 201, 202, 203, 204, 205, 206, 207, 208, 209, 210] (by decide +kernel) (by decide +kernel)
set_option maxRecDepth 20000 in
theorem gX8_told_X8_alarmAt : GoodIn wsX8_told (wsV RX8 125 RX8 yX8_alarmAt wsX8_alarmAt) := goodIn_app (goodIn_of _ (by decide +kernel)) ggX8_told_X8_alarmAt
set_option maxRecDepth 20000 in
theorem ggX8_told_X8_oneIf : GoodIn wsX8_told wsX8_oneIf := goodIn_r _ [24] (by decide +kernel) (by decide +kernel)
set_option maxRecDepth 20000 in
theorem gX8_told_X8_oneIf : GoodIn wsX8_told (va_wsS RX8 169 yX8_oneIf wsX8_oneIf) := goodIn_app (goodIn_of _ (by decide +kernel)) ggX8_told_X8_oneIf
set_option maxRecDepth 20000 in
theorem ggX8_told_X0_score : GoodIn wsX8_told wsX0_score := goodIn_r _ [29, 30, 31, 32, 33, 28, 34, 35, 36, 37, 38, 39, 40, 41, 42, 43, 44, 45, 46, 47, 48, 180, 181, 182, 183, 184, 185, 186, 187, 188, 189, 190, 191, 192, 193, 194, 195, 196, 211, 212, 213, 214, 215, 216, 217, 218] (by decide +kernel) (by decide +kernel)
set_option maxRecDepth 20000 in
theorem gX8_told_X0_score : GoodIn wsX8_told (wsV RX8 173 RX0 yX0_score wsX0_score) := goodIn_app (goodIn_of _ (by decide +kernel)) ggX8_told_X0_score
set_option maxRecDepth 20000 in
theorem ggX8_told_X0_nodeFor : GoodIn wsX8_told wsX0_nodeFor := goodIn_r _ [34, 35, 36, 37, 180, 181, 182, 183, 184, 185, 186, 187, 188, 189, 190, 191, 192, 193, 194, 195, 196, 211, 212, 213, 214, 215, 216, 217, 218] (by decide +kernel) (by decide +kernel)
set_option maxRecDepth 20000 in
theorem gX8_told_X0_nodeFor : GoodIn wsX8_told (wsV RX8 177 RX0 yX0_nodeFor wsX0_nodeFor) := goodIn_app (goodIn_of _ (by decide +kernel)) ggX8_told_X0_nodeFor
set_option maxRecDepth 20000 in
theorem ggX8_told_X0_verdicts : GoodIn wsX8_told wsX0_verdicts := goodIn_r _ [53, 54, 55, 56, 57, 58, 59, 60, 61, 62, 180, 181, 182, 183, 184, 185, 186, 187, 188, 189, 190, 191, 192, 193, 194, 195, 196] (by decide +kernel) (by decide +kernel)
set_option maxRecDepth 20000 in
theorem gX8_told_X0_verdicts : GoodIn wsX8_told (wsV RX8 183 RX0 yX0_verdicts wsX0_verdicts) := goodIn_app (goodIn_of _ (by decide +kernel)) ggX8_told_X0_verdicts
set_option maxRecDepth 20000 in
theorem ggX8_told_X8_caseNumberOf : GoodIn wsX8_told wsX8_caseNumberOf := goodIn_r _ [66, 67, 68, 69, 70, 15, 71, 72, 73, 18, 17, 74, 10, 75, 76, 77, 78, 79, 80, 81, 82, 83, 84, 85, 86, 87, 88, 89, 90, 91, 92, 28, 93, 94, 95, 96, 97, 98, 99, 100, 101, 102, 103, 104, 105, 106, 107, 108, 109, 110, 111, 112, 113, 114, 115, 116, 117, 118, 119, 120, 121, 122, 123, 124, 125, 126, 127, 128, 129, 130, 131, 132, 133, 134, 135, 136, 137, 138, 139, 140, 141, 142, 143, 144, 145, 146, 147, 148, 149, 150, 20, 21, 151, 152, 153, 154, 155, 26, 27, 29, 30, 31, 32, 33, 34, 35, 36, 37, 38, 39, 40, 41, 42, 43, 44, 45, 46, 47, 48, 156, 157, 158, 159, 160, 161, 162, 163, 164, 165, 166, 167, 168, 169, 170, 171, 172, 173, 174, 175, 176, 177, 178, 179, 180, 181, 182, 183, 184, 185, 186, 187, 188, 189, 190, 191, 192, 193, 194, 195, 196, 197, 198, 199, 200, 201, 202, 203, 204, 205, 206, 207, 208, 209, 210, 219, 220, 221, 222, 223, 224, 225, 226, 227, 211, 212, 213, 214, 215, 216, 217, 218, 228, 229] (by decide +kernel) (by decide +kernel)
set_option maxRecDepth 20000 in
theorem gX8_told_X8_caseNumberOf : GoodIn wsX8_told (wsV RX8 187 RX8 yX8_caseNumberOf wsX8_caseNumberOf) := goodIn_app (goodIn_of _ (by decide +kernel)) ggX8_told_X8_caseNumberOf
theorem dX8_told_0 : decode cX8_told 0 = .ok (.aload_n 0, 1) := by decide +kernel
theorem dX8_told_1 : decode cX8_told 1 = .ok (.iload_n 1, 1) := by decide +kernel
theorem dX8_told_2 : decode cX8_told 2 = .ok (.invokevirtual 125, 3) := by decide +kernel
theorem dX8_told_5 : decode cX8_told 5 = .ok (.astore_n 3, 1) := by decide +kernel
theorem dX8_told_6 : decode cX8_told 6 = .ok (.aload_n 3, 1) := by decide +kernel
theorem dX8_told_7 : decode cX8_told 7 = .ok (.ifnonnull 5, 3) := by decide +kernel
theorem dX8_told_10 : decode cX8_told 10 = .ok (.iconst (-1), 1) := by decide +kernel
theorem dX8_told_11 : decode cX8_told 11 = .ok (.ireturn, 1) := by decide +kernel
theorem dX8_told_12 : decode cX8_told 12 = .ok (.iload_n 2, 1) := by decide +kernel
theorem dX8_told_13 : decode cX8_told 13 = .ok (.tableswitch 150 0 12 #[67, 72, 77, 82, 87, 92, 97, 102, 110, 118, 127, 139, 144], 67) := by decide +kernel
theorem dX8_told_80 : decode cX8_told 80 = .ok (.aload_n 3, 1) := by decide +kernel
theorem dX8_told_81 : decode cX8_told 81 = .ok (.getfield 148, 3) := by decide +kernel
theorem dX8_told_84 : decode cX8_told 84 = .ok (.ireturn, 1) := by decide +kernel
theorem dX8_told_85 : decode cX8_told 85 = .ok (.aload_n 3, 1) := by decide +kernel
theorem dX8_told_86 : decode cX8_told 86 = .ok (.getfield 151, 3) := by decide +kernel
theorem dX8_told_89 : decode cX8_told 89 = .ok (.ireturn, 1) := by decide +kernel
theorem dX8_told_90 : decode cX8_told 90 = .ok (.aload_n 3, 1) := by decide +kernel
theorem dX8_told_91 : decode cX8_told 91 = .ok (.getfield 154, 3) := by decide +kernel
theorem dX8_told_94 : decode cX8_told 94 = .ok (.ireturn, 1) := by decide +kernel
theorem dX8_told_95 : decode cX8_told 95 = .ok (.aload_n 3, 1) := by decide +kernel
theorem dX8_told_96 : decode cX8_told 96 = .ok (.getfield 157, 3) := by decide +kernel
theorem dX8_told_99 : decode cX8_told 99 = .ok (.ireturn, 1) := by decide +kernel
theorem dX8_told_100 : decode cX8_told 100 = .ok (.aload_n 3, 1) := by decide +kernel
theorem dX8_told_101 : decode cX8_told 101 = .ok (.getfield 160, 3) := by decide +kernel
theorem dX8_told_104 : decode cX8_told 104 = .ok (.ireturn, 1) := by decide +kernel
theorem dX8_told_105 : decode cX8_told 105 = .ok (.aload_n 3, 1) := by decide +kernel
theorem dX8_told_106 : decode cX8_told 106 = .ok (.getfield 163, 3) := by decide +kernel
theorem dX8_told_109 : decode cX8_told 109 = .ok (.ireturn, 1) := by decide +kernel
theorem dX8_told_110 : decode cX8_told 110 = .ok (.aload_n 3, 1) := by decide +kernel
theorem dX8_told_111 : decode cX8_told 111 = .ok (.getfield 166, 3) := by decide +kernel
theorem dX8_told_114 : decode cX8_told 114 = .ok (.ireturn, 1) := by decide +kernel
theorem dX8_told_115 : decode cX8_told 115 = .ok (.aload_n 3, 1) := by decide +kernel
theorem dX8_told_116 : decode cX8_told 116 = .ok (.getfield 93, 3) := by decide +kernel
theorem dX8_told_119 : decode cX8_told 119 = .ok (.invokestatic 169, 3) := by decide +kernel
theorem dX8_told_122 : decode cX8_told 122 = .ok (.ireturn, 1) := by decide +kernel
theorem dX8_told_123 : decode cX8_told 123 = .ok (.aload_n 3, 1) := by decide +kernel
theorem dX8_told_124 : decode cX8_told 124 = .ok (.getfield 100, 3) := by decide +kernel
theorem dX8_told_127 : decode cX8_told 127 = .ok (.invokestatic 169, 3) := by decide +kernel
theorem dX8_told_130 : decode cX8_told 130 = .ok (.ireturn, 1) := by decide +kernel
theorem dX8_told_131 : decode cX8_told 131 = .ok (.aload_n 3, 1) := by decide +kernel
theorem dX8_told_132 : decode cX8_told 132 = .ok (.aload_n 0, 1) := by decide +kernel
theorem dX8_told_133 : decode cX8_told 133 = .ok (.getfield 58, 3) := by decide +kernel
theorem dX8_told_136 : decode cX8_told 136 = .ok (.invokevirtual 173, 3) := by decide +kernel
theorem dX8_told_139 : decode cX8_told 139 = .ok (.ireturn, 1) := by decide +kernel
theorem dX8_told_140 : decode cX8_told 140 = .ok (.aload_n 3, 1) := by decide +kernel
theorem dX8_told_141 : decode cX8_told 141 = .ok (.aload_n 0, 1) := by decide +kernel
theorem dX8_told_142 : decode cX8_told 142 = .ok (.getfield 58, 3) := by decide +kernel
theorem dX8_told_145 : decode cX8_told 145 = .ok (.invokevirtual 177, 3) := by decide +kernel
theorem dX8_told_148 : decode cX8_told 148 = .ok (.getfield 180, 3) := by decide +kernel
theorem dX8_told_151 : decode cX8_told 151 = .ok (.ireturn, 1) := by decide +kernel
theorem dX8_told_152 : decode cX8_told 152 = .ok (.aload_n 3, 1) := by decide +kernel
theorem dX8_told_153 : decode cX8_told 153 = .ok (.invokevirtual 183, 3) := by decide +kernel
theorem dX8_told_156 : decode cX8_told 156 = .ok (.ireturn, 1) := by decide +kernel
theorem dX8_told_157 : decode cX8_told 157 = .ok (.aload_n 0, 1) := by decide +kernel
theorem dX8_told_158 : decode cX8_told 158 = .ok (.aload_n 3, 1) := by decide +kernel
theorem dX8_told_159 : decode cX8_told 159 = .ok (.invokevirtual 187, 3) := by decide +kernel
theorem dX8_told_162 : decode cX8_told 162 = .ok (.ireturn, 1) := by decide +kernel
theorem dX8_told_163 : decode cX8_told 163 = .ok (.iconst (-1), 1) := by decide +kernel
theorem dX8_told_164 : decode cX8_told 164 = .ok (.ireturn, 1) := by decide +kernel
