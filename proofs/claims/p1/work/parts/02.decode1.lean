theorem dX8_init_90 : decode cX8_init 90 = .ok (.return_, 1) := by decide +kernel
theorem dX8_pass_0 : decode cX8_pass 0 = .ok (.iload_n 1, 1) := by decide +kernel
theorem dX8_pass_1 : decode cX8_pass 1 = .ok (.iconst 1, 1) := by decide +kernel
theorem dX8_pass_2 : decode cX8_pass 2 = .ok (.if_icmp .lt 22, 3) := by decide +kernel
theorem dX8_pass_5 : decode cX8_pass 5 = .ok (.iload_n 1, 1) := by decide +kernel
theorem dX8_pass_6 : decode cX8_pass 6 = .ok (.sipush 1000, 3) := by decide +kernel
theorem dX8_pass_9 : decode cX8_pass 9 = .ok (.if_icmp .gt 15, 3) := by decide +kernel
theorem dX8_pass_12 : decode cX8_pass 12 = .ok (.aload_n 0, 1) := by decide +kernel
theorem dX8_pass_13 : decode cX8_pass 13 = .ok (.getfield 61, 3) := by decide +kernel
theorem dX8_pass_16 : decode cX8_pass 16 = .ok (.iload_n 1, 1) := by decide +kernel
theorem dX8_pass_17 : decode cX8_pass 17 = .ok (.iadd, 1) := by decide +kernel
theorem dX8_pass_18 : decode cX8_pass 18 = .ok (.sipush 10000, 3) := by decide +kernel
theorem dX8_pass_21 : decode cX8_pass 21 = .ok (.if_icmp .le 5, 3) := by decide +kernel
theorem dX8_pass_24 : decode cX8_pass 24 = .ok (.iconst (-1), 1) := by decide +kernel
theorem dX8_pass_25 : decode cX8_pass 25 = .ok (.ireturn, 1) := by decide +kernel
theorem dX8_pass_26 : decode cX8_pass 26 = .ok (.aload_n 0, 1) := by decide +kernel
theorem dX8_pass_27 : decode cX8_pass 27 = .ok (.dup, 1) := by decide +kernel
theorem dX8_pass_28 : decode cX8_pass 28 = .ok (.getfield 61, 3) := by decide +kernel
theorem dX8_pass_31 : decode cX8_pass 31 = .ok (.iload_n 1, 1) := by decide +kernel
theorem dX8_pass_32 : decode cX8_pass 32 = .ok (.iadd, 1) := by decide +kernel
theorem dX8_pass_33 : decode cX8_pass 33 = .ok (.putfield 61, 3) := by decide +kernel
theorem dX8_pass_36 : decode cX8_pass 36 = .ok (.aload_n 0, 1) := by decide +kernel
theorem dX8_pass_37 : decode cX8_pass 37 = .ok (.getfield 61, 3) := by decide +kernel
theorem dX8_pass_40 : decode cX8_pass 40 = .ok (.ireturn, 1) := by decide +kernel
theorem dX8_alarm_0 : decode cX8_alarm 0 = .ok (.iload_n 1, 1) := by decide +kernel
theorem dX8_alarm_1 : decode cX8_alarm 1 = .ok (.bipush 10, 2) := by decide +kernel
theorem dX8_alarm_3 : decode cX8_alarm 3 = .ok (.invokestatic 64, 3) := by decide +kernel
theorem dX8_alarm_6 : decode cX8_alarm 6 = .ok (.ifCond .eq 35, 3) := by decide +kernel
theorem dX8_alarm_9 : decode cX8_alarm 9 = .ok (.iload_n 2, 1) := by decide +kernel
theorem dX8_alarm_10 : decode cX8_alarm 10 = .ok (.bipush 40, 2) := by decide +kernel
theorem dX8_alarm_12 : decode cX8_alarm 12 = .ok (.invokestatic 64, 3) := by decide +kernel
theorem dX8_alarm_15 : decode cX8_alarm 15 = .ok (.ifCond .eq 26, 3) := by decide +kernel
theorem dX8_alarm_18 : decode cX8_alarm 18 = .ok (.iload_n 3, 1) := by decide +kernel
theorem dX8_alarm_19 : decode cX8_alarm 19 = .ok (.sipush 4096, 3) := by decide +kernel
theorem dX8_alarm_22 : decode cX8_alarm 22 = .ok (.invokestatic 64, 3) := by decide +kernel
theorem dX8_alarm_25 : decode cX8_alarm 25 = .ok (.ifCond .eq 16, 3) := by decide +kernel
theorem dX8_alarm_28 : decode cX8_alarm 28 = .ok (.iload 4, 2) := by decide +kernel
theorem dX8_alarm_30 : decode cX8_alarm 30 = .ok (.iconst 1, 1) := by decide +kernel
theorem dX8_alarm_31 : decode cX8_alarm 31 = .ok (.if_icmp .lt 10, 3) := by decide +kernel
theorem dX8_alarm_34 : decode cX8_alarm 34 = .ok (.iload 4, 2) := by decide +kernel
theorem dX8_alarm_36 : decode cX8_alarm 36 = .ok (.bipush 100, 2) := by decide +kernel
theorem dX8_alarm_38 : decode cX8_alarm 38 = .ok (.if_icmp .le 6, 3) := by decide +kernel
theorem dX8_alarm_41 : decode cX8_alarm 41 = .ok (.bipush (-2), 2) := by decide +kernel
theorem dX8_alarm_43 : decode cX8_alarm 43 = .ok (.ireturn, 1) := by decide +kernel
theorem dX8_alarm_44 : decode cX8_alarm 44 = .ok (.aload_n 0, 1) := by decide +kernel
theorem dX8_alarm_45 : decode cX8_alarm 45 = .ok (.iload_n 1, 1) := by decide +kernel
theorem dX8_alarm_46 : decode cX8_alarm 46 = .ok (.iload_n 2, 1) := by decide +kernel
theorem dX8_alarm_47 : decode cX8_alarm 47 = .ok (.iload_n 3, 1) := by decide +kernel
theorem dX8_alarm_48 : decode cX8_alarm 48 = .ok (.invokevirtual 68, 3) := by decide +kernel
theorem dX8_alarm_51 : decode cX8_alarm 51 = .ok (.astore 5, 2) := by decide +kernel
theorem dX8_alarm_53 : decode cX8_alarm 53 = .ok (.aload 5, 2) := by decide +kernel
theorem dX8_alarm_55 : decode cX8_alarm 55 = .ok (.ifnull 18, 3) := by decide +kernel
theorem dX8_alarm_58 : decode cX8_alarm 58 = .ok (.aload 5, 2) := by decide +kernel
theorem dX8_alarm_60 : decode cX8_alarm 60 = .ok (.aload_n 0, 1) := by decide +kernel
theorem dX8_alarm_61 : decode cX8_alarm 61 = .ok (.getfield 61, 3) := by decide +kernel
theorem dX8_alarm_64 : decode cX8_alarm 64 = .ok (.invokevirtual 72, 3) := by decide +kernel
theorem dX8_alarm_67 : decode cX8_alarm 67 = .ok (.aload 5, 2) := by decide +kernel
theorem dX8_alarm_69 : decode cX8_alarm 69 = .ok (.getfield 76, 3) := by decide +kernel
theorem dX8_alarm_72 : decode cX8_alarm 72 = .ok (.ireturn, 1) := by decide +kernel
theorem dX8_alarm_73 : decode cX8_alarm 73 = .ok (.aload_n 0, 1) := by decide +kernel
theorem dX8_alarm_74 : decode cX8_alarm 74 = .ok (.getfield 79, 3) := by decide +kernel
theorem dX8_alarm_77 : decode cX8_alarm 77 = .ok (.sipush 200, 3) := by decide +kernel
theorem dX8_alarm_80 : decode cX8_alarm 80 = .ok (.if_icmp .lt 6, 3) := by decide +kernel
theorem dX8_alarm_83 : decode cX8_alarm 83 = .ok (.bipush (-3), 2) := by decide +kernel
theorem dX8_alarm_85 : decode cX8_alarm 85 = .ok (.ireturn, 1) := by decide +kernel
theorem dX8_alarm_86 : decode cX8_alarm 86 = .ok (.new 9, 3) := by decide +kernel
theorem dX8_alarm_89 : decode cX8_alarm 89 = .ok (.dup, 1) := by decide +kernel
theorem dX8_alarm_90 : decode cX8_alarm 90 = .ok (.aload_n 0, 1) := by decide +kernel
theorem dX8_alarm_91 : decode cX8_alarm 91 = .ok (.getfield 79, 3) := by decide +kernel
theorem dX8_alarm_94 : decode cX8_alarm 94 = .ok (.aload_n 0, 1) := by decide +kernel
theorem dX8_alarm_95 : decode cX8_alarm 95 = .ok (.getfield 61, 3) := by decide +kernel
theorem dX8_alarm_98 : decode cX8_alarm 98 = .ok (.iload_n 1, 1) := by decide +kernel
theorem dX8_alarm_99 : decode cX8_alarm 99 = .ok (.iload_n 2, 1) := by decide +kernel
theorem dX8_alarm_100 : decode cX8_alarm 100 = .ok (.iload_n 3, 1) := by decide +kernel
theorem dX8_alarm_101 : decode cX8_alarm 101 = .ok (.iload 4, 2) := by decide +kernel
theorem dX8_alarm_103 : decode cX8_alarm 103 = .ok (.aload_n 0, 1) := by decide +kernel
theorem dX8_alarm_104 : decode cX8_alarm 104 = .ok (.getfield 29, 3) := by decide +kernel
theorem dX8_alarm_107 : decode cX8_alarm 107 = .ok (.iload_n 3, 1) := by decide +kernel
theorem dX8_alarm_108 : decode cX8_alarm 108 = .ok (.invokevirtual 82, 3) := by decide +kernel
theorem dX8_alarm_111 : decode cX8_alarm 111 = .ok (.invokespecial 86, 3) := by decide +kernel
theorem dX8_alarm_114 : decode cX8_alarm 114 = .ok (.astore 6, 2) := by decide +kernel
theorem dX8_alarm_116 : decode cX8_alarm 116 = .ok (.aload 6, 2) := by decide +kernel
theorem dX8_alarm_118 : decode cX8_alarm 118 = .ok (.aload_n 0, 1) := by decide +kernel
theorem dX8_alarm_119 : decode cX8_alarm 119 = .ok (.iload_n 1, 1) := by decide +kernel
theorem dX8_alarm_120 : decode cX8_alarm 120 = .ok (.invokevirtual 89, 3) := by decide +kernel
theorem dX8_alarm_123 : decode cX8_alarm 123 = .ok (.putfield 93, 3) := by decide +kernel
theorem dX8_alarm_126 : decode cX8_alarm 126 = .ok (.aload 6, 2) := by decide +kernel
theorem dX8_alarm_128 : decode cX8_alarm 128 = .ok (.aload 6, 2) := by decide +kernel
theorem dX8_alarm_130 : decode cX8_alarm 130 = .ok (.getfield 93, 3) := by decide +kernel
theorem dX8_alarm_133 : decode cX8_alarm 133 = .ok (.ifCond .ne 15, 3) := by decide +kernel
theorem dX8_alarm_136 : decode cX8_alarm 136 = .ok (.aload_n 0, 1) := by decide +kernel
theorem dX8_alarm_137 : decode cX8_alarm 137 = .ok (.iload_n 1, 1) := by decide +kernel
theorem dX8_alarm_138 : decode cX8_alarm 138 = .ok (.invokevirtual 97, 3) := by decide +kernel
theorem dX8_alarm_141 : decode cX8_alarm 141 = .ok (.ifCond .eq 7, 3) := by decide +kernel
theorem dX8_alarm_144 : decode cX8_alarm 144 = .ok (.iconst 1, 1) := by decide +kernel
theorem dX8_alarm_145 : decode cX8_alarm 145 = .ok (.goto 4, 3) := by decide +kernel
theorem dX8_alarm_148 : decode cX8_alarm 148 = .ok (.iconst 0, 1) := by decide +kernel
theorem dX8_alarm_149 : decode cX8_alarm 149 = .ok (.putfield 100, 3) := by decide +kernel
theorem dX8_alarm_152 : decode cX8_alarm 152 = .ok (.aload 6, 2) := by decide +kernel
theorem dX8_alarm_154 : decode cX8_alarm 154 = .ok (.getfield 103, 3) := by decide +kernel
theorem dX8_alarm_157 : decode cX8_alarm 157 = .ok (.invokevirtual 106, 3) := by decide +kernel
theorem dX8_alarm_160 : decode cX8_alarm 160 = .ok (.aload 6, 2) := by decide +kernel
theorem dX8_alarm_162 : decode cX8_alarm 162 = .ok (.aload_n 0, 1) := by decide +kernel
theorem dX8_alarm_163 : decode cX8_alarm 163 = .ok (.getfield 15, 3) := by decide +kernel
theorem dX8_alarm_166 : decode cX8_alarm 166 = .ok (.iload_n 2, 1) := by decide +kernel
theorem dX8_alarm_167 : decode cX8_alarm 167 = .ok (.aaload, 1) := by decide +kernel
theorem dX8_alarm_168 : decode cX8_alarm 168 = .ok (.putfield 109, 3) := by decide +kernel
theorem dX8_alarm_171 : decode cX8_alarm 171 = .ok (.aload_n 0, 1) := by decide +kernel
theorem dX8_alarm_172 : decode cX8_alarm 172 = .ok (.getfield 15, 3) := by decide +kernel
theorem dX8_alarm_175 : decode cX8_alarm 175 = .ok (.iload_n 2, 1) := by decide +kernel
theorem dX8_alarm_176 : decode cX8_alarm 176 = .ok (.aload 6, 2) := by decide +kernel
theorem dX8_alarm_178 : decode cX8_alarm 178 = .ok (.aastore, 1) := by decide +kernel
theorem dX8_alarm_179 : decode cX8_alarm 179 = .ok (.aload_n 0, 1) := by decide +kernel
theorem dX8_alarm_180 : decode cX8_alarm 180 = .ok (.getfield 11, 3) := by decide +kernel
theorem dX8_alarm_183 : decode cX8_alarm 183 = .ok (.aload_n 0, 1) := by decide +kernel
theorem dX8_alarm_184 : decode cX8_alarm 184 = .ok (.getfield 79, 3) := by decide +kernel
theorem dX8_alarm_187 : decode cX8_alarm 187 = .ok (.aload 6, 2) := by decide +kernel
theorem dX8_alarm_189 : decode cX8_alarm 189 = .ok (.aastore, 1) := by decide +kernel
theorem dX8_alarm_190 : decode cX8_alarm 190 = .ok (.aload_n 0, 1) := by decide +kernel
theorem dX8_alarm_191 : decode cX8_alarm 191 = .ok (.dup, 1) := by decide +kernel
theorem dX8_alarm_192 : decode cX8_alarm 192 = .ok (.getfield 79, 3) := by decide +kernel
theorem dX8_alarm_195 : decode cX8_alarm 195 = .ok (.iconst 1, 1) := by decide +kernel
theorem dX8_alarm_196 : decode cX8_alarm 196 = .ok (.iadd, 1) := by decide +kernel
theorem dX8_alarm_197 : decode cX8_alarm 197 = .ok (.putfield 79, 3) := by decide +kernel
theorem dX8_alarm_200 : decode cX8_alarm 200 = .ok (.aload_n 0, 1) := by decide +kernel
theorem dX8_alarm_201 : decode cX8_alarm 201 = .ok (.iconst 1, 1) := by decide +kernel
theorem dX8_alarm_202 : decode cX8_alarm 202 = .ok (.putfield 113, 3) := by decide +kernel
theorem dX8_alarm_205 : decode cX8_alarm 205 = .ok (.aload 6, 2) := by decide +kernel
theorem dX8_alarm_207 : decode cX8_alarm 207 = .ok (.getfield 76, 3) := by decide +kernel
theorem dX8_alarm_210 : decode cX8_alarm 210 = .ok (.ireturn, 1) := by decide +kernel
theorem dX8_silence_0 : decode cX8_silence 0 = .ok (.iload_n 1, 1) := by decide +kernel
theorem dX8_silence_1 : decode cX8_silence 1 = .ok (.bipush 10, 2) := by decide +kernel
theorem dX8_silence_3 : decode cX8_silence 3 = .ok (.invokestatic 64, 3) := by decide +kernel
theorem dX8_silence_6 : decode cX8_silence 6 = .ok (.ifCond .eq 28, 3) := by decide +kernel
theorem dX8_silence_9 : decode cX8_silence 9 = .ok (.iload_n 2, 1) := by decide +kernel
theorem dX8_silence_10 : decode cX8_silence 10 = .ok (.ifCond .lt 24, 3) := by decide +kernel
theorem dX8_silence_13 : decode cX8_silence 13 = .ok (.iload_n 2, 1) := by decide +kernel
theorem dX8_silence_14 : decode cX8_silence 14 = .ok (.iload_n 3, 1) := by decide +kernel
theorem dX8_silence_15 : decode cX8_silence 15 = .ok (.if_icmp .gt 19, 3) := by decide +kernel
theorem dX8_silence_18 : decode cX8_silence 18 = .ok (.iload_n 3, 1) := by decide +kernel
theorem dX8_silence_19 : decode cX8_silence 19 = .ok (.sipush 10000, 3) := by decide +kernel
theorem dX8_silence_22 : decode cX8_silence 22 = .ok (.if_icmp .gt 12, 3) := by decide +kernel
theorem dX8_silence_25 : decode cX8_silence 25 = .ok (.aload_n 0, 1) := by decide +kernel
theorem dX8_silence_26 : decode cX8_silence 26 = .ok (.getfield 116, 3) := by decide +kernel
theorem dX8_silence_29 : decode cX8_silence 29 = .ok (.bipush 30, 2) := by decide +kernel
theorem dX8_silence_31 : decode cX8_silence 31 = .ok (.if_icmp .lt 5, 3) := by decide +kernel
theorem dX8_silence_34 : decode cX8_silence 34 = .ok (.iconst (-1), 1) := by decide +kernel
theorem dX8_silence_35 : decode cX8_silence 35 = .ok (.ireturn, 1) := by decide +kernel
theorem dX8_silence_36 : decode cX8_silence 36 = .ok (.aload_n 0, 1) := by decide +kernel
theorem dX8_silence_37 : decode cX8_silence 37 = .ok (.getfield 20, 3) := by decide +kernel
theorem dX8_silence_40 : decode cX8_silence 40 = .ok (.aload_n 0, 1) := by decide +kernel
theorem dX8_silence_41 : decode cX8_silence 41 = .ok (.getfield 116, 3) := by decide +kernel
theorem dX8_silence_44 : decode cX8_silence 44 = .ok (.new 18, 3) := by decide +kernel
theorem dX8_silence_47 : decode cX8_silence 47 = .ok (.dup, 1) := by decide +kernel
theorem dX8_silence_48 : decode cX8_silence 48 = .ok (.iload_n 1, 1) := by decide +kernel
theorem dX8_silence_49 : decode cX8_silence 49 = .ok (.iload_n 2, 1) := by decide +kernel
theorem dX8_silence_50 : decode cX8_silence 50 = .ok (.iload_n 3, 1) := by decide +kernel
theorem dX8_silence_51 : decode cX8_silence 51 = .ok (.invokespecial 119, 3) := by decide +kernel
theorem dX8_silence_54 : decode cX8_silence 54 = .ok (.aastore, 1) := by decide +kernel
theorem dX8_silence_55 : decode cX8_silence 55 = .ok (.aload_n 0, 1) := by decide +kernel
theorem dX8_silence_56 : decode cX8_silence 56 = .ok (.dup, 1) := by decide +kernel
theorem dX8_silence_57 : decode cX8_silence 57 = .ok (.getfield 116, 3) := by decide +kernel
theorem dX8_silence_60 : decode cX8_silence 60 = .ok (.iconst 1, 1) := by decide +kernel
theorem dX8_silence_61 : decode cX8_silence 61 = .ok (.iadd, 1) := by decide +kernel
theorem dX8_silence_62 : decode cX8_silence 62 = .ok (.putfield 116, 3) := by decide +kernel
theorem dX8_silence_65 : decode cX8_silence 65 = .ok (.aload_n 0, 1) := by decide +kernel
theorem dX8_silence_66 : decode cX8_silence 66 = .ok (.getfield 116, 3) := by decide +kernel
theorem dX8_silence_69 : decode cX8_silence 69 = .ok (.ireturn, 1) := by decide +kernel
theorem dX8_set_0 : decode cX8_set 0 = .ok (.iload_n 1, 1) := by decide +kernel
theorem dX8_set_1 : decode cX8_set 1 = .ok (.ifCond .ne 21, 3) := by decide +kernel
theorem dX8_set_4 : decode cX8_set 4 = .ok (.iload_n 2, 1) := by decide +kernel
theorem dX8_set_5 : decode cX8_set 5 = .ok (.iconst 1, 1) := by decide +kernel
theorem dX8_set_6 : decode cX8_set 6 = .ok (.if_icmp .lt 16, 3) := by decide +kernel
theorem dX8_set_9 : decode cX8_set 9 = .ok (.iload_n 2, 1) := by decide +kernel
theorem dX8_set_10 : decode cX8_set 10 = .ok (.bipush 50, 2) := by decide +kernel
theorem dX8_set_12 : decode cX8_set 12 = .ok (.if_icmp .gt 10, 3) := by decide +kernel
theorem dX8_set_15 : decode cX8_set 15 = .ok (.aload_n 0, 1) := by decide +kernel
theorem dX8_set_16 : decode cX8_set 16 = .ok (.iload_n 2, 1) := by decide +kernel
theorem dX8_set_17 : decode cX8_set 17 = .ok (.putfield 54, 3) := by decide +kernel
theorem dX8_set_20 : decode cX8_set 20 = .ok (.iconst 1, 1) := by decide +kernel
theorem dX8_set_21 : decode cX8_set 21 = .ok (.ireturn, 1) := by decide +kernel
theorem dX8_set_22 : decode cX8_set 22 = .ok (.iload_n 1, 1) := by decide +kernel
theorem dX8_set_23 : decode cX8_set 23 = .ok (.iconst 1, 1) := by decide +kernel
theorem dX8_set_24 : decode cX8_set 24 = .ok (.if_icmp .ne 26, 3) := by decide +kernel
theorem dX8_set_27 : decode cX8_set 27 = .ok (.iload_n 2, 1) := by decide +kernel
theorem dX8_set_28 : decode cX8_set 28 = .ok (.iconst 1, 1) := by decide +kernel
theorem dX8_set_29 : decode cX8_set 29 = .ok (.if_icmp .lt 21, 3) := by decide +kernel
theorem dX8_set_32 : decode cX8_set 32 = .ok (.iload_n 2, 1) := by decide +kernel
theorem dX8_set_33 : decode cX8_set 33 = .ok (.bipush 20, 2) := by decide +kernel
theorem dX8_set_35 : decode cX8_set 35 = .ok (.if_icmp .gt 15, 3) := by decide +kernel
theorem dX8_set_38 : decode cX8_set 38 = .ok (.aload_n 0, 1) := by decide +kernel
theorem dX8_set_39 : decode cX8_set 39 = .ok (.iload_n 2, 1) := by decide +kernel
theorem dX8_set_40 : decode cX8_set 40 = .ok (.putfield 58, 3) := by decide +kernel
theorem dX8_set_43 : decode cX8_set 43 = .ok (.aload_n 0, 1) := by decide +kernel
theorem dX8_set_44 : decode cX8_set 44 = .ok (.iconst 1, 1) := by decide +kernel
theorem dX8_set_45 : decode cX8_set 45 = .ok (.putfield 113, 3) := by decide +kernel
theorem dX8_set_48 : decode cX8_set 48 = .ok (.iconst 1, 1) := by decide +kernel
theorem dX8_set_49 : decode cX8_set 49 = .ok (.ireturn, 1) := by decide +kernel
theorem dX8_set_50 : decode cX8_set 50 = .ok (.iload_n 1, 1) := by decide +kernel
theorem dX8_set_51 : decode cX8_set 51 = .ok (.iconst 2, 1) := by decide +kernel
theorem dX8_set_52 : decode cX8_set 52 = .ok (.if_icmp .ne 19, 3) := by decide +kernel
theorem dX8_set_55 : decode cX8_set 55 = .ok (.iload_n 2, 1) := by decide +kernel
theorem dX8_set_56 : decode cX8_set 56 = .ok (.ifCond .lt 15, 3) := by decide +kernel
theorem dX8_set_59 : decode cX8_set 59 = .ok (.iload_n 2, 1) := by decide +kernel
theorem dX8_set_60 : decode cX8_set 60 = .ok (.iconst 5, 1) := by decide +kernel
theorem dX8_set_61 : decode cX8_set 61 = .ok (.if_icmp .gt 10, 3) := by decide +kernel
theorem dX8_set_64 : decode cX8_set 64 = .ok (.aload_n 0, 1) := by decide +kernel
theorem dX8_set_65 : decode cX8_set 65 = .ok (.iload_n 2, 1) := by decide +kernel
theorem dX8_set_66 : decode cX8_set 66 = .ok (.putfield 122, 3) := by decide +kernel
theorem dX8_set_69 : decode cX8_set 69 = .ok (.iconst 1, 1) := by decide +kernel
theorem dX8_set_70 : decode cX8_set 70 = .ok (.ireturn, 1) := by decide +kernel
theorem dX8_set_71 : decode cX8_set 71 = .ok (.iconst 0, 1) := by decide +kernel
theorem dX8_set_72 : decode cX8_set 72 = .ok (.ireturn, 1) := by decide +kernel
theorem dX8_verdict_0 : decode cX8_verdict 0 = .ok (.aload_n 0, 1) := by decide +kernel
theorem dX8_verdict_1 : decode cX8_verdict 1 = .ok (.iload_n 1, 1) := by decide +kernel
theorem dX8_verdict_2 : decode cX8_verdict 2 = .ok (.invokevirtual 125, 3) := by decide +kernel
theorem dX8_verdict_5 : decode cX8_verdict 5 = .ok (.astore 4, 2) := by decide +kernel
theorem dX8_verdict_7 : decode cX8_verdict 7 = .ok (.aload 4, 2) := by decide +kernel
theorem dX8_verdict_9 : decode cX8_verdict 9 = .ok (.ifnull 29, 3) := by decide +kernel
theorem dX8_verdict_12 : decode cX8_verdict 12 = .ok (.iload_n 2, 1) := by decide +kernel
theorem dX8_verdict_13 : decode cX8_verdict 13 = .ok (.bipush 10, 2) := by decide +kernel
theorem dX8_verdict_15 : decode cX8_verdict 15 = .ok (.invokestatic 64, 3) := by decide +kernel
theorem dX8_verdict_18 : decode cX8_verdict 18 = .ok (.ifCond .eq 20, 3) := by decide +kernel
theorem dX8_verdict_21 : decode cX8_verdict 21 = .ok (.aload 4, 2) := by decide +kernel
theorem dX8_verdict_23 : decode cX8_verdict 23 = .ok (.invokevirtual 129, 3) := by decide +kernel
theorem dX8_verdict_26 : decode cX8_verdict 26 = .ok (.ifCond .eq 12, 3) := by decide +kernel
theorem dX8_verdict_29 : decode cX8_verdict 29 = .ok (.aload 4, 2) := by decide +kernel
theorem dX8_verdict_31 : decode cX8_verdict 31 = .ok (.iload_n 2, 1) := by decide +kernel
theorem dX8_verdict_32 : decode cX8_verdict 32 = .ok (.invokevirtual 133, 3) := by decide +kernel
theorem dX8_verdict_35 : decode cX8_verdict 35 = .ok (.ifCond .eq 5, 3) := by decide +kernel
theorem dX8_verdict_38 : decode cX8_verdict 38 = .ok (.iconst (-1), 1) := by decide +kernel
theorem dX8_verdict_39 : decode cX8_verdict 39 = .ok (.ireturn, 1) := by decide +kernel
theorem dX8_verdict_40 : decode cX8_verdict 40 = .ok (.aload 4, 2) := by decide +kernel
theorem dX8_verdict_42 : decode cX8_verdict 42 = .ok (.iload_n 2, 1) := by decide +kernel
theorem dX8_verdict_43 : decode cX8_verdict 43 = .ok (.iload_n 3, 1) := by decide +kernel
theorem dX8_verdict_44 : decode cX8_verdict 44 = .ok (.invokevirtual 136, 3) := by decide +kernel
theorem dX8_verdict_47 : decode cX8_verdict 47 = .ok (.aload 4, 2) := by decide +kernel
theorem dX8_verdict_49 : decode cX8_verdict 49 = .ok (.invokevirtual 129, 3) := by decide +kernel
theorem dX8_verdict_52 : decode cX8_verdict 52 = .ok (.ifCond .eq 5, 3) := by decide +kernel
theorem dX8_verdict_55 : decode cX8_verdict 55 = .ok (.iconst 0, 1) := by decide +kernel
theorem dX8_verdict_56 : decode cX8_verdict 56 = .ok (.ireturn, 1) := by decide +kernel
theorem dX8_verdict_57 : decode cX8_verdict 57 = .ok (.aload 4, 2) := by decide +kernel
theorem dX8_verdict_59 : decode cX8_verdict 59 = .ok (.getfield 103, 3) := by decide +kernel
theorem dX8_verdict_62 : decode cX8_verdict 62 = .ok (.iload_n 3, 1) := by decide +kernel
theorem dX8_verdict_63 : decode cX8_verdict 63 = .ok (.invokevirtual 140, 3) := by decide +kernel
theorem dX8_verdict_66 : decode cX8_verdict 66 = .ok (.aload_n 0, 1) := by decide +kernel
theorem dX8_verdict_67 : decode cX8_verdict 67 = .ok (.iconst 1, 1) := by decide +kernel
theorem dX8_verdict_68 : decode cX8_verdict 68 = .ok (.putfield 113, 3) := by decide +kernel
theorem dX8_verdict_71 : decode cX8_verdict 71 = .ok (.iconst 1, 1) := by decide +kernel
theorem dX8_verdict_72 : decode cX8_verdict 72 = .ok (.ireturn, 1) := by decide +kernel
theorem dX8_tie_0 : decode cX8_tie 0 = .ok (.iload_n 1, 1) := by decide +kernel
theorem dX8_tie_1 : decode cX8_tie 1 = .ok (.iload_n 2, 1) := by decide +kernel
theorem dX8_tie_2 : decode cX8_tie 2 = .ok (.if_icmp .eq 25, 3) := by decide +kernel
theorem dX8_tie_5 : decode cX8_tie 5 = .ok (.iload_n 1, 1) := by decide +kernel
theorem dX8_tie_6 : decode cX8_tie 6 = .ok (.aload_n 0, 1) := by decide +kernel
theorem dX8_tie_7 : decode cX8_tie 7 = .ok (.getfield 79, 3) := by decide +kernel
theorem dX8_tie_10 : decode cX8_tie 10 = .ok (.invokestatic 64, 3) := by decide +kernel
theorem dX8_tie_13 : decode cX8_tie 13 = .ok (.ifCond .eq 14, 3) := by decide +kernel
theorem dX8_tie_16 : decode cX8_tie 16 = .ok (.iload_n 2, 1) := by decide +kernel
theorem dX8_tie_17 : decode cX8_tie 17 = .ok (.aload_n 0, 1) := by decide +kernel
theorem dX8_tie_18 : decode cX8_tie 18 = .ok (.getfield 79, 3) := by decide +kernel
theorem dX8_tie_21 : decode cX8_tie 21 = .ok (.invokestatic 64, 3) := by decide +kernel
theorem dX8_tie_24 : decode cX8_tie 24 = .ok (.ifCond .ne 5, 3) := by decide +kernel
theorem dX8_tie_27 : decode cX8_tie 27 = .ok (.iconst 0, 1) := by decide +kernel
theorem dX8_tie_28 : decode cX8_tie 28 = .ok (.ireturn, 1) := by decide +kernel
theorem dX8_tie_29 : decode cX8_tie 29 = .ok (.aload_n 0, 1) := by decide +kernel
theorem dX8_tie_30 : decode cX8_tie 30 = .ok (.getfield 36, 3) := by decide +kernel
theorem dX8_tie_33 : decode cX8_tie 33 = .ok (.iload_n 1, 1) := by decide +kernel
theorem dX8_tie_34 : decode cX8_tie 34 = .ok (.iload_n 2, 1) := by decide +kernel
theorem dX8_tie_35 : decode cX8_tie 35 = .ok (.iload_n 3, 1) := by decide +kernel
theorem dX8_tie_36 : decode cX8_tie 36 = .ok (.invokevirtual 144, 3) := by decide +kernel
theorem dX8_tie_39 : decode cX8_tie 39 = .ok (.ifCond .ne 5, 3) := by decide +kernel
theorem dX8_tie_42 : decode cX8_tie 42 = .ok (.iconst 0, 1) := by decide +kernel
theorem dX8_tie_43 : decode cX8_tie 43 = .ok (.ireturn, 1) := by decide +kernel
theorem dX8_tie_44 : decode cX8_tie 44 = .ok (.aload_n 0, 1) := by decide +kernel
theorem dX8_tie_45 : decode cX8_tie 45 = .ok (.iconst 1, 1) := by decide +kernel
theorem dX8_tie_46 : decode cX8_tie 46 = .ok (.putfield 113, 3) := by decide +kernel
theorem dX8_tie_49 : decode cX8_tie 49 = .ok (.iconst 1, 1) := by decide +kernel
theorem dX8_tie_50 : decode cX8_tie 50 = .ok (.ireturn, 1) := by decide +kernel
theorem dX8_told_0 : decode cX8_told 0 = .ok (.aload_n 0, 1) := by decide +kernel
theorem dX8_told_1 : decode cX8_told 1 = .ok (.iload_n 1, 1) := by decide +kernel
theorem dX8_told_2 : decode cX8_told 2 = .ok (.invokevirtual 125, 3) := by decide +kernel
theorem dX8_told_5 : decode cX8_told 5 = .ok (.astore_n 3, 1) := by decide +kernel
theorem dX8_told_6 : decode cX8_told 6 = .ok (.aload_n 3, 1) := by decide +kernel
theorem dX8_told_7 : decode cX8_told 7 = .ok (.ifnonnull 5, 3) := by decide +kernel
theorem dX8_told_10 : decode cX8_told 10 = .ok (.iconst (-1), 1) := by decide +kernel
theorem dX8_told_11 : decode cX8_told 11 = .ok (.ireturn, 1) := by decide +kernel
theorem dX8_told_12 : decode cX8_told 12 = .ok (.iload_n 2, 1) := by decide +kernel
theorem dX8_told_13 : decode cX8_told 13 = .ok (.tableswitch 150 0 12 #[67, 72, 77, 82, 87, 92, 97, 102, 110, 118, 127, 139, 144], 67) := by decide +kernel
theorem dX8_told_80 : decode cX8_told 80 = .ok (.aload_n 3, 1) := by decide +kernel
theorem dX8_told_81 : decode cX8_told 81 = .ok (.getfield 148, 3) := by decide +kernel
theorem dX8_told_84 : decode cX8_told 84 = .ok (.ireturn, 1) := by decide +kernel
theorem dX8_told_85 : decode cX8_told 85 = .ok (.aload_n 3, 1) := by decide +kernel
theorem dX8_told_86 : decode cX8_told 86 = .ok (.getfield 151, 3) := by decide +kernel
theorem dX8_told_89 : decode cX8_told 89 = .ok (.ireturn, 1) := by decide +kernel
theorem dX8_told_90 : decode cX8_told 90 = .ok (.aload_n 3, 1) := by decide +kernel
theorem dX8_told_91 : decode cX8_told 91 = .ok (.getfield 154, 3) := by decide +kernel
theorem dX8_told_94 : decode cX8_told 94 = .ok (.ireturn, 1) := by decide +kernel
theorem dX8_told_95 : decode cX8_told 95 = .ok (.aload_n 3, 1) := by decide +kernel
theorem dX8_told_96 : decode cX8_told 96 = .ok (.getfield 157, 3) := by decide +kernel
theorem dX8_told_99 : decode cX8_told 99 = .ok (.ireturn, 1) := by decide +kernel
theorem dX8_told_100 : decode cX8_told 100 = .ok (.aload_n 3, 1) := by decide +kernel
theorem dX8_told_101 : decode cX8_told 101 = .ok (.getfield 160, 3) := by decide +kernel
theorem dX8_told_104 : decode cX8_told 104 = .ok (.ireturn, 1) := by decide +kernel
theorem dX8_told_105 : decode cX8_told 105 = .ok (.aload_n 3, 1) := by decide +kernel
theorem dX8_told_106 : decode cX8_told 106 = .ok (.getfield 163, 3) := by decide +kernel
theorem dX8_told_109 : decode cX8_told 109 = .ok (.ireturn, 1) := by decide +kernel
theorem dX8_told_110 : decode cX8_told 110 = .ok (.aload_n 3, 1) := by decide +kernel
theorem dX8_told_111 : decode cX8_told 111 = .ok (.getfield 166, 3) := by decide +kernel
theorem dX8_told_114 : decode cX8_told 114 = .ok (.ireturn, 1) := by decide +kernel
theorem dX8_told_115 : decode cX8_told 115 = .ok (.aload_n 3, 1) := by decide +kernel
theorem dX8_told_116 : decode cX8_told 116 = .ok (.getfield 93, 3) := by decide +kernel
theorem dX8_told_119 : decode cX8_told 119 = .ok (.invokestatic 169, 3) := by decide +kernel
theorem dX8_told_122 : decode cX8_told 122 = .ok (.ireturn, 1) := by decide +kernel
theorem dX8_told_123 : decode cX8_told 123 = .ok (.aload_n 3, 1) := by decide +kernel
theorem dX8_told_124 : decode cX8_told 124 = .ok (.getfield 100, 3) := by decide +kernel
theorem dX8_told_127 : decode cX8_told 127 = .ok (.invokestatic 169, 3) := by decide +kernel
theorem dX8_told_130 : decode cX8_told 130 = .ok (.ireturn, 1) := by decide +kernel
theorem dX8_told_131 : decode cX8_told 131 = .ok (.aload_n 3, 1) := by decide +kernel
theorem dX8_told_132 : decode cX8_told 132 = .ok (.aload_n 0, 1) := by decide +kernel
theorem dX8_told_133 : decode cX8_told 133 = .ok (.getfield 58, 3) := by decide +kernel
theorem dX8_told_136 : decode cX8_told 136 = .ok (.invokevirtual 173, 3) := by decide +kernel
theorem dX8_told_139 : decode cX8_told 139 = .ok (.ireturn, 1) := by decide +kernel
theorem dX8_told_140 : decode cX8_told 140 = .ok (.aload_n 3, 1) := by decide +kernel
theorem dX8_told_141 : decode cX8_told 141 = .ok (.aload_n 0, 1) := by decide +kernel
theorem dX8_told_142 : decode cX8_told 142 = .ok (.getfield 58, 3) := by decide +kernel
theorem dX8_told_145 : decode cX8_told 145 = .ok (.invokevirtual 177, 3) := by decide +kernel
theorem dX8_told_148 : decode cX8_told 148 = .ok (.getfield 180, 3) := by decide +kernel
theorem dX8_told_151 : decode cX8_told 151 = .ok (.ireturn, 1) := by decide +kernel
theorem dX8_told_152 : decode cX8_told 152 = .ok (.aload_n 3, 1) := by decide +kernel
theorem dX8_told_153 : decode cX8_told 153 = .ok (.invokevirtual 183, 3) := by decide +kernel
theorem dX8_told_156 : decode cX8_told 156 = .ok (.ireturn, 1) := by decide +kernel
theorem dX8_told_157 : decode cX8_told 157 = .ok (.aload_n 0, 1) := by decide +kernel
theorem dX8_told_158 : decode cX8_told 158 = .ok (.aload_n 3, 1) := by decide +kernel
theorem dX8_told_159 : decode cX8_told 159 = .ok (.invokevirtual 187, 3) := by decide +kernel
theorem dX8_told_162 : decode cX8_told 162 = .ok (.ireturn, 1) := by decide +kernel
theorem dX8_told_163 : decode cX8_told 163 = .ok (.iconst (-1), 1) := by decide +kernel
theorem dX8_told_164 : decode cX8_told 164 = .ok (.ireturn, 1) := by decide +kernel
theorem dX8_node_0 : decode cX8_node 0 = .ok (.iload_n 1, 1) := by decide +kernel
theorem dX8_node_1 : decode cX8_node 1 = .ok (.ifCond .lt 27, 3) := by decide +kernel
theorem dX8_node_4 : decode cX8_node 4 = .ok (.iload_n 1, 1) := by decide +kernel
theorem dX8_node_5 : decode cX8_node 5 = .ok (.iconst 4, 1) := by decide +kernel
theorem dX8_node_6 : decode cX8_node 6 = .ok (.if_icmp .gt 22, 3) := by decide +kernel
theorem dX8_node_9 : decode cX8_node 9 = .ok (.iload_n 2, 1) := by decide +kernel
theorem dX8_node_10 : decode cX8_node 10 = .ok (.sipush 4096, 3) := by decide +kernel
theorem dX8_node_13 : decode cX8_node 13 = .ok (.invokestatic 64, 3) := by decide +kernel
theorem dX8_node_16 : decode cX8_node 16 = .ok (.ifCond .eq 12, 3) := by decide +kernel
theorem dX8_node_19 : decode cX8_node 19 = .ok (.iload_n 3, 1) := by decide +kernel
theorem dX8_node_20 : decode cX8_node 20 = .ok (.ifCond .lt 8, 3) := by decide +kernel
theorem dX8_node_23 : decode cX8_node 23 = .ok (.iload_n 3, 1) := by decide +kernel
theorem dX8_node_24 : decode cX8_node 24 = .ok (.iconst 2, 1) := by decide +kernel
theorem dX8_node_25 : decode cX8_node 25 = .ok (.if_icmp .le 5, 3) := by decide +kernel
theorem dX8_node_28 : decode cX8_node 28 = .ok (.iconst (-1), 1) := by decide +kernel
theorem dX8_node_29 : decode cX8_node 29 = .ok (.ireturn, 1) := by decide +kernel
theorem dX8_node_30 : decode cX8_node 30 = .ok (.aload_n 0, 1) := by decide +kernel
theorem dX8_node_31 : decode cX8_node 31 = .ok (.getfield 29, 3) := by decide +kernel
theorem dX8_node_34 : decode cX8_node 34 = .ok (.iload_n 1, 1) := by decide +kernel
theorem dX8_node_35 : decode cX8_node 35 = .ok (.iload_n 2, 1) := by decide +kernel
theorem dX8_node_36 : decode cX8_node 36 = .ok (.invokevirtual 191, 3) := by decide +kernel
theorem dX8_node_39 : decode cX8_node 39 = .ok (.astore 4, 2) := by decide +kernel
theorem dX8_node_41 : decode cX8_node 41 = .ok (.aload 4, 2) := by decide +kernel
theorem dX8_node_43 : decode cX8_node 43 = .ok (.ifnonnull 5, 3) := by decide +kernel
theorem dX8_node_46 : decode cX8_node 46 = .ok (.iconst 0, 1) := by decide +kernel
theorem dX8_node_47 : decode cX8_node 47 = .ok (.ireturn, 1) := by decide +kernel
theorem dX8_node_48 : decode cX8_node 48 = .ok (.iload_n 3, 1) := by decide +kernel
theorem dX8_node_49 : decode cX8_node 49 = .ok (.lookupswitch 39 #[(0, 27), (1, 33)], 27) := by decide +kernel
theorem dX8_node_76 : decode cX8_node 76 = .ok (.aload 4, 2) := by decide +kernel
theorem dX8_node_78 : decode cX8_node 78 = .ok (.getfield 195, 3) := by decide +kernel
theorem dX8_node_81 : decode cX8_node 81 = .ok (.ireturn, 1) := by decide +kernel
theorem dX8_node_82 : decode cX8_node 82 = .ok (.aload 4, 2) := by decide +kernel
theorem dX8_node_84 : decode cX8_node 84 = .ok (.getfield 198, 3) := by decide +kernel
theorem dX8_node_87 : decode cX8_node 87 = .ok (.ireturn, 1) := by decide +kernel
theorem dX8_node_88 : decode cX8_node 88 = .ok (.aload 4, 2) := by decide +kernel
theorem dX8_node_90 : decode cX8_node 90 = .ok (.getfield 201, 3) := by decide +kernel
theorem dX8_node_93 : decode cX8_node 93 = .ok (.ireturn, 1) := by decide +kernel
theorem dX8_odds_0 : decode cX8_odds 0 = .ok (.aload_n 0, 1) := by decide +kernel
theorem dX8_odds_1 : decode cX8_odds 1 = .ok (.iload_n 1, 1) := by decide +kernel
theorem dX8_odds_2 : decode cX8_odds 2 = .ok (.invokevirtual 125, 3) := by decide +kernel
theorem dX8_odds_5 : decode cX8_odds 5 = .ok (.astore_n 3, 1) := by decide +kernel
theorem dX8_odds_6 : decode cX8_odds 6 = .ok (.aload_n 3, 1) := by decide +kernel
theorem dX8_odds_7 : decode cX8_odds 7 = .ok (.ifnull 12, 3) := by decide +kernel
theorem dX8_odds_10 : decode cX8_odds 10 = .ok (.iload_n 2, 1) := by decide +kernel
theorem dX8_odds_11 : decode cX8_odds 11 = .ok (.ifCond .lt 8, 3) := by decide +kernel
theorem dX8_odds_14 : decode cX8_odds 14 = .ok (.iload_n 2, 1) := by decide +kernel
theorem dX8_odds_15 : decode cX8_odds 15 = .ok (.iconst 5, 1) := by decide +kernel
theorem dX8_odds_16 : decode cX8_odds 16 = .ok (.if_icmp .le 5, 3) := by decide +kernel
theorem dX8_odds_19 : decode cX8_odds 19 = .ok (.iconst (-1), 1) := by decide +kernel
theorem dX8_odds_20 : decode cX8_odds 20 = .ok (.ireturn, 1) := by decide +kernel
theorem dX8_odds_21 : decode cX8_odds 21 = .ok (.aload_n 3, 1) := by decide +kernel
theorem dX8_odds_22 : decode cX8_odds 22 = .ok (.aload_n 0, 1) := by decide +kernel
theorem dX8_odds_23 : decode cX8_odds 23 = .ok (.getfield 58, 3) := by decide +kernel
theorem dX8_odds_26 : decode cX8_odds 26 = .ok (.invokevirtual 177, 3) := by decide +kernel
theorem dX8_odds_29 : decode cX8_odds 29 = .ok (.astore 4, 2) := by decide +kernel
theorem dX8_odds_31 : decode cX8_odds 31 = .ok (.iload_n 2, 1) := by decide +kernel
theorem dX8_odds_32 : decode cX8_odds 32 = .ok (.iconst 2, 1) := by decide +kernel
theorem dX8_odds_33 : decode cX8_odds 33 = .ok (.irem, 1) := by decide +kernel
theorem dX8_odds_34 : decode cX8_odds 34 = .ok (.ifCond .ne 7, 3) := by decide +kernel
theorem dX8_odds_37 : decode cX8_odds 37 = .ok (.iconst 1, 1) := by decide +kernel
theorem dX8_odds_38 : decode cX8_odds 38 = .ok (.goto 4, 3) := by decide +kernel
theorem dX8_odds_41 : decode cX8_odds 41 = .ok (.iconst 0, 1) := by decide +kernel
theorem dX8_odds_42 : decode cX8_odds 42 = .ok (.istore 5, 2) := by decide +kernel
theorem dX8_odds_44 : decode cX8_odds 44 = .ok (.iload_n 2, 1) := by decide +kernel
theorem dX8_odds_45 : decode cX8_odds 45 = .ok (.iconst 1, 1) := by decide +kernel
theorem dX8_odds_46 : decode cX8_odds 46 = .ok (.if_icmp .gt 19, 3) := by decide +kernel
theorem dX8_odds_49 : decode cX8_odds 49 = .ok (.aload 4, 2) := by decide +kernel
theorem dX8_odds_51 : decode cX8_odds 51 = .ok (.invokevirtual 204, 3) := by decide +kernel
theorem dX8_odds_54 : decode cX8_odds 54 = .ok (.aload 4, 2) := by decide +kernel
theorem dX8_odds_56 : decode cX8_odds 56 = .ok (.invokevirtual 207, 3) := by decide +kernel
theorem dX8_odds_59 : decode cX8_odds 59 = .ok (.iload 5, 2) := by decide +kernel
theorem dX8_odds_61 : decode cX8_odds 61 = .ok (.invokestatic 210, 3) := by decide +kernel
theorem dX8_odds_64 : decode cX8_odds 64 = .ok (.ireturn, 1) := by decide +kernel
theorem dX8_odds_65 : decode cX8_odds 65 = .ok (.iload_n 2, 1) := by decide +kernel
theorem dX8_odds_66 : decode cX8_odds 66 = .ok (.iconst 3, 1) := by decide +kernel
theorem dX8_odds_67 : decode cX8_odds 67 = .ok (.if_icmp .gt 11, 3) := by decide +kernel
theorem dX8_odds_70 : decode cX8_odds 70 = .ok (.aload 4, 2) := by decide +kernel
theorem dX8_odds_72 : decode cX8_odds 72 = .ok (.getfield 195, 3) := by decide +kernel
theorem dX8_odds_75 : decode cX8_odds 75 = .ok (.goto 14, 3) := by decide +kernel
theorem dX8_odds_78 : decode cX8_odds 78 = .ok (.aload 4, 2) := by decide +kernel
theorem dX8_odds_80 : decode cX8_odds 80 = .ok (.getfield 195, 3) := by decide +kernel
theorem dX8_odds_83 : decode cX8_odds 83 = .ok (.aload 4, 2) := by decide +kernel
theorem dX8_odds_85 : decode cX8_odds 85 = .ok (.getfield 201, 3) := by decide +kernel
theorem dX8_odds_88 : decode cX8_odds 88 = .ok (.iadd, 1) := by decide +kernel
theorem dX8_odds_89 : decode cX8_odds 89 = .ok (.istore 6, 2) := by decide +kernel
theorem dX8_odds_91 : decode cX8_odds 91 = .ok (.iload 6, 2) := by decide +kernel
theorem dX8_odds_93 : decode cX8_odds 93 = .ok (.aload 4, 2) := by decide +kernel
theorem dX8_odds_95 : decode cX8_odds 95 = .ok (.getfield 198, 3) := by decide +kernel
theorem dX8_odds_98 : decode cX8_odds 98 = .ok (.aload 4, 2) := by decide +kernel
theorem dX8_odds_100 : decode cX8_odds 100 = .ok (.getfield 201, 3) := by decide +kernel
theorem dX8_odds_103 : decode cX8_odds 103 = .ok (.iadd, 1) := by decide +kernel
theorem dX8_odds_104 : decode cX8_odds 104 = .ok (.iload 5, 2) := by decide +kernel
theorem dX8_odds_106 : decode cX8_odds 106 = .ok (.invokestatic 210, 3) := by decide +kernel
theorem dX8_odds_109 : decode cX8_odds 109 = .ok (.ireturn, 1) := by decide +kernel
theorem dX8_order_0 : decode cX8_order 0 = .ok (.aload_n 0, 1) := by decide +kernel
theorem dX8_order_1 : decode cX8_order 1 = .ok (.invokevirtual 214, 3) := by decide +kernel
theorem dX8_order_4 : decode cX8_order 4 = .ok (.iload_n 1, 1) := by decide +kernel
theorem dX8_order_5 : decode cX8_order 5 = .ok (.invokevirtual 218, 3) := by decide +kernel
theorem dX8_order_8 : decode cX8_order 8 = .ok (.astore_n 2, 1) := by decide +kernel
theorem dX8_order_9 : decode cX8_order 9 = .ok (.aload_n 2, 1) := by decide +kernel
theorem dX8_order_10 : decode cX8_order 10 = .ok (.ifnonnull 7, 3) := by decide +kernel
theorem dX8_order_13 : decode cX8_order 13 = .ok (.iconst (-1), 1) := by decide +kernel
theorem dX8_order_14 : decode cX8_order 14 = .ok (.goto 7, 3) := by decide +kernel
theorem dX8_order_17 : decode cX8_order 17 = .ok (.aload_n 2, 1) := by decide +kernel
theorem dX8_order_18 : decode cX8_order 18 = .ok (.getfield 222, 3) := by decide +kernel
theorem dX8_order_21 : decode cX8_order 21 = .ok (.ireturn, 1) := by decide +kernel
theorem dX8_caseOf_0 : decode cX8_caseOf 0 = .ok (.aload_n 0, 1) := by decide +kernel
theorem dX8_caseOf_1 : decode cX8_caseOf 1 = .ok (.invokevirtual 214, 3) := by decide +kernel
theorem dX8_caseOf_4 : decode cX8_caseOf 4 = .ok (.pop, 1) := by decide +kernel
theorem dX8_caseOf_5 : decode cX8_caseOf 5 = .ok (.aload_n 0, 1) := by decide +kernel
theorem dX8_caseOf_6 : decode cX8_caseOf 6 = .ok (.iload_n 1, 1) := by decide +kernel
theorem dX8_caseOf_7 : decode cX8_caseOf 7 = .ok (.invokevirtual 125, 3) := by decide +kernel
theorem dX8_caseOf_10 : decode cX8_caseOf 10 = .ok (.astore_n 3, 1) := by decide +kernel
theorem dX8_caseOf_11 : decode cX8_caseOf 11 = .ok (.aload_n 3, 1) := by decide +kernel
theorem dX8_caseOf_12 : decode cX8_caseOf 12 = .ok (.ifnull 17, 3) := by decide +kernel
theorem dX8_caseOf_15 : decode cX8_caseOf 15 = .ok (.aload_n 3, 1) := by decide +kernel
theorem dX8_caseOf_16 : decode cX8_caseOf 16 = .ok (.invokevirtual 225, 3) := by decide +kernel
theorem dX8_caseOf_19 : decode cX8_caseOf 19 = .ok (.ifCond .eq 10, 3) := by decide +kernel
theorem dX8_caseOf_22 : decode cX8_caseOf 22 = .ok (.aload_n 3, 1) := by decide +kernel
theorem dX8_caseOf_23 : decode cX8_caseOf 23 = .ok (.getfield 228, 3) := by decide +kernel
theorem dX8_caseOf_26 : decode cX8_caseOf 26 = .ok (.ifnull 5, 3) := by decide +kernel
theorem dX8_caseOf_29 : decode cX8_caseOf 29 = .ok (.iconst (-1), 1) := by decide +kernel
theorem dX8_caseOf_30 : decode cX8_caseOf 30 = .ok (.ireturn, 1) := by decide +kernel
theorem dX8_caseOf_31 : decode cX8_caseOf 31 = .ok (.iload_n 2, 1) := by decide +kernel
theorem dX8_caseOf_32 : decode cX8_caseOf 32 = .ok (.tableswitch 67 0 3 #[32, 40, 48, 56], 32) := by decide +kernel
theorem dX8_caseOf_64 : decode cX8_caseOf 64 = .ok (.aload_n 3, 1) := by decide +kernel
theorem dX8_caseOf_65 : decode cX8_caseOf 65 = .ok (.getfield 231, 3) := by decide +kernel
theorem dX8_caseOf_68 : decode cX8_caseOf 68 = .ok (.getfield 235, 3) := by decide +kernel
theorem dX8_caseOf_71 : decode cX8_caseOf 71 = .ok (.ireturn, 1) := by decide +kernel
theorem dX8_caseOf_72 : decode cX8_caseOf 72 = .ok (.aload_n 3, 1) := by decide +kernel
theorem dX8_caseOf_73 : decode cX8_caseOf 73 = .ok (.getfield 231, 3) := by decide +kernel
theorem dX8_caseOf_76 : decode cX8_caseOf 76 = .ok (.getfield 238, 3) := by decide +kernel
theorem dX8_caseOf_79 : decode cX8_caseOf 79 = .ok (.ireturn, 1) := by decide +kernel
theorem dX8_caseOf_80 : decode cX8_caseOf 80 = .ok (.aload_n 3, 1) := by decide +kernel
theorem dX8_caseOf_81 : decode cX8_caseOf 81 = .ok (.getfield 231, 3) := by decide +kernel
theorem dX8_caseOf_84 : decode cX8_caseOf 84 = .ok (.invokevirtual 240, 3) := by decide +kernel
theorem dX8_caseOf_87 : decode cX8_caseOf 87 = .ok (.ireturn, 1) := by decide +kernel
theorem dX8_caseOf_88 : decode cX8_caseOf 88 = .ok (.aload_n 3, 1) := by decide +kernel
theorem dX8_caseOf_89 : decode cX8_caseOf 89 = .ok (.getfield 231, 3) := by decide +kernel
theorem dX8_caseOf_92 : decode cX8_caseOf 92 = .ok (.getfield 243, 3) := by decide +kernel
theorem dX8_caseOf_95 : decode cX8_caseOf 95 = .ok (.invokestatic 169, 3) := by decide +kernel
theorem dX8_caseOf_98 : decode cX8_caseOf 98 = .ok (.ireturn, 1) := by decide +kernel
theorem dX8_caseOf_99 : decode cX8_caseOf 99 = .ok (.iload_n 2, 1) := by decide +kernel
theorem dX8_caseOf_100 : decode cX8_caseOf 100 = .ok (.bipush 10, 2) := by decide +kernel
theorem dX8_caseOf_102 : decode cX8_caseOf 102 = .ok (.if_icmp .ge 7, 3) := by decide +kernel
theorem dX8_caseOf_105 : decode cX8_caseOf 105 = .ok (.iconst (-1), 1) := by decide +kernel
theorem dX8_caseOf_106 : decode cX8_caseOf 106 = .ok (.goto 12, 3) := by decide +kernel
theorem dX8_caseOf_109 : decode cX8_caseOf 109 = .ok (.aload_n 0, 1) := by decide +kernel
theorem dX8_caseOf_110 : decode cX8_caseOf 110 = .ok (.aload_n 3, 1) := by decide +kernel
theorem dX8_caseOf_111 : decode cX8_caseOf 111 = .ok (.iload_n 2, 1) := by decide +kernel
theorem dX8_caseOf_112 : decode cX8_caseOf 112 = .ok (.bipush 10, 2) := by decide +kernel
theorem dX8_caseOf_114 : decode cX8_caseOf 114 = .ok (.isub, 1) := by decide +kernel
theorem dX8_caseOf_115 : decode cX8_caseOf 115 = .ok (.invokevirtual 246, 3) := by decide +kernel
theorem dX8_caseOf_118 : decode cX8_caseOf 118 = .ok (.ireturn, 1) := by decide +kernel
theorem dX8_slow_0 : decode cX8_slow 0 = .ok (.iload_n 1, 1) := by decide +kernel
theorem dX8_slow_1 : decode cX8_slow 1 = .ok (.bipush 40, 2) := by decide +kernel
theorem dX8_slow_3 : decode cX8_slow 3 = .ok (.invokestatic 64, 3) := by decide +kernel
theorem dX8_slow_6 : decode cX8_slow 6 = .ok (.ifCond .ne 5, 3) := by decide +kernel
theorem dX8_slow_9 : decode cX8_slow 9 = .ok (.iconst (-1), 1) := by decide +kernel
theorem dX8_slow_10 : decode cX8_slow 10 = .ok (.ireturn, 1) := by decide +kernel
theorem dX8_slow_11 : decode cX8_slow 11 = .ok (.iconst 0, 1) := by decide +kernel
theorem dX8_slow_12 : decode cX8_slow 12 = .ok (.istore_n 2, 1) := by decide +kernel
theorem dX8_slow_13 : decode cX8_slow 13 = .ok (.aload_n 0, 1) := by decide +kernel
theorem dX8_slow_14 : decode cX8_slow 14 = .ok (.getfield 15, 3) := by decide +kernel
theorem dX8_slow_17 : decode cX8_slow 17 = .ok (.iload_n 1, 1) := by decide +kernel
theorem dX8_slow_18 : decode cX8_slow 18 = .ok (.aaload, 1) := by decide +kernel
theorem dX8_slow_19 : decode cX8_slow 19 = .ok (.astore_n 3, 1) := by decide +kernel
theorem dX8_slow_20 : decode cX8_slow 20 = .ok (.aload_n 3, 1) := by decide +kernel
theorem dX8_slow_21 : decode cX8_slow 21 = .ok (.ifnull 62, 3) := by decide +kernel
theorem dX8_slow_24 : decode cX8_slow 24 = .ok (.aload_n 0, 1) := by decide +kernel
theorem dX8_slow_25 : decode cX8_slow 25 = .ok (.getfield 61, 3) := by decide +kernel
theorem dX8_slow_28 : decode cX8_slow 28 = .ok (.aload_n 3, 1) := by decide +kernel
theorem dX8_slow_29 : decode cX8_slow 29 = .ok (.getfield 148, 3) := by decide +kernel
theorem dX8_slow_32 : decode cX8_slow 32 = .ok (.isub, 1) := by decide +kernel
theorem dX8_slow_33 : decode cX8_slow 33 = .ok (.sipush 199, 3) := by decide +kernel
theorem dX8_slow_36 : decode cX8_slow 36 = .ok (.if_icmp .gt 47, 3) := by decide +kernel
theorem dX8_slow_39 : decode cX8_slow 39 = .ok (.aload_n 3, 1) := by decide +kernel
theorem dX8_slow_40 : decode cX8_slow 40 = .ok (.invokevirtual 225, 3) := by decide +kernel
theorem dX8_slow_43 : decode cX8_slow 43 = .ok (.ifCond .eq 14, 3) := by decide +kernel
theorem dX8_slow_46 : decode cX8_slow 46 = .ok (.aload_n 3, 1) := by decide +kernel
theorem dX8_slow_47 : decode cX8_slow 47 = .ok (.aload_n 0, 1) := by decide +kernel
theorem dX8_slow_48 : decode cX8_slow 48 = .ok (.getfield 58, 3) := by decide +kernel
theorem dX8_slow_51 : decode cX8_slow 51 = .ok (.invokevirtual 173, 3) := by decide +kernel
theorem dX8_slow_54 : decode cX8_slow 54 = .ok (.goto 4, 3) := by decide +kernel
theorem dX8_slow_57 : decode cX8_slow 57 = .ok (.iconst 0, 1) := by decide +kernel
theorem dX8_slow_58 : decode cX8_slow 58 = .ok (.istore 4, 2) := by decide +kernel
theorem dX8_slow_60 : decode cX8_slow 60 = .ok (.iload 4, 2) := by decide +kernel
theorem dX8_slow_62 : decode cX8_slow 62 = .ok (.sipush 10000, 3) := by decide +kernel
theorem dX8_slow_65 : decode cX8_slow 65 = .ok (.if_icmp .lt 5, 3) := by decide +kernel
theorem dX8_slow_68 : decode cX8_slow 68 = .ok (.iconst (-1), 1) := by decide +kernel
theorem dX8_slow_69 : decode cX8_slow 69 = .ok (.ireturn, 1) := by decide +kernel
theorem dX8_slow_70 : decode cX8_slow 70 = .ok (.iload_n 2, 1) := by decide +kernel
theorem dX8_slow_71 : decode cX8_slow 71 = .ok (.iload 4, 2) := by decide +kernel
theorem dX8_slow_73 : decode cX8_slow 73 = .ok (.iadd, 1) := by decide +kernel
theorem dX8_slow_74 : decode cX8_slow 74 = .ok (.istore_n 2, 1) := by decide +kernel
theorem dX8_slow_75 : decode cX8_slow 75 = .ok (.aload_n 3, 1) := by decide +kernel
theorem dX8_slow_76 : decode cX8_slow 76 = .ok (.getfield 109, 3) := by decide +kernel
theorem dX8_slow_79 : decode cX8_slow 79 = .ok (.astore_n 3, 1) := by decide +kernel
theorem dX8_slow_80 : decode cX8_slow 80 = .ok (.goto (-60), 3) := by decide +kernel
theorem dX8_slow_83 : decode cX8_slow 83 = .ok (.iload_n 2, 1) := by decide +kernel
theorem dX8_slow_84 : decode cX8_slow 84 = .ok (.sipush 30000, 3) := by decide +kernel
theorem dX8_slow_87 : decode cX8_slow 87 = .ok (.if_icmp .le 7, 3) := by decide +kernel
theorem dX8_slow_90 : decode cX8_slow 90 = .ok (.iload_n 2, 1) := by decide +kernel
theorem dX8_slow_91 : decode cX8_slow 91 = .ok (.goto 4, 3) := by decide +kernel
theorem dX8_slow_94 : decode cX8_slow 94 = .ok (.iconst (-1), 1) := by decide +kernel
theorem dX8_slow_95 : decode cX8_slow 95 = .ok (.ireturn, 1) := by decide +kernel
theorem dX8_plan_0 : decode cX8_plan 0 = .ok (.iload_n 1, 1) := by decide +kernel
theorem dX8_plan_1 : decode cX8_plan 1 = .ok (.ifCond .lt 10, 3) := by decide +kernel
theorem dX8_plan_4 : decode cX8_plan 4 = .ok (.iload_n 1, 1) := by decide +kernel
theorem dX8_plan_5 : decode cX8_plan 5 = .ok (.sipush 300, 3) := by decide +kernel
theorem dX8_plan_8 : decode cX8_plan 8 = .ok (.if_icmp .le 5, 3) := by decide +kernel
theorem dX8_plan_11 : decode cX8_plan 11 = .ok (.iconst (-1), 1) := by decide +kernel
theorem dX8_plan_12 : decode cX8_plan 12 = .ok (.ireturn, 1) := by decide +kernel
theorem dX8_plan_13 : decode cX8_plan 13 = .ok (.aload_n 0, 1) := by decide +kernel
theorem dX8_plan_14 : decode cX8_plan 14 = .ok (.getfield 50, 3) := by decide +kernel
theorem dX8_plan_17 : decode cX8_plan 17 = .ok (.aload_n 0, 1) := by decide +kernel
theorem dX8_plan_18 : decode cX8_plan 18 = .ok (.invokevirtual 214, 3) := by decide +kernel
theorem dX8_plan_21 : decode cX8_plan 21 = .ok (.iload_n 1, 1) := by decide +kernel
theorem dX8_plan_22 : decode cX8_plan 22 = .ok (.aload_n 0, 1) := by decide +kernel
theorem dX8_plan_23 : decode cX8_plan 23 = .ok (.getfield 122, 3) := by decide +kernel
theorem dX8_plan_26 : decode cX8_plan 26 = .ok (.invokevirtual 250, 3) := by decide +kernel
theorem dX8_plan_29 : decode cX8_plan 29 = .ok (.iload_n 2, 1) := by decide +kernel
theorem dX8_plan_30 : decode cX8_plan 30 = .ok (.iconst (-1), 1) := by decide +kernel
theorem dX8_plan_31 : decode cX8_plan 31 = .ok (.if_icmp .ne 11, 3) := by decide +kernel
theorem dX8_plan_34 : decode cX8_plan 34 = .ok (.aload_n 0, 1) := by decide +kernel
theorem dX8_plan_35 : decode cX8_plan 35 = .ok (.getfield 50, 3) := by decide +kernel
theorem dX8_plan_38 : decode cX8_plan 38 = .ok (.getfield 254, 3) := by decide +kernel
theorem dX8_plan_41 : decode cX8_plan 41 = .ok (.ireturn, 1) := by decide +kernel
theorem dX8_plan_42 : decode cX8_plan 42 = .ok (.aload_n 0, 1) := by decide +kernel
theorem dX8_plan_43 : decode cX8_plan 43 = .ok (.getfield 50, 3) := by decide +kernel
theorem dX8_plan_46 : decode cX8_plan 46 = .ok (.iload_n 2, 1) := by decide +kernel
theorem dX8_plan_47 : decode cX8_plan 47 = .ok (.invokevirtual 257, 3) := by decide +kernel
theorem dX8_plan_50 : decode cX8_plan 50 = .ok (.astore_n 3, 1) := by decide +kernel
theorem dX8_plan_51 : decode cX8_plan 51 = .ok (.aload_n 3, 1) := by decide +kernel
theorem dX8_plan_52 : decode cX8_plan 52 = .ok (.ifnonnull 7, 3) := by decide +kernel
theorem dX8_plan_55 : decode cX8_plan 55 = .ok (.iconst (-1), 1) := by decide +kernel
theorem dX8_plan_56 : decode cX8_plan 56 = .ok (.goto 7, 3) := by decide +kernel
theorem dX8_plan_59 : decode cX8_plan 59 = .ok (.aload_n 3, 1) := by decide +kernel
theorem dX8_plan_60 : decode cX8_plan 60 = .ok (.getfield 222, 3) := by decide +kernel
theorem dX8_plan_63 : decode cX8_plan 63 = .ok (.ireturn, 1) := by decide +kernel
theorem dX8_worth_0 : decode cX8_worth 0 = .ok (.iload_n 1, 1) := by decide +kernel
theorem dX8_worth_1 : decode cX8_worth 1 = .ok (.ifCond .lt 19, 3) := by decide +kernel
theorem dX8_worth_4 : decode cX8_worth 4 = .ok (.iload_n 1, 1) := by decide +kernel
theorem dX8_worth_5 : decode cX8_worth 5 = .ok (.sipush 300, 3) := by decide +kernel
theorem dX8_worth_8 : decode cX8_worth 8 = .ok (.if_icmp .gt 12, 3) := by decide +kernel
theorem dX8_worth_11 : decode cX8_worth 11 = .ok (.iload_n 2, 1) := by decide +kernel
theorem dX8_worth_12 : decode cX8_worth 12 = .ok (.ifCond .lt 8, 3) := by decide +kernel
theorem dX8_worth_15 : decode cX8_worth 15 = .ok (.iload_n 2, 1) := by decide +kernel
theorem dX8_worth_16 : decode cX8_worth 16 = .ok (.iconst 2, 1) := by decide +kernel
theorem dX8_worth_17 : decode cX8_worth 17 = .ok (.if_icmp .le 5, 3) := by decide +kernel
theorem dX8_worth_20 : decode cX8_worth 20 = .ok (.iconst (-1), 1) := by decide +kernel
theorem dX8_worth_21 : decode cX8_worth 21 = .ok (.ireturn, 1) := by decide +kernel
theorem dX8_worth_22 : decode cX8_worth 22 = .ok (.aload_n 0, 1) := by decide +kernel
theorem dX8_worth_23 : decode cX8_worth 23 = .ok (.getfield 50, 3) := by decide +kernel
theorem dX8_worth_26 : decode cX8_worth 26 = .ok (.aload_n 0, 1) := by decide +kernel
theorem dX8_worth_27 : decode cX8_worth 27 = .ok (.invokevirtual 214, 3) := by decide +kernel
theorem dX8_worth_30 : decode cX8_worth 30 = .ok (.iload_n 1, 1) := by decide +kernel
theorem dX8_worth_31 : decode cX8_worth 31 = .ok (.aload_n 0, 1) := by decide +kernel
theorem dX8_worth_32 : decode cX8_worth 32 = .ok (.getfield 122, 3) := by decide +kernel
theorem dX8_worth_35 : decode cX8_worth 35 = .ok (.invokevirtual 250, 3) := by decide +kernel
theorem dX8_worth_38 : decode cX8_worth 38 = .ok (.iload_n 2, 1) := by decide +kernel
theorem dX8_worth_39 : decode cX8_worth 39 = .ok (.lookupswitch 49 #[(0, 25), (1, 33)], 25) := by decide +kernel
theorem dX8_worth_64 : decode cX8_worth 64 = .ok (.aload_n 0, 1) := by decide +kernel
theorem dX8_worth_65 : decode cX8_worth 65 = .ok (.getfield 50, 3) := by decide +kernel
theorem dX8_worth_68 : decode cX8_worth 68 = .ok (.getfield 258, 3) := by decide +kernel
theorem dX8_worth_71 : decode cX8_worth 71 = .ok (.ireturn, 1) := by decide +kernel
theorem dX8_worth_72 : decode cX8_worth 72 = .ok (.aload_n 0, 1) := by decide +kernel
theorem dX8_worth_73 : decode cX8_worth 73 = .ok (.getfield 43, 3) := by decide +kernel
theorem dX8_worth_76 : decode cX8_worth 76 = .ok (.invokevirtual 261, 3) := by decide +kernel
theorem dX8_worth_79 : decode cX8_worth 79 = .ok (.aload_n 0, 1) := by decide +kernel
theorem dX8_worth_80 : decode cX8_worth 80 = .ok (.getfield 50, 3) := by decide +kernel
theorem dX8_worth_83 : decode cX8_worth 83 = .ok (.getfield 258, 3) := by decide +kernel
theorem dX8_worth_86 : decode cX8_worth 86 = .ok (.isub, 1) := by decide +kernel
theorem dX8_worth_87 : decode cX8_worth 87 = .ok (.ireturn, 1) := by decide +kernel
theorem dX8_worth_88 : decode cX8_worth 88 = .ok (.iload_n 1, 1) := by decide +kernel
theorem dX8_worth_89 : decode cX8_worth 89 = .ok (.aload_n 0, 1) := by decide +kernel
theorem dX8_worth_90 : decode cX8_worth 90 = .ok (.getfield 50, 3) := by decide +kernel
theorem dX8_worth_93 : decode cX8_worth 93 = .ok (.getfield 264, 3) := by decide +kernel
theorem dX8_worth_96 : decode cX8_worth 96 = .ok (.isub, 1) := by decide +kernel
theorem dX8_worth_97 : decode cX8_worth 97 = .ok (.ireturn, 1) := by decide +kernel
theorem dX8_source_0 : decode cX8_source 0 = .ok (.iload_n 1, 1) := by decide +kernel
theorem dX8_source_1 : decode cX8_source 1 = .ok (.bipush 10, 2) := by decide +kernel
theorem dX8_source_3 : decode cX8_source 3 = .ok (.invokestatic 64, 3) := by decide +kernel
theorem dX8_source_6 : decode cX8_source 6 = .ok (.ifCond .eq 13, 3) := by decide +kernel
theorem dX8_source_9 : decode cX8_source 9 = .ok (.iload_n 2, 1) := by decide +kernel
theorem dX8_source_10 : decode cX8_source 10 = .ok (.ifCond .lt 9, 3) := by decide +kernel
theorem dX8_source_13 : decode cX8_source 13 = .ok (.iload_n 2, 1) := by decide +kernel
theorem dX8_source_14 : decode cX8_source 14 = .ok (.bipush 6, 2) := by decide +kernel
theorem dX8_source_16 : decode cX8_source 16 = .ok (.if_icmp .le 5, 3) := by decide +kernel
theorem dX8_source_19 : decode cX8_source 19 = .ok (.iconst (-1), 1) := by decide +kernel
theorem dX8_source_20 : decode cX8_source 20 = .ok (.ireturn, 1) := by decide +kernel
theorem dX8_source_21 : decode cX8_source 21 = .ok (.iconst 0, 1) := by decide +kernel
theorem dX8_source_22 : decode cX8_source 22 = .ok (.istore_n 3, 1) := by decide +kernel
theorem dX8_source_23 : decode cX8_source 23 = .ok (.iconst 0, 1) := by decide +kernel
theorem dX8_source_24 : decode cX8_source 24 = .ok (.istore 4, 2) := by decide +kernel
theorem dX8_source_26 : decode cX8_source 26 = .ok (.iload 4, 2) := by decide +kernel
theorem dX8_source_28 : decode cX8_source 28 = .ok (.aload_n 0, 1) := by decide +kernel
theorem dX8_source_29 : decode cX8_source 29 = .ok (.getfield 79, 3) := by decide +kernel
theorem dX8_source_32 : decode cX8_source 32 = .ok (.if_icmp .ge 40, 3) := by decide +kernel
theorem dX8_source_35 : decode cX8_source 35 = .ok (.aload_n 0, 1) := by decide +kernel
theorem dX8_source_36 : decode cX8_source 36 = .ok (.getfield 11, 3) := by decide +kernel
theorem dX8_source_39 : decode cX8_source 39 = .ok (.iload 4, 2) := by decide +kernel
theorem dX8_source_41 : decode cX8_source 41 = .ok (.aaload, 1) := by decide +kernel
theorem dX8_source_42 : decode cX8_source 42 = .ok (.getfield 151, 3) := by decide +kernel
theorem dX8_source_45 : decode cX8_source 45 = .ok (.iload_n 1, 1) := by decide +kernel
theorem dX8_source_46 : decode cX8_source 46 = .ok (.if_icmp .ne 20, 3) := by decide +kernel
theorem dX8_source_49 : decode cX8_source 49 = .ok (.aload_n 0, 1) := by decide +kernel
theorem dX8_source_50 : decode cX8_source 50 = .ok (.getfield 11, 3) := by decide +kernel
theorem dX8_source_53 : decode cX8_source 53 = .ok (.iload 4, 2) := by decide +kernel
theorem dX8_source_55 : decode cX8_source 55 = .ok (.aaload, 1) := by decide +kernel
theorem dX8_source_56 : decode cX8_source 56 = .ok (.iload_n 2, 1) := by decide +kernel
theorem dX8_source_57 : decode cX8_source 57 = .ok (.invokestatic 267, 3) := by decide +kernel
theorem dX8_source_60 : decode cX8_source 60 = .ok (.ifCond .eq 6, 3) := by decide +kernel
theorem dX8_source_63 : decode cX8_source 63 = .ok (.iinc 3 1, 3) := by decide +kernel
theorem dX8_source_66 : decode cX8_source 66 = .ok (.iinc 4 1, 3) := by decide +kernel
theorem dX8_source_69 : decode cX8_source 69 = .ok (.goto (-43), 3) := by decide +kernel
theorem dX8_source_72 : decode cX8_source 72 = .ok (.iload_n 3, 1) := by decide +kernel
theorem dX8_source_73 : decode cX8_source 73 = .ok (.ireturn, 1) := by decide +kernel
theorem dX8_count_0 : decode cX8_count 0 = .ok (.iload_n 1, 1) := by decide +kernel
theorem dX8_count_1 : decode cX8_count 1 = .ok (.tableswitch 78 0 5 #[39, 44, 49, 57, 65, 70], 39) := by decide +kernel
theorem dX8_count_40 : decode cX8_count 40 = .ok (.aload_n 0, 1) := by decide +kernel
theorem dX8_count_41 : decode cX8_count 41 = .ok (.getfield 61, 3) := by decide +kernel
theorem dX8_count_44 : decode cX8_count 44 = .ok (.ireturn, 1) := by decide +kernel
theorem dX8_count_45 : decode cX8_count 45 = .ok (.aload_n 0, 1) := by decide +kernel
theorem dX8_count_46 : decode cX8_count 46 = .ok (.getfield 79, 3) := by decide +kernel
theorem dX8_count_49 : decode cX8_count 49 = .ok (.ireturn, 1) := by decide +kernel
theorem dX8_count_50 : decode cX8_count 50 = .ok (.aload_n 0, 1) := by decide +kernel
theorem dX8_count_51 : decode cX8_count 51 = .ok (.getfield 29, 3) := by decide +kernel
theorem dX8_count_54 : decode cX8_count 54 = .ok (.getfield 201, 3) := by decide +kernel
theorem dX8_count_57 : decode cX8_count 57 = .ok (.ireturn, 1) := by decide +kernel
theorem dX8_count_58 : decode cX8_count 58 = .ok (.aload_n 0, 1) := by decide +kernel
theorem dX8_count_59 : decode cX8_count 59 = .ok (.invokevirtual 214, 3) := by decide +kernel
theorem dX8_count_62 : decode cX8_count 62 = .ok (.getfield 271, 3) := by decide +kernel
theorem dX8_count_65 : decode cX8_count 65 = .ok (.ireturn, 1) := by decide +kernel
theorem dX8_count_66 : decode cX8_count 66 = .ok (.aload_n 0, 1) := by decide +kernel
theorem dX8_count_67 : decode cX8_count 67 = .ok (.getfield 116, 3) := by decide +kernel
theorem dX8_count_70 : decode cX8_count 70 = .ok (.ireturn, 1) := by decide +kernel
theorem dX8_count_71 : decode cX8_count 71 = .ok (.aload_n 0, 1) := by decide +kernel
theorem dX8_count_72 : decode cX8_count 72 = .ok (.getfield 36, 3) := by decide +kernel
theorem dX8_count_75 : decode cX8_count 75 = .ok (.getfield 272, 3) := by decide +kernel
theorem dX8_count_78 : decode cX8_count 78 = .ok (.ireturn, 1) := by decide +kernel
theorem dX8_count_79 : decode cX8_count 79 = .ok (.iconst (-1), 1) := by decide +kernel
theorem dX8_count_80 : decode cX8_count 80 = .ok (.ireturn, 1) := by decide +kernel
theorem dX8_isBelow_0 : decode cX8_isBelow 0 = .ok (.iload_n 0, 1) := by decide +kernel
theorem dX8_isBelow_1 : decode cX8_isBelow 1 = .ok (.ifCond .lt 12, 3) := by decide +kernel
theorem dX8_isBelow_4 : decode cX8_isBelow 4 = .ok (.iload_n 0, 1) := by decide +kernel
theorem dX8_isBelow_5 : decode cX8_isBelow 5 = .ok (.iload_n 1, 1) := by decide +kernel
theorem dX8_isBelow_6 : decode cX8_isBelow 6 = .ok (.if_icmp .ge 7, 3) := by decide +kernel
theorem dX8_isBelow_9 : decode cX8_isBelow 9 = .ok (.iconst 1, 1) := by decide +kernel
theorem dX8_isBelow_10 : decode cX8_isBelow 10 = .ok (.goto 4, 3) := by decide +kernel
theorem dX8_isBelow_13 : decode cX8_isBelow 13 = .ok (.iconst 0, 1) := by decide +kernel
theorem dX8_isBelow_14 : decode cX8_isBelow 14 = .ok (.ireturn, 1) := by decide +kernel
theorem dX8_oneIf_0 : decode cX8_oneIf 0 = .ok (.iload_n 0, 1) := by decide +kernel
theorem dX8_oneIf_1 : decode cX8_oneIf 1 = .ok (.ifCond .eq 7, 3) := by decide +kernel
theorem dX8_oneIf_4 : decode cX8_oneIf 4 = .ok (.iconst 1, 1) := by decide +kernel
theorem dX8_oneIf_5 : decode cX8_oneIf 5 = .ok (.goto 4, 3) := by decide +kernel
theorem dX8_oneIf_8 : decode cX8_oneIf 8 = .ok (.iconst 0, 1) := by decide +kernel
theorem dX8_oneIf_9 : decode cX8_oneIf 9 = .ok (.ireturn, 1) := by decide +kernel
theorem dX8_inLowestTerms_0 : decode cX8_inLowestTerms 0 = .ok (.iload_n 1, 1) := by decide +kernel
theorem dX8_inLowestTerms_1 : decode cX8_inLowestTerms 1 = .ok (.istore_n 3, 1) := by decide +kernel
theorem dX8_inLowestTerms_2 : decode cX8_inLowestTerms 2 = .ok (.iload_n 0, 1) := by decide +kernel
theorem dX8_inLowestTerms_3 : decode cX8_inLowestTerms 3 = .ok (.istore 4, 2) := by decide +kernel
theorem dX8_inLowestTerms_5 : decode cX8_inLowestTerms 5 = .ok (.iconst 0, 1) := by decide +kernel
theorem dX8_inLowestTerms_6 : decode cX8_inLowestTerms 6 = .ok (.istore 5, 2) := by decide +kernel
theorem dX8_inLowestTerms_8 : decode cX8_inLowestTerms 8 = .ok (.iload 5, 2) := by decide +kernel
theorem dX8_inLowestTerms_10 : decode cX8_inLowestTerms 10 = .ok (.bipush 100, 2) := by decide +kernel
theorem dX8_inLowestTerms_12 : decode cX8_inLowestTerms 12 = .ok (.if_icmp .ge 27, 3) := by decide +kernel
theorem dX8_inLowestTerms_15 : decode cX8_inLowestTerms 15 = .ok (.iload 4, 2) := by decide +kernel
theorem dX8_inLowestTerms_17 : decode cX8_inLowestTerms 17 = .ok (.ifCond .le 22, 3) := by decide +kernel
theorem dX8_inLowestTerms_20 : decode cX8_inLowestTerms 20 = .ok (.iload_n 3, 1) := by decide +kernel
theorem dX8_inLowestTerms_21 : decode cX8_inLowestTerms 21 = .ok (.iload 4, 2) := by decide +kernel
theorem dX8_inLowestTerms_23 : decode cX8_inLowestTerms 23 = .ok (.irem, 1) := by decide +kernel
theorem dX8_inLowestTerms_24 : decode cX8_inLowestTerms 24 = .ok (.istore 6, 2) := by decide +kernel
theorem dX8_inLowestTerms_26 : decode cX8_inLowestTerms 26 = .ok (.iload 4, 2) := by decide +kernel
theorem dX8_inLowestTerms_28 : decode cX8_inLowestTerms 28 = .ok (.istore_n 3, 1) := by decide +kernel
theorem dX8_inLowestTerms_29 : decode cX8_inLowestTerms 29 = .ok (.iload 6, 2) := by decide +kernel
theorem dX8_inLowestTerms_31 : decode cX8_inLowestTerms 31 = .ok (.istore 4, 2) := by decide +kernel
theorem dX8_inLowestTerms_33 : decode cX8_inLowestTerms 33 = .ok (.iinc 5 1, 3) := by decide +kernel
theorem dX8_inLowestTerms_36 : decode cX8_inLowestTerms 36 = .ok (.goto (-28), 3) := by decide +kernel
theorem dX8_inLowestTerms_39 : decode cX8_inLowestTerms 39 = .ok (.iload_n 3, 1) := by decide +kernel
theorem dX8_inLowestTerms_40 : decode cX8_inLowestTerms 40 = .ok (.iconst 1, 1) := by decide +kernel
theorem dX8_inLowestTerms_41 : decode cX8_inLowestTerms 41 = .ok (.if_icmp .ge 5, 3) := by decide +kernel
theorem dX8_inLowestTerms_44 : decode cX8_inLowestTerms 44 = .ok (.iconst (-1), 1) := by decide +kernel
theorem dX8_inLowestTerms_45 : decode cX8_inLowestTerms 45 = .ok (.ireturn, 1) := by decide +kernel
theorem dX8_inLowestTerms_46 : decode cX8_inLowestTerms 46 = .ok (.iload_n 2, 1) := by decide +kernel
theorem dX8_inLowestTerms_47 : decode cX8_inLowestTerms 47 = .ok (.ifCond .eq 7, 3) := by decide +kernel
theorem dX8_inLowestTerms_50 : decode cX8_inLowestTerms 50 = .ok (.iload_n 0, 1) := by decide +kernel
theorem dX8_inLowestTerms_51 : decode cX8_inLowestTerms 51 = .ok (.goto 4, 3) := by decide +kernel
theorem dX8_inLowestTerms_54 : decode cX8_inLowestTerms 54 = .ok (.iload_n 1, 1) := by decide +kernel
theorem dX8_inLowestTerms_55 : decode cX8_inLowestTerms 55 = .ok (.iload_n 3, 1) := by decide +kernel
theorem dX8_inLowestTerms_56 : decode cX8_inLowestTerms 56 = .ok (.idiv, 1) := by decide +kernel
theorem dX8_inLowestTerms_57 : decode cX8_inLowestTerms 57 = .ok (.ireturn, 1) := by decide +kernel
theorem dX8_isOfKind_0 : decode cX8_isOfKind 0 = .ok (.iload_n 1, 1) := by decide +kernel
theorem dX8_isOfKind_1 : decode cX8_isOfKind 1 = .ok (.tableswitch 117 0 6 #[43, 45, 58, 63, 68, 82, 96], 43) := by decide +kernel
theorem dX8_isOfKind_44 : decode cX8_isOfKind 44 = .ok (.iconst 1, 1) := by decide +kernel
theorem dX8_isOfKind_45 : decode cX8_isOfKind 45 = .ok (.ireturn, 1) := by decide +kernel
theorem dX8_isOfKind_46 : decode cX8_isOfKind 46 = .ok (.aload_n 0, 1) := by decide +kernel
theorem dX8_isOfKind_47 : decode cX8_isOfKind 47 = .ok (.getfield 163, 3) := by decide +kernel
theorem dX8_isOfKind_50 : decode cX8_isOfKind 50 = .ok (.ifCond .le 7, 3) := by decide +kernel
theorem dX8_isOfKind_53 : decode cX8_isOfKind 53 = .ok (.iconst 1, 1) := by decide +kernel
theorem dX8_isOfKind_54 : decode cX8_isOfKind 54 = .ok (.goto 4, 3) := by decide +kernel
theorem dX8_isOfKind_57 : decode cX8_isOfKind 57 = .ok (.iconst 0, 1) := by decide +kernel
theorem dX8_isOfKind_58 : decode cX8_isOfKind 58 = .ok (.ireturn, 1) := by decide +kernel
theorem dX8_isOfKind_59 : decode cX8_isOfKind 59 = .ok (.aload_n 0, 1) := by decide +kernel
theorem dX8_isOfKind_60 : decode cX8_isOfKind 60 = .ok (.getfield 93, 3) := by decide +kernel
theorem dX8_isOfKind_63 : decode cX8_isOfKind 63 = .ok (.ireturn, 1) := by decide +kernel
theorem dX8_isOfKind_64 : decode cX8_isOfKind 64 = .ok (.aload_n 0, 1) := by decide +kernel
theorem dX8_isOfKind_65 : decode cX8_isOfKind 65 = .ok (.getfield 100, 3) := by decide +kernel
theorem dX8_isOfKind_68 : decode cX8_isOfKind 68 = .ok (.ireturn, 1) := by decide +kernel
theorem dX8_isOfKind_69 : decode cX8_isOfKind 69 = .ok (.aload_n 0, 1) := by decide +kernel
theorem dX8_isOfKind_70 : decode cX8_isOfKind 70 = .ok (.getfield 166, 3) := by decide +kernel
theorem dX8_isOfKind_73 : decode cX8_isOfKind 73 = .ok (.iconst 1, 1) := by decide +kernel
theorem dX8_isOfKind_74 : decode cX8_isOfKind 74 = .ok (.if_icmp .ne 7, 3) := by decide +kernel
theorem dX8_isOfKind_77 : decode cX8_isOfKind 77 = .ok (.iconst 1, 1) := by decide +kernel
theorem dX8_isOfKind_78 : decode cX8_isOfKind 78 = .ok (.goto 4, 3) := by decide +kernel
theorem dX8_isOfKind_81 : decode cX8_isOfKind 81 = .ok (.iconst 0, 1) := by decide +kernel
theorem dX8_isOfKind_82 : decode cX8_isOfKind 82 = .ok (.ireturn, 1) := by decide +kernel
theorem dX8_isOfKind_83 : decode cX8_isOfKind 83 = .ok (.aload_n 0, 1) := by decide +kernel
theorem dX8_isOfKind_84 : decode cX8_isOfKind 84 = .ok (.getfield 166, 3) := by decide +kernel
theorem dX8_isOfKind_87 : decode cX8_isOfKind 87 = .ok (.iconst 2, 1) := by decide +kernel
theorem dX8_isOfKind_88 : decode cX8_isOfKind 88 = .ok (.if_icmp .ne 7, 3) := by decide +kernel
theorem dX8_isOfKind_91 : decode cX8_isOfKind 91 = .ok (.iconst 1, 1) := by decide +kernel
theorem dX8_isOfKind_92 : decode cX8_isOfKind 92 = .ok (.goto 4, 3) := by decide +kernel
theorem dX8_isOfKind_95 : decode cX8_isOfKind 95 = .ok (.iconst 0, 1) := by decide +kernel
theorem dX8_isOfKind_96 : decode cX8_isOfKind 96 = .ok (.ireturn, 1) := by decide +kernel
theorem dX8_isOfKind_97 : decode cX8_isOfKind 97 = .ok (.aload_n 0, 1) := by decide +kernel
theorem dX8_isOfKind_98 : decode cX8_isOfKind 98 = .ok (.getfield 166, 3) := by decide +kernel
theorem dX8_isOfKind_101 : decode cX8_isOfKind 101 = .ok (.iconst 1, 1) := by decide +kernel
theorem dX8_isOfKind_102 : decode cX8_isOfKind 102 = .ok (.if_icmp .ne 14, 3) := by decide +kernel
theorem dX8_isOfKind_105 : decode cX8_isOfKind 105 = .ok (.aload_n 0, 1) := by decide +kernel
theorem dX8_isOfKind_106 : decode cX8_isOfKind 106 = .ok (.invokevirtual 273, 3) := by decide +kernel
theorem dX8_isOfKind_109 : decode cX8_isOfKind 109 = .ok (.ifCond .eq 7, 3) := by decide +kernel
theorem dX8_isOfKind_112 : decode cX8_isOfKind 112 = .ok (.iconst 1, 1) := by decide +kernel
theorem dX8_isOfKind_113 : decode cX8_isOfKind 113 = .ok (.goto 4, 3) := by decide +kernel
theorem dX8_isOfKind_116 : decode cX8_isOfKind 116 = .ok (.iconst 0, 1) := by decide +kernel
theorem dX8_isOfKind_117 : decode cX8_isOfKind 117 = .ok (.ireturn, 1) := by decide +kernel
theorem dX8_isOfKind_118 : decode cX8_isOfKind 118 = .ok (.iconst 0, 1) := by decide +kernel
theorem dX8_isOfKind_119 : decode cX8_isOfKind 119 = .ok (.ireturn, 1) := by decide +kernel
theorem dX8_alarmAt_0 : decode cX8_alarmAt 0 = .ok (.iload_n 1, 1) := by decide +kernel
theorem dX8_alarmAt_1 : decode cX8_alarmAt 1 = .ok (.aload_n 0, 1) := by decide +kernel
theorem dX8_alarmAt_2 : decode cX8_alarmAt 2 = .ok (.getfield 79, 3) := by decide +kernel
theorem dX8_alarmAt_5 : decode cX8_alarmAt 5 = .ok (.invokestatic 64, 3) := by decide +kernel
theorem dX8_alarmAt_8 : decode cX8_alarmAt 8 = .ok (.ifCond .eq 12, 3) := by decide +kernel
theorem dX8_alarmAt_11 : decode cX8_alarmAt 11 = .ok (.aload_n 0, 1) := by decide +kernel
theorem dX8_alarmAt_12 : decode cX8_alarmAt 12 = .ok (.getfield 11, 3) := by decide +kernel
theorem dX8_alarmAt_15 : decode cX8_alarmAt 15 = .ok (.iload_n 1, 1) := by decide +kernel
theorem dX8_alarmAt_16 : decode cX8_alarmAt 16 = .ok (.aaload, 1) := by decide +kernel
theorem dX8_alarmAt_17 : decode cX8_alarmAt 17 = .ok (.goto 4, 3) := by decide +kernel
theorem dX8_alarmAt_20 : decode cX8_alarmAt 20 = .ok (.aconst_null, 1) := by decide +kernel
theorem dX8_alarmAt_21 : decode cX8_alarmAt 21 = .ok (.areturn, 1) := by decide +kernel
theorem dX8_alarmToRepeat_0 : decode cX8_alarmToRepeat 0 = .ok (.aload_n 0, 1) := by decide +kernel
theorem dX8_alarmToRepeat_1 : decode cX8_alarmToRepeat 1 = .ok (.getfield 79, 3) := by decide +kernel
theorem dX8_alarmToRepeat_4 : decode cX8_alarmToRepeat 4 = .ok (.iconst 1, 1) := by decide +kernel
theorem dX8_alarmToRepeat_5 : decode cX8_alarmToRepeat 5 = .ok (.isub, 1) := by decide +kernel
theorem dX8_alarmToRepeat_6 : decode cX8_alarmToRepeat 6 = .ok (.istore 4, 2) := by decide +kernel
theorem dX8_alarmToRepeat_8 : decode cX8_alarmToRepeat 8 = .ok (.iload 4, 2) := by decide +kernel
theorem dX8_alarmToRepeat_10 : decode cX8_alarmToRepeat 10 = .ok (.ifCond .lt 71, 3) := by decide +kernel
theorem dX8_alarmToRepeat_13 : decode cX8_alarmToRepeat 13 = .ok (.aload_n 0, 1) := by decide +kernel
theorem dX8_alarmToRepeat_14 : decode cX8_alarmToRepeat 14 = .ok (.getfield 11, 3) := by decide +kernel
theorem dX8_alarmToRepeat_17 : decode cX8_alarmToRepeat 17 = .ok (.iload 4, 2) := by decide +kernel
theorem dX8_alarmToRepeat_19 : decode cX8_alarmToRepeat 19 = .ok (.aaload, 1) := by decide +kernel
theorem dX8_alarmToRepeat_20 : decode cX8_alarmToRepeat 20 = .ok (.astore 5, 2) := by decide +kernel
theorem dX8_alarmToRepeat_22 : decode cX8_alarmToRepeat 22 = .ok (.aload 5, 2) := by decide +kernel
theorem dX8_alarmToRepeat_24 : decode cX8_alarmToRepeat 24 = .ok (.getfield 151, 3) := by decide +kernel
theorem dX8_alarmToRepeat_27 : decode cX8_alarmToRepeat 27 = .ok (.iload_n 1, 1) := by decide +kernel
theorem dX8_alarmToRepeat_28 : decode cX8_alarmToRepeat 28 = .ok (.if_icmp .ne 47, 3) := by decide +kernel
theorem dX8_alarmToRepeat_31 : decode cX8_alarmToRepeat 31 = .ok (.aload 5, 2) := by decide +kernel
theorem dX8_alarmToRepeat_33 : decode cX8_alarmToRepeat 33 = .ok (.getfield 154, 3) := by decide +kernel
theorem dX8_alarmToRepeat_36 : decode cX8_alarmToRepeat 36 = .ok (.iload_n 2, 1) := by decide +kernel
theorem dX8_alarmToRepeat_37 : decode cX8_alarmToRepeat 37 = .ok (.if_icmp .ne 38, 3) := by decide +kernel
theorem dX8_alarmToRepeat_40 : decode cX8_alarmToRepeat 40 = .ok (.aload 5, 2) := by decide +kernel
theorem dX8_alarmToRepeat_42 : decode cX8_alarmToRepeat 42 = .ok (.getfield 157, 3) := by decide +kernel
theorem dX8_alarmToRepeat_45 : decode cX8_alarmToRepeat 45 = .ok (.iload_n 3, 1) := by decide +kernel
theorem dX8_alarmToRepeat_46 : decode cX8_alarmToRepeat 46 = .ok (.if_icmp .ne 29, 3) := by decide +kernel
theorem dX8_alarmToRepeat_49 : decode cX8_alarmToRepeat 49 = .ok (.aload 5, 2) := by decide +kernel
theorem dX8_alarmToRepeat_51 : decode cX8_alarmToRepeat 51 = .ok (.invokevirtual 225, 3) := by decide +kernel
theorem dX8_alarmToRepeat_54 : decode cX8_alarmToRepeat 54 = .ok (.ifCond .eq 21, 3) := by decide +kernel
theorem dX8_alarmToRepeat_57 : decode cX8_alarmToRepeat 57 = .ok (.aload_n 0, 1) := by decide +kernel
theorem dX8_alarmToRepeat_58 : decode cX8_alarmToRepeat 58 = .ok (.getfield 61, 3) := by decide +kernel
theorem dX8_alarmToRepeat_61 : decode cX8_alarmToRepeat 61 = .ok (.aload 5, 2) := by decide +kernel
theorem dX8_alarmToRepeat_63 : decode cX8_alarmToRepeat 63 = .ok (.getfield 276, 3) := by decide +kernel
theorem dX8_alarmToRepeat_66 : decode cX8_alarmToRepeat 66 = .ok (.isub, 1) := by decide +kernel
theorem dX8_alarmToRepeat_67 : decode cX8_alarmToRepeat 67 = .ok (.bipush 10, 2) := by decide +kernel
theorem dX8_alarmToRepeat_69 : decode cX8_alarmToRepeat 69 = .ok (.if_icmp .gt 6, 3) := by decide +kernel
theorem dX8_alarmToRepeat_72 : decode cX8_alarmToRepeat 72 = .ok (.aload 5, 2) := by decide +kernel
theorem dX8_alarmToRepeat_74 : decode cX8_alarmToRepeat 74 = .ok (.areturn, 1) := by decide +kernel
theorem dX8_alarmToRepeat_75 : decode cX8_alarmToRepeat 75 = .ok (.iinc 4 (-1), 3) := by decide +kernel
theorem dX8_alarmToRepeat_78 : decode cX8_alarmToRepeat 78 = .ok (.goto (-70), 3) := by decide +kernel
theorem dX8_alarmToRepeat_81 : decode cX8_alarmToRepeat 81 = .ok (.aconst_null, 1) := by decide +kernel
theorem dX8_alarmToRepeat_82 : decode cX8_alarmToRepeat 82 = .ok (.areturn, 1) := by decide +kernel
theorem dX8_isSilencedNow_0 : decode cX8_isSilencedNow 0 = .ok (.iconst 0, 1) := by decide +kernel
theorem dX8_isSilencedNow_1 : decode cX8_isSilencedNow 1 = .ok (.istore_n 2, 1) := by decide +kernel
theorem dX8_isSilencedNow_2 : decode cX8_isSilencedNow 2 = .ok (.iload_n 2, 1) := by decide +kernel
theorem dX8_isSilencedNow_3 : decode cX8_isSilencedNow 3 = .ok (.aload_n 0, 1) := by decide +kernel
theorem dX8_isSilencedNow_4 : decode cX8_isSilencedNow 4 = .ok (.getfield 116, 3) := by decide +kernel
theorem dX8_isSilencedNow_7 : decode cX8_isSilencedNow 7 = .ok (.if_icmp .ge 28, 3) := by decide +kernel
theorem dX8_isSilencedNow_10 : decode cX8_isSilencedNow 10 = .ok (.aload_n 0, 1) := by decide +kernel
theorem dX8_isSilencedNow_11 : decode cX8_isSilencedNow 11 = .ok (.getfield 20, 3) := by decide +kernel
theorem dX8_isSilencedNow_14 : decode cX8_isSilencedNow 14 = .ok (.iload_n 2, 1) := by decide +kernel
theorem dX8_isSilencedNow_15 : decode cX8_isSilencedNow 15 = .ok (.aaload, 1) := by decide +kernel
theorem dX8_isSilencedNow_16 : decode cX8_isSilencedNow 16 = .ok (.iload_n 1, 1) := by decide +kernel
theorem dX8_isSilencedNow_17 : decode cX8_isSilencedNow 17 = .ok (.aload_n 0, 1) := by decide +kernel
theorem dX8_isSilencedNow_18 : decode cX8_isSilencedNow 18 = .ok (.getfield 61, 3) := by decide +kernel
theorem dX8_isSilencedNow_21 : decode cX8_isSilencedNow 21 = .ok (.invokevirtual 279, 3) := by decide +kernel
theorem dX8_isSilencedNow_24 : decode cX8_isSilencedNow 24 = .ok (.ifCond .eq 5, 3) := by decide +kernel
theorem dX8_isSilencedNow_27 : decode cX8_isSilencedNow 27 = .ok (.iconst 1, 1) := by decide +kernel
theorem dX8_isSilencedNow_28 : decode cX8_isSilencedNow 28 = .ok (.ireturn, 1) := by decide +kernel
theorem dX8_isSilencedNow_29 : decode cX8_isSilencedNow 29 = .ok (.iinc 2 1, 3) := by decide +kernel
theorem dX8_isSilencedNow_32 : decode cX8_isSilencedNow 32 = .ok (.goto (-30), 3) := by decide +kernel
theorem dX8_isSilencedNow_35 : decode cX8_isSilencedNow 35 = .ok (.iconst 0, 1) := by decide +kernel
theorem dX8_isSilencedNow_36 : decode cX8_isSilencedNow 36 = .ok (.ireturn, 1) := by decide +kernel
theorem dX8_isCapFullNow_0 : decode cX8_isCapFullNow 0 = .ok (.iconst 0, 1) := by decide +kernel
theorem dX8_isCapFullNow_1 : decode cX8_isCapFullNow 1 = .ok (.istore_n 2, 1) := by decide +kernel
theorem dX8_isCapFullNow_2 : decode cX8_isCapFullNow 2 = .ok (.aload_n 0, 1) := by decide +kernel
theorem dX8_isCapFullNow_3 : decode cX8_isCapFullNow 3 = .ok (.getfield 79, 3) := by decide +kernel
theorem dX8_isCapFullNow_6 : decode cX8_isCapFullNow 6 = .ok (.iconst 1, 1) := by decide +kernel
theorem dX8_isCapFullNow_7 : decode cX8_isCapFullNow 7 = .ok (.isub, 1) := by decide +kernel
theorem dX8_isCapFullNow_8 : decode cX8_isCapFullNow 8 = .ok (.istore_n 3, 1) := by decide +kernel
theorem dX8_isCapFullNow_9 : decode cX8_isCapFullNow 9 = .ok (.iload_n 3, 1) := by decide +kernel
theorem dX8_isCapFullNow_10 : decode cX8_isCapFullNow 10 = .ok (.ifCond .lt 56, 3) := by decide +kernel
theorem dX8_isCapFullNow_13 : decode cX8_isCapFullNow 13 = .ok (.aload_n 0, 1) := by decide +kernel
theorem dX8_isCapFullNow_14 : decode cX8_isCapFullNow 14 = .ok (.getfield 61, 3) := by decide +kernel
theorem dX8_isCapFullNow_17 : decode cX8_isCapFullNow 17 = .ok (.aload_n 0, 1) := by decide +kernel
theorem dX8_isCapFullNow_18 : decode cX8_isCapFullNow 18 = .ok (.getfield 11, 3) := by decide +kernel
theorem dX8_isCapFullNow_21 : decode cX8_isCapFullNow 21 = .ok (.iload_n 3, 1) := by decide +kernel
theorem dX8_isCapFullNow_22 : decode cX8_isCapFullNow 22 = .ok (.aaload, 1) := by decide +kernel
theorem dX8_isCapFullNow_23 : decode cX8_isCapFullNow 23 = .ok (.getfield 148, 3) := by decide +kernel
theorem dX8_isCapFullNow_26 : decode cX8_isCapFullNow 26 = .ok (.isub, 1) := by decide +kernel
theorem dX8_isCapFullNow_27 : decode cX8_isCapFullNow 27 = .ok (.bipush 9, 2) := by decide +kernel
theorem dX8_isCapFullNow_29 : decode cX8_isCapFullNow 29 = .ok (.if_icmp .gt 37, 3) := by decide +kernel
theorem dX8_isCapFullNow_32 : decode cX8_isCapFullNow 32 = .ok (.aload_n 0, 1) := by decide +kernel
theorem dX8_isCapFullNow_33 : decode cX8_isCapFullNow 33 = .ok (.getfield 11, 3) := by decide +kernel
theorem dX8_isCapFullNow_36 : decode cX8_isCapFullNow 36 = .ok (.iload_n 3, 1) := by decide +kernel
theorem dX8_isCapFullNow_37 : decode cX8_isCapFullNow 37 = .ok (.aaload, 1) := by decide +kernel
theorem dX8_isCapFullNow_38 : decode cX8_isCapFullNow 38 = .ok (.getfield 151, 3) := by decide +kernel
theorem dX8_isCapFullNow_41 : decode cX8_isCapFullNow 41 = .ok (.iload_n 1, 1) := by decide +kernel
theorem dX8_isCapFullNow_42 : decode cX8_isCapFullNow 42 = .ok (.if_icmp .ne 18, 3) := by decide +kernel
theorem dX8_isCapFullNow_45 : decode cX8_isCapFullNow 45 = .ok (.aload_n 0, 1) := by decide +kernel
theorem dX8_isCapFullNow_46 : decode cX8_isCapFullNow 46 = .ok (.getfield 11, 3) := by decide +kernel
theorem dX8_isCapFullNow_49 : decode cX8_isCapFullNow 49 = .ok (.iload_n 3, 1) := by decide +kernel
theorem dX8_isCapFullNow_50 : decode cX8_isCapFullNow 50 = .ok (.aaload, 1) := by decide +kernel
theorem dX8_isCapFullNow_51 : decode cX8_isCapFullNow 51 = .ok (.invokevirtual 273, 3) := by decide +kernel
theorem dX8_isCapFullNow_54 : decode cX8_isCapFullNow 54 = .ok (.ifCond .ne 6, 3) := by decide +kernel
theorem dX8_isCapFullNow_57 : decode cX8_isCapFullNow 57 = .ok (.iinc 2 1, 3) := by decide +kernel
theorem dX8_isCapFullNow_60 : decode cX8_isCapFullNow 60 = .ok (.iinc 3 (-1), 3) := by decide +kernel
theorem dX8_isCapFullNow_63 : decode cX8_isCapFullNow 63 = .ok (.goto (-54), 3) := by decide +kernel
theorem dX8_isCapFullNow_66 : decode cX8_isCapFullNow 66 = .ok (.iload_n 2, 1) := by decide +kernel
theorem dX8_isCapFullNow_67 : decode cX8_isCapFullNow 67 = .ok (.aload_n 0, 1) := by decide +kernel
theorem dX8_isCapFullNow_68 : decode cX8_isCapFullNow 68 = .ok (.getfield 54, 3) := by decide +kernel
theorem dX8_isCapFullNow_71 : decode cX8_isCapFullNow 71 = .ok (.if_icmp .lt 7, 3) := by decide +kernel
theorem dX8_isCapFullNow_74 : decode cX8_isCapFullNow 74 = .ok (.iconst 1, 1) := by decide +kernel
theorem dX8_isCapFullNow_75 : decode cX8_isCapFullNow 75 = .ok (.goto 4, 3) := by decide +kernel
theorem dX8_isCapFullNow_78 : decode cX8_isCapFullNow 78 = .ok (.iconst 0, 1) := by decide +kernel
theorem dX8_isCapFullNow_79 : decode cX8_isCapFullNow 79 = .ok (.ireturn, 1) := by decide +kernel
theorem dX8_casesNow_0 : decode cX8_casesNow 0 = .ok (.aload_n 0, 1) := by decide +kernel
theorem dX8_casesNow_1 : decode cX8_casesNow 1 = .ok (.getfield 113, 3) := by decide +kernel
theorem dX8_casesNow_4 : decode cX8_casesNow 4 = .ok (.ifCond .eq 31, 3) := by decide +kernel
theorem dX8_casesNow_7 : decode cX8_casesNow 7 = .ok (.aload_n 0, 1) := by decide +kernel
theorem dX8_casesNow_8 : decode cX8_casesNow 8 = .ok (.getfield 43, 3) := by decide +kernel
theorem dX8_casesNow_11 : decode cX8_casesNow 11 = .ok (.aload_n 0, 1) := by decide +kernel
theorem dX8_casesNow_12 : decode cX8_casesNow 12 = .ok (.getfield 11, 3) := by decide +kernel
theorem dX8_casesNow_15 : decode cX8_casesNow 15 = .ok (.aload_n 0, 1) := by decide +kernel
theorem dX8_casesNow_16 : decode cX8_casesNow 16 = .ok (.getfield 79, 3) := by decide +kernel
theorem dX8_casesNow_19 : decode cX8_casesNow 19 = .ok (.aload_n 0, 1) := by decide +kernel
theorem dX8_casesNow_20 : decode cX8_casesNow 20 = .ok (.getfield 36, 3) := by decide +kernel
theorem dX8_casesNow_23 : decode cX8_casesNow 23 = .ok (.aload_n 0, 1) := by decide +kernel
theorem dX8_casesNow_24 : decode cX8_casesNow 24 = .ok (.getfield 58, 3) := by decide +kernel
theorem dX8_casesNow_27 : decode cX8_casesNow 27 = .ok (.invokevirtual 282, 3) := by decide +kernel
theorem dX8_casesNow_30 : decode cX8_casesNow 30 = .ok (.aload_n 0, 1) := by decide +kernel
theorem dX8_casesNow_31 : decode cX8_casesNow 31 = .ok (.iconst 0, 1) := by decide +kernel
theorem dX8_casesNow_32 : decode cX8_casesNow 32 = .ok (.putfield 113, 3) := by decide +kernel
theorem dX8_casesNow_35 : decode cX8_casesNow 35 = .ok (.aload_n 0, 1) := by decide +kernel
theorem dX8_casesNow_36 : decode cX8_casesNow 36 = .ok (.getfield 43, 3) := by decide +kernel
theorem dX8_casesNow_39 : decode cX8_casesNow 39 = .ok (.areturn, 1) := by decide +kernel
theorem dX8_caseNumberOf_0 : decode cX8_caseNumberOf 0 = .ok (.aload_n 0, 1) := by decide +kernel
theorem dX8_caseNumberOf_1 : decode cX8_caseNumberOf 1 = .ok (.invokevirtual 214, 3) := by decide +kernel
theorem dX8_caseNumberOf_4 : decode cX8_caseNumberOf 4 = .ok (.pop, 1) := by decide +kernel
theorem dX8_caseNumberOf_5 : decode cX8_caseNumberOf 5 = .ok (.aload_n 1, 1) := by decide +kernel
theorem dX8_caseNumberOf_6 : decode cX8_caseNumberOf 6 = .ok (.invokevirtual 225, 3) := by decide +kernel
theorem dX8_caseNumberOf_9 : decode cX8_caseNumberOf 9 = .ok (.ifCond .eq 13, 3) := by decide +kernel
theorem dX8_caseNumberOf_12 : decode cX8_caseNumberOf 12 = .ok (.aload_n 1, 1) := by decide +kernel
theorem dX8_caseNumberOf_13 : decode cX8_caseNumberOf 13 = .ok (.invokevirtual 286, 3) := by decide +kernel
theorem dX8_caseNumberOf_16 : decode cX8_caseNumberOf 16 = .ok (.getfield 76, 3) := by decide +kernel
theorem dX8_caseNumberOf_19 : decode cX8_caseNumberOf 19 = .ok (.goto 4, 3) := by decide +kernel
theorem dX8_caseNumberOf_22 : decode cX8_caseNumberOf 22 = .ok (.iconst (-1), 1) := by decide +kernel
theorem dX8_caseNumberOf_23 : decode cX8_caseNumberOf 23 = .ok (.ireturn, 1) := by decide +kernel
theorem dX8_memberOf_0 : decode cX8_memberOf 0 = .ok (.iload_n 2, 1) := by decide +kernel
theorem dX8_memberOf_1 : decode cX8_memberOf 1 = .ok (.istore_n 3, 1) := by decide +kernel
theorem dX8_memberOf_2 : decode cX8_memberOf 2 = .ok (.aload_n 1, 1) := by decide +kernel
theorem dX8_memberOf_3 : decode cX8_memberOf 3 = .ok (.getfield 76, 3) := by decide +kernel
theorem dX8_memberOf_6 : decode cX8_memberOf 6 = .ok (.istore 4, 2) := by decide +kernel
theorem dX8_memberOf_8 : decode cX8_memberOf 8 = .ok (.iload 4, 2) := by decide +kernel
theorem dX8_memberOf_10 : decode cX8_memberOf 10 = .ok (.aload_n 0, 1) := by decide +kernel
theorem dX8_memberOf_11 : decode cX8_memberOf 11 = .ok (.getfield 79, 3) := by decide +kernel
theorem dX8_memberOf_14 : decode cX8_memberOf 14 = .ok (.if_icmp .ge 48, 3) := by decide +kernel
theorem dX8_memberOf_17 : decode cX8_memberOf 17 = .ok (.aload_n 0, 1) := by decide +kernel
theorem dX8_memberOf_18 : decode cX8_memberOf 18 = .ok (.getfield 11, 3) := by decide +kernel
theorem dX8_memberOf_21 : decode cX8_memberOf 21 = .ok (.iload 4, 2) := by decide +kernel
theorem dX8_memberOf_23 : decode cX8_memberOf 23 = .ok (.aaload, 1) := by decide +kernel
theorem dX8_memberOf_24 : decode cX8_memberOf 24 = .ok (.astore 5, 2) := by decide +kernel
theorem dX8_memberOf_26 : decode cX8_memberOf 26 = .ok (.aload 5, 2) := by decide +kernel
theorem dX8_memberOf_28 : decode cX8_memberOf 28 = .ok (.invokevirtual 225, 3) := by decide +kernel
theorem dX8_memberOf_31 : decode cX8_memberOf 31 = .ok (.ifCond .eq 25, 3) := by decide +kernel
theorem dX8_memberOf_34 : decode cX8_memberOf 34 = .ok (.aload 5, 2) := by decide +kernel
theorem dX8_memberOf_36 : decode cX8_memberOf 36 = .ok (.invokevirtual 286, 3) := by decide +kernel
theorem dX8_memberOf_39 : decode cX8_memberOf 39 = .ok (.aload_n 1, 1) := by decide +kernel
theorem dX8_memberOf_40 : decode cX8_memberOf 40 = .ok (.if_acmp .ne 16, 3) := by decide +kernel
theorem dX8_memberOf_43 : decode cX8_memberOf 43 = .ok (.iload_n 3, 1) := by decide +kernel
theorem dX8_memberOf_44 : decode cX8_memberOf 44 = .ok (.ifCond .ne 9, 3) := by decide +kernel
theorem dX8_memberOf_47 : decode cX8_memberOf 47 = .ok (.aload 5, 2) := by decide +kernel
theorem dX8_memberOf_49 : decode cX8_memberOf 49 = .ok (.getfield 76, 3) := by decide +kernel
theorem dX8_memberOf_52 : decode cX8_memberOf 52 = .ok (.ireturn, 1) := by decide +kernel
theorem dX8_memberOf_53 : decode cX8_memberOf 53 = .ok (.iinc 3 (-1), 3) := by decide +kernel
theorem dX8_memberOf_56 : decode cX8_memberOf 56 = .ok (.iinc 4 1, 3) := by decide +kernel
theorem dX8_memberOf_59 : decode cX8_memberOf 59 = .ok (.goto (-51), 3) := by decide +kernel
theorem dX8_memberOf_62 : decode cX8_memberOf 62 = .ok (.iconst (-1), 1) := by decide +kernel
theorem dX8_memberOf_63 : decode cX8_memberOf 63 = .ok (.ireturn, 1) := by decide +kernel
theorem dX9_init_0 : decode cX9_init 0 = .ok (.aload_n 0, 1) := by decide +kernel
theorem dX9_init_1 : decode cX9_init 1 = .ok (.invokespecial 1, 3) := by decide +kernel
theorem dX9_init_4 : decode cX9_init 4 = .ok (.aload_n 0, 1) := by decide +kernel
theorem dX9_init_5 : decode cX9_init 5 = .ok (.bipush 50, 2) := by decide +kernel
theorem dX9_init_7 : decode cX9_init 7 = .ok (.putfield 7, 3) := by decide +kernel
theorem dX9_init_10 : decode cX9_init 10 = .ok (.aload_n 0, 1) := by decide +kernel
theorem dX9_init_11 : decode cX9_init 11 = .ok (.iconst 3, 1) := by decide +kernel
theorem dX9_init_12 : decode cX9_init 12 = .ok (.putfield 13, 3) := by decide +kernel
theorem dX9_init_15 : decode cX9_init 15 = .ok (.aload_n 0, 1) := by decide +kernel
theorem dX9_init_16 : decode cX9_init 16 = .ok (.sipush 200, 3) := by decide +kernel
theorem dX9_init_19 : decode cX9_init 19 = .ok (.newarray .int, 2) := by decide +kernel
theorem dX9_init_21 : decode cX9_init 21 = .ok (.putfield 16, 3) := by decide +kernel
theorem dX9_init_24 : decode cX9_init 24 = .ok (.aload_n 0, 1) := by decide +kernel
theorem dX9_init_25 : decode cX9_init 25 = .ok (.sipush 200, 3) := by decide +kernel
theorem dX9_init_28 : decode cX9_init 28 = .ok (.newarray .int, 2) := by decide +kernel
theorem dX9_init_30 : decode cX9_init 30 = .ok (.putfield 20, 3) := by decide +kernel
theorem dX9_init_33 : decode cX9_init 33 = .ok (.aload_n 0, 1) := by decide +kernel
theorem dX9_init_34 : decode cX9_init 34 = .ok (.sipush 200, 3) := by decide +kernel
theorem dX9_init_37 : decode cX9_init 37 = .ok (.newarray .int, 2) := by decide +kernel
theorem dX9_init_39 : decode cX9_init 39 = .ok (.putfield 23, 3) := by decide +kernel
theorem dX9_init_42 : decode cX9_init 42 = .ok (.aload_n 0, 1) := by decide +kernel
theorem dX9_init_43 : decode cX9_init 43 = .ok (.sipush 200, 3) := by decide +kernel
theorem dX9_init_46 : decode cX9_init 46 = .ok (.newarray .int, 2) := by decide +kernel
theorem dX9_init_48 : decode cX9_init 48 = .ok (.putfield 26, 3) := by decide +kernel
theorem dX9_init_51 : decode cX9_init 51 = .ok (.aload_n 0, 1) := by decide +kernel
theorem dX9_init_52 : decode cX9_init 52 = .ok (.sipush 200, 3) := by decide +kernel
theorem dX9_init_55 : decode cX9_init 55 = .ok (.newarray .int, 2) := by decide +kernel
theorem dX9_init_57 : decode cX9_init 57 = .ok (.putfield 29, 3) := by decide +kernel
theorem dX9_init_60 : decode cX9_init 60 = .ok (.aload_n 0, 1) := by decide +kernel
theorem dX9_init_61 : decode cX9_init 61 = .ok (.sipush 200, 3) := by decide +kernel
theorem dX9_init_64 : decode cX9_init 64 = .ok (.newarray .int, 2) := by decide +kernel
theorem dX9_init_66 : decode cX9_init 66 = .ok (.putfield 32, 3) := by decide +kernel
theorem dX9_init_69 : decode cX9_init 69 = .ok (.aload_n 0, 1) := by decide +kernel
theorem dX9_init_70 : decode cX9_init 70 = .ok (.sipush 200, 3) := by decide +kernel
theorem dX9_init_73 : decode cX9_init 73 = .ok (.newarray .int, 2) := by decide +kernel
theorem dX9_init_75 : decode cX9_init 75 = .ok (.putfield 35, 3) := by decide +kernel
theorem dX9_init_78 : decode cX9_init 78 = .ok (.aload_n 0, 1) := by decide +kernel
theorem dX9_init_79 : decode cX9_init 79 = .ok (.sipush 200, 3) := by decide +kernel
theorem dX9_init_82 : decode cX9_init 82 = .ok (.newarray .int, 2) := by decide +kernel
theorem dX9_init_84 : decode cX9_init 84 = .ok (.putfield 38, 3) := by decide +kernel
theorem dX9_init_87 : decode cX9_init 87 = .ok (.aload_n 0, 1) := by decide +kernel
theorem dX9_init_88 : decode cX9_init 88 = .ok (.sipush 200, 3) := by decide +kernel
theorem dX9_init_91 : decode cX9_init 91 = .ok (.newarray .int, 2) := by decide +kernel
theorem dX9_init_93 : decode cX9_init 93 = .ok (.putfield 41, 3) := by decide +kernel
theorem dX9_init_96 : decode cX9_init 96 = .ok (.aload_n 0, 1) := by decide +kernel
theorem dX9_init_97 : decode cX9_init 97 = .ok (.sipush 200, 3) := by decide +kernel
theorem dX9_init_100 : decode cX9_init 100 = .ok (.newarray .int, 2) := by decide +kernel
theorem dX9_init_102 : decode cX9_init 102 = .ok (.putfield 44, 3) := by decide +kernel
theorem dX9_init_105 : decode cX9_init 105 = .ok (.aload_n 0, 1) := by decide +kernel
theorem dX9_init_106 : decode cX9_init 106 = .ok (.sipush 200, 3) := by decide +kernel
theorem dX9_init_109 : decode cX9_init 109 = .ok (.newarray .boolean, 2) := by decide +kernel
theorem dX9_init_111 : decode cX9_init 111 = .ok (.putfield 47, 3) := by decide +kernel
theorem dX9_init_114 : decode cX9_init 114 = .ok (.aload_n 0, 1) := by decide +kernel
theorem dX9_init_115 : decode cX9_init 115 = .ok (.sipush 200, 3) := by decide +kernel
theorem dX9_init_118 : decode cX9_init 118 = .ok (.newarray .boolean, 2) := by decide +kernel
theorem dX9_init_120 : decode cX9_init 120 = .ok (.putfield 51, 3) := by decide +kernel
theorem dX9_init_123 : decode cX9_init 123 = .ok (.aload_n 0, 1) := by decide +kernel
theorem dX9_init_124 : decode cX9_init 124 = .ok (.bipush 30, 2) := by decide +kernel
theorem dX9_init_126 : decode cX9_init 126 = .ok (.newarray .int, 2) := by decide +kernel
theorem dX9_init_128 : decode cX9_init 128 = .ok (.putfield 54, 3) := by decide +kernel
theorem dX9_init_131 : decode cX9_init 131 = .ok (.aload_n 0, 1) := by decide +kernel
theorem dX9_init_132 : decode cX9_init 132 = .ok (.bipush 30, 2) := by decide +kernel
theorem dX9_init_134 : decode cX9_init 134 = .ok (.newarray .int, 2) := by decide +kernel
theorem dX9_init_136 : decode cX9_init 136 = .ok (.putfield 57, 3) := by decide +kernel
theorem dX9_init_139 : decode cX9_init 139 = .ok (.aload_n 0, 1) := by decide +kernel
theorem dX9_init_140 : decode cX9_init 140 = .ok (.bipush 30, 2) := by decide +kernel
theorem dX9_init_142 : decode cX9_init 142 = .ok (.newarray .int, 2) := by decide +kernel
theorem dX9_init_144 : decode cX9_init 144 = .ok (.putfield 60, 3) := by decide +kernel
theorem dX9_init_147 : decode cX9_init 147 = .ok (.aload_n 0, 1) := by decide +kernel
theorem dX9_init_148 : decode cX9_init 148 = .ok (.bipush 60, 2) := by decide +kernel
theorem dX9_init_150 : decode cX9_init 150 = .ok (.newarray .int, 2) := by decide +kernel
theorem dX9_init_152 : decode cX9_init 152 = .ok (.putfield 63, 3) := by decide +kernel
theorem dX9_init_155 : decode cX9_init 155 = .ok (.aload_n 0, 1) := by decide +kernel
theorem dX9_init_156 : decode cX9_init 156 = .ok (.bipush 60, 2) := by decide +kernel
theorem dX9_init_158 : decode cX9_init 158 = .ok (.newarray .int, 2) := by decide +kernel
theorem dX9_init_160 : decode cX9_init 160 = .ok (.putfield 66, 3) := by decide +kernel
theorem dX9_init_163 : decode cX9_init 163 = .ok (.aload_n 0, 1) := by decide +kernel
theorem dX9_init_164 : decode cX9_init 164 = .ok (.bipush 60, 2) := by decide +kernel
theorem dX9_init_166 : decode cX9_init 166 = .ok (.newarray .boolean, 2) := by decide +kernel
theorem dX9_init_168 : decode cX9_init 168 = .ok (.putfield 69, 3) := by decide +kernel
theorem dX9_init_171 : decode cX9_init 171 = .ok (.aload_n 0, 1) := by decide +kernel
theorem dX9_init_172 : decode cX9_init 172 = .ok (.sipush 200, 3) := by decide +kernel
theorem dX9_init_175 : decode cX9_init 175 = .ok (.newarray .int, 2) := by decide +kernel
theorem dX9_init_177 : decode cX9_init 177 = .ok (.putfield 72, 3) := by decide +kernel
theorem dX9_init_180 : decode cX9_init 180 = .ok (.aload_n 0, 1) := by decide +kernel
theorem dX9_init_181 : decode cX9_init 181 = .ok (.sipush 200, 3) := by decide +kernel
theorem dX9_init_184 : decode cX9_init 184 = .ok (.newarray .int, 2) := by decide +kernel
theorem dX9_init_186 : decode cX9_init 186 = .ok (.putfield 75, 3) := by decide +kernel
theorem dX9_init_189 : decode cX9_init 189 = .ok (.aload_n 0, 1) := by decide +kernel
theorem dX9_init_190 : decode cX9_init 190 = .ok (.sipush 200, 3) := by decide +kernel
theorem dX9_init_193 : decode cX9_init 193 = .ok (.newarray .int, 2) := by decide +kernel
theorem dX9_init_195 : decode cX9_init 195 = .ok (.putfield 78, 3) := by decide +kernel
theorem dX9_init_198 : decode cX9_init 198 = .ok (.aload_n 0, 1) := by decide +kernel
theorem dX9_init_199 : decode cX9_init 199 = .ok (.bipush 20, 2) := by decide +kernel
theorem dX9_init_201 : decode cX9_init 201 = .ok (.newarray .int, 2) := by decide +kernel
theorem dX9_init_203 : decode cX9_init 203 = .ok (.putfield 81, 3) := by decide +kernel
theorem dX9_init_206 : decode cX9_init 206 = .ok (.aload_n 0, 1) := by decide +kernel
theorem dX9_init_207 : decode cX9_init 207 = .ok (.bipush 12, 2) := by decide +kernel
theorem dX9_init_209 : decode cX9_init 209 = .ok (.newarray .int, 2) := by decide +kernel
theorem dX9_init_211 : decode cX9_init 211 = .ok (.putfield 84, 3) := by decide +kernel
theorem dX9_init_214 : decode cX9_init 214 = .ok (.aload_n 0, 1) := by decide +kernel
theorem dX9_init_215 : decode cX9_init 215 = .ok (.bipush 12, 2) := by decide +kernel
theorem dX9_init_217 : decode cX9_init 217 = .ok (.newarray .int, 2) := by decide +kernel
theorem dX9_init_219 : decode cX9_init 219 = .ok (.putfield 87, 3) := by decide +kernel
theorem dX9_init_222 : decode cX9_init 222 = .ok (.aload_n 0, 1) := by decide +kernel
theorem dX9_init_223 : decode cX9_init 223 = .ok (.bipush 12, 2) := by decide +kernel
theorem dX9_init_225 : decode cX9_init 225 = .ok (.newarray .int, 2) := by decide +kernel
theorem dX9_init_227 : decode cX9_init 227 = .ok (.putfield 90, 3) := by decide +kernel
theorem dX9_init_230 : decode cX9_init 230 = .ok (.return_, 1) := by decide +kernel
theorem dX9_isIn_0 : decode cX9_isIn 0 = .ok (.iload_n 0, 1) := by decide +kernel
theorem dX9_isIn_1 : decode cX9_isIn 1 = .ok (.iload_n 1, 1) := by decide +kernel
theorem dX9_isIn_2 : decode cX9_isIn 2 = .ok (.if_icmp .lt 12, 3) := by decide +kernel
theorem dX9_isIn_5 : decode cX9_isIn 5 = .ok (.iload_n 0, 1) := by decide +kernel
theorem dX9_isIn_6 : decode cX9_isIn 6 = .ok (.iload_n 2, 1) := by decide +kernel
theorem dX9_isIn_7 : decode cX9_isIn 7 = .ok (.if_icmp .gt 7, 3) := by decide +kernel
theorem dX9_isIn_10 : decode cX9_isIn 10 = .ok (.iconst 1, 1) := by decide +kernel
theorem dX9_isIn_11 : decode cX9_isIn 11 = .ok (.goto 4, 3) := by decide +kernel
theorem dX9_isIn_14 : decode cX9_isIn 14 = .ok (.iconst 0, 1) := by decide +kernel
theorem dX9_isIn_15 : decode cX9_isIn 15 = .ok (.ireturn, 1) := by decide +kernel
theorem dX9_one_0 : decode cX9_one 0 = .ok (.iload_n 0, 1) := by decide +kernel
theorem dX9_one_1 : decode cX9_one 1 = .ok (.ifCond .eq 7, 3) := by decide +kernel
theorem dX9_one_4 : decode cX9_one 4 = .ok (.iconst 1, 1) := by decide +kernel
theorem dX9_one_5 : decode cX9_one 5 = .ok (.goto 4, 3) := by decide +kernel
theorem dX9_one_8 : decode cX9_one 8 = .ok (.iconst 0, 1) := by decide +kernel
theorem dX9_one_9 : decode cX9_one 9 = .ok (.ireturn, 1) := by decide +kernel
theorem dX9_isAlarm_0 : decode cX9_isAlarm 0 = .ok (.iload_n 1, 1) := by decide +kernel
theorem dX9_isAlarm_1 : decode cX9_isAlarm 1 = .ok (.iconst 0, 1) := by decide +kernel
theorem dX9_isAlarm_2 : decode cX9_isAlarm 2 = .ok (.aload_n 0, 1) := by decide +kernel
theorem dX9_isAlarm_3 : decode cX9_isAlarm 3 = .ok (.getfield 93, 3) := by decide +kernel
theorem dX9_isAlarm_6 : decode cX9_isAlarm 6 = .ok (.iconst 1, 1) := by decide +kernel
theorem dX9_isAlarm_7 : decode cX9_isAlarm 7 = .ok (.isub, 1) := by decide +kernel
theorem dX9_isAlarm_8 : decode cX9_isAlarm 8 = .ok (.invokestatic 96, 3) := by decide +kernel
theorem dX9_isAlarm_11 : decode cX9_isAlarm 11 = .ok (.ireturn, 1) := by decide +kernel
theorem dX9_pass_0 : decode cX9_pass 0 = .ok (.iload_n 1, 1) := by decide +kernel
theorem dX9_pass_1 : decode cX9_pass 1 = .ok (.iconst 1, 1) := by decide +kernel
theorem dX9_pass_2 : decode cX9_pass 2 = .ok (.sipush 1000, 3) := by decide +kernel
theorem dX9_pass_5 : decode cX9_pass 5 = .ok (.invokestatic 96, 3) := by decide +kernel
theorem dX9_pass_8 : decode cX9_pass 8 = .ok (.ifCond .eq 15, 3) := by decide +kernel
theorem dX9_pass_11 : decode cX9_pass 11 = .ok (.aload_n 0, 1) := by decide +kernel
theorem dX9_pass_12 : decode cX9_pass 12 = .ok (.getfield 100, 3) := by decide +kernel
theorem dX9_pass_15 : decode cX9_pass 15 = .ok (.iload_n 1, 1) := by decide +kernel
theorem dX9_pass_16 : decode cX9_pass 16 = .ok (.iadd, 1) := by decide +kernel
theorem dX9_pass_17 : decode cX9_pass 17 = .ok (.sipush 10000, 3) := by decide +kernel
theorem dX9_pass_20 : decode cX9_pass 20 = .ok (.if_icmp .le 5, 3) := by decide +kernel
theorem dX9_pass_23 : decode cX9_pass 23 = .ok (.iconst (-1), 1) := by decide +kernel
theorem dX9_pass_24 : decode cX9_pass 24 = .ok (.ireturn, 1) := by decide +kernel
theorem dX9_pass_25 : decode cX9_pass 25 = .ok (.aload_n 0, 1) := by decide +kernel
theorem dX9_pass_26 : decode cX9_pass 26 = .ok (.dup, 1) := by decide +kernel
theorem dX9_pass_27 : decode cX9_pass 27 = .ok (.getfield 100, 3) := by decide +kernel
theorem dX9_pass_30 : decode cX9_pass 30 = .ok (.iload_n 1, 1) := by decide +kernel
theorem dX9_pass_31 : decode cX9_pass 31 = .ok (.iadd, 1) := by decide +kernel
theorem dX9_pass_32 : decode cX9_pass 32 = .ok (.putfield 100, 3) := by decide +kernel
theorem dX9_pass_35 : decode cX9_pass 35 = .ok (.aload_n 0, 1) := by decide +kernel
theorem dX9_pass_36 : decode cX9_pass 36 = .ok (.getfield 100, 3) := by decide +kernel
theorem dX9_pass_39 : decode cX9_pass 39 = .ok (.ireturn, 1) := by decide +kernel
theorem dX9_isLive_0 : decode cX9_isLive 0 = .ok (.aload_n 0, 1) := by decide +kernel
theorem dX9_isLive_1 : decode cX9_isLive 1 = .ok (.getfield 38, 3) := by decide +kernel
theorem dX9_isLive_4 : decode cX9_isLive 4 = .ok (.iload_n 1, 1) := by decide +kernel
theorem dX9_isLive_5 : decode cX9_isLive 5 = .ok (.iaload, 1) := by decide +kernel
theorem dX9_isLive_6 : decode cX9_isLive 6 = .ok (.ifCond .ne 25, 3) := by decide +kernel
theorem dX9_isLive_9 : decode cX9_isLive 9 = .ok (.aload_n 0, 1) := by decide +kernel
theorem dX9_isLive_10 : decode cX9_isLive 10 = .ok (.getfield 47, 3) := by decide +kernel
theorem dX9_isLive_13 : decode cX9_isLive 13 = .ok (.iload_n 1, 1) := by decide +kernel
theorem dX9_isLive_14 : decode cX9_isLive 14 = .ok (.baload, 1) := by decide +kernel
theorem dX9_isLive_15 : decode cX9_isLive 15 = .ok (.ifCond .ne 16, 3) := by decide +kernel
theorem dX9_isLive_18 : decode cX9_isLive 18 = .ok (.aload_n 0, 1) := by decide +kernel
theorem dX9_isLive_19 : decode cX9_isLive 19 = .ok (.getfield 51, 3) := by decide +kernel
theorem dX9_isLive_22 : decode cX9_isLive 22 = .ok (.iload_n 1, 1) := by decide +kernel
theorem dX9_isLive_23 : decode cX9_isLive 23 = .ok (.baload, 1) := by decide +kernel
theorem dX9_isLive_24 : decode cX9_isLive 24 = .ok (.ifCond .ne 7, 3) := by decide +kernel
theorem dX9_isLive_27 : decode cX9_isLive 27 = .ok (.iconst 1, 1) := by decide +kernel
theorem dX9_isLive_28 : decode cX9_isLive 28 = .ok (.goto 4, 3) := by decide +kernel
theorem dX9_isLive_31 : decode cX9_isLive 31 = .ok (.iconst 0, 1) := by decide +kernel
theorem dX9_isLive_32 : decode cX9_isLive 32 = .ok (.ireturn, 1) := by decide +kernel
theorem dX9_alarm_0 : decode cX9_alarm 0 = .ok (.iload_n 1, 1) := by decide +kernel
theorem dX9_alarm_1 : decode cX9_alarm 1 = .ok (.iconst 0, 1) := by decide +kernel
theorem dX9_alarm_2 : decode cX9_alarm 2 = .ok (.bipush 9, 2) := by decide +kernel
theorem dX9_alarm_4 : decode cX9_alarm 4 = .ok (.invokestatic 96, 3) := by decide +kernel
theorem dX9_alarm_7 : decode cX9_alarm 7 = .ok (.ifCond .eq 35, 3) := by decide +kernel
theorem dX9_alarm_10 : decode cX9_alarm 10 = .ok (.iload_n 2, 1) := by decide +kernel
theorem dX9_alarm_11 : decode cX9_alarm 11 = .ok (.iconst 0, 1) := by decide +kernel
theorem dX9_alarm_12 : decode cX9_alarm 12 = .ok (.bipush 39, 2) := by decide +kernel
theorem dX9_alarm_14 : decode cX9_alarm 14 = .ok (.invokestatic 96, 3) := by decide +kernel
theorem dX9_alarm_17 : decode cX9_alarm 17 = .ok (.ifCond .eq 25, 3) := by decide +kernel
theorem dX9_alarm_20 : decode cX9_alarm 20 = .ok (.iload_n 3, 1) := by decide +kernel
theorem dX9_alarm_21 : decode cX9_alarm 21 = .ok (.iconst 0, 1) := by decide +kernel
theorem dX9_alarm_22 : decode cX9_alarm 22 = .ok (.sipush 4095, 3) := by decide +kernel
theorem dX9_alarm_25 : decode cX9_alarm 25 = .ok (.invokestatic 96, 3) := by decide +kernel
theorem dX9_alarm_28 : decode cX9_alarm 28 = .ok (.ifCond .eq 14, 3) := by decide +kernel
theorem dX9_alarm_31 : decode cX9_alarm 31 = .ok (.iload 4, 2) := by decide +kernel
theorem dX9_alarm_33 : decode cX9_alarm 33 = .ok (.iconst 1, 1) := by decide +kernel
theorem dX9_alarm_34 : decode cX9_alarm 34 = .ok (.bipush 100, 2) := by decide +kernel
theorem dX9_alarm_36 : decode cX9_alarm 36 = .ok (.invokestatic 96, 3) := by decide +kernel
theorem dX9_alarm_39 : decode cX9_alarm 39 = .ok (.ifCond .ne 6, 3) := by decide +kernel
theorem dX9_alarm_42 : decode cX9_alarm 42 = .ok (.bipush (-2), 2) := by decide +kernel
theorem dX9_alarm_44 : decode cX9_alarm 44 = .ok (.ireturn, 1) := by decide +kernel
theorem dX9_alarm_45 : decode cX9_alarm 45 = .ok (.aload_n 0, 1) := by decide +kernel
theorem dX9_alarm_46 : decode cX9_alarm 46 = .ok (.getfield 93, 3) := by decide +kernel
theorem dX9_alarm_49 : decode cX9_alarm 49 = .ok (.iconst 1, 1) := by decide +kernel
theorem dX9_alarm_50 : decode cX9_alarm 50 = .ok (.isub, 1) := by decide +kernel
theorem dX9_alarm_51 : decode cX9_alarm 51 = .ok (.istore 5, 2) := by decide +kernel
theorem dX9_alarm_53 : decode cX9_alarm 53 = .ok (.iload 5, 2) := by decide +kernel
theorem dX9_alarm_55 : decode cX9_alarm 55 = .ok (.ifCond .lt 96, 3) := by decide +kernel
theorem dX9_alarm_58 : decode cX9_alarm 58 = .ok (.aload_n 0, 1) := by decide +kernel
theorem dX9_alarm_59 : decode cX9_alarm 59 = .ok (.iload 5, 2) := by decide +kernel
theorem dX9_alarm_61 : decode cX9_alarm 61 = .ok (.invokevirtual 103, 3) := by decide +kernel
theorem dX9_alarm_64 : decode cX9_alarm 64 = .ok (.ifCond .eq 81, 3) := by decide +kernel
theorem dX9_alarm_67 : decode cX9_alarm 67 = .ok (.aload_n 0, 1) := by decide +kernel
theorem dX9_alarm_68 : decode cX9_alarm 68 = .ok (.getfield 23, 3) := by decide +kernel
theorem dX9_alarm_71 : decode cX9_alarm 71 = .ok (.iload 5, 2) := by decide +kernel
theorem dX9_alarm_73 : decode cX9_alarm 73 = .ok (.iaload, 1) := by decide +kernel
theorem dX9_alarm_74 : decode cX9_alarm 74 = .ok (.iload_n 1, 1) := by decide +kernel
theorem dX9_alarm_75 : decode cX9_alarm 75 = .ok (.if_icmp .ne 70, 3) := by decide +kernel
theorem dX9_alarm_78 : decode cX9_alarm 78 = .ok (.aload_n 0, 1) := by decide +kernel
theorem dX9_alarm_79 : decode cX9_alarm 79 = .ok (.getfield 26, 3) := by decide +kernel
theorem dX9_alarm_82 : decode cX9_alarm 82 = .ok (.iload 5, 2) := by decide +kernel
theorem dX9_alarm_84 : decode cX9_alarm 84 = .ok (.iaload, 1) := by decide +kernel
theorem dX9_alarm_85 : decode cX9_alarm 85 = .ok (.iload_n 2, 1) := by decide +kernel
theorem dX9_alarm_86 : decode cX9_alarm 86 = .ok (.if_icmp .ne 59, 3) := by decide +kernel
theorem dX9_alarm_89 : decode cX9_alarm 89 = .ok (.aload_n 0, 1) := by decide +kernel
theorem dX9_alarm_90 : decode cX9_alarm 90 = .ok (.getfield 29, 3) := by decide +kernel
theorem dX9_alarm_93 : decode cX9_alarm 93 = .ok (.iload 5, 2) := by decide +kernel
theorem dX9_alarm_95 : decode cX9_alarm 95 = .ok (.iaload, 1) := by decide +kernel
theorem dX9_alarm_96 : decode cX9_alarm 96 = .ok (.iload_n 3, 1) := by decide +kernel
theorem dX9_alarm_97 : decode cX9_alarm 97 = .ok (.if_icmp .ne 48, 3) := by decide +kernel
theorem dX9_alarm_100 : decode cX9_alarm 100 = .ok (.aload_n 0, 1) := by decide +kernel
theorem dX9_alarm_101 : decode cX9_alarm 101 = .ok (.getfield 100, 3) := by decide +kernel
theorem dX9_alarm_104 : decode cX9_alarm 104 = .ok (.aload_n 0, 1) := by decide +kernel
theorem dX9_alarm_105 : decode cX9_alarm 105 = .ok (.getfield 20, 3) := by decide +kernel
theorem dX9_alarm_108 : decode cX9_alarm 108 = .ok (.iload 5, 2) := by decide +kernel
theorem dX9_alarm_110 : decode cX9_alarm 110 = .ok (.iaload, 1) := by decide +kernel
theorem dX9_alarm_111 : decode cX9_alarm 111 = .ok (.isub, 1) := by decide +kernel
theorem dX9_alarm_112 : decode cX9_alarm 112 = .ok (.bipush 10, 2) := by decide +kernel
theorem dX9_alarm_114 : decode cX9_alarm 114 = .ok (.if_icmp .le 6, 3) := by decide +kernel
theorem dX9_alarm_117 : decode cX9_alarm 117 = .ok (.goto 28, 3) := by decide +kernel
theorem dX9_alarm_120 : decode cX9_alarm 120 = .ok (.aload_n 0, 1) := by decide +kernel
theorem dX9_alarm_121 : decode cX9_alarm 121 = .ok (.getfield 35, 3) := by decide +kernel
theorem dX9_alarm_124 : decode cX9_alarm 124 = .ok (.iload 5, 2) := by decide +kernel
theorem dX9_alarm_126 : decode cX9_alarm 126 = .ok (.dup2, 1) := by decide +kernel
theorem dX9_alarm_127 : decode cX9_alarm 127 = .ok (.iaload, 1) := by decide +kernel
theorem dX9_alarm_128 : decode cX9_alarm 128 = .ok (.iconst 1, 1) := by decide +kernel
theorem dX9_alarm_129 : decode cX9_alarm 129 = .ok (.iadd, 1) := by decide +kernel
theorem dX9_alarm_130 : decode cX9_alarm 130 = .ok (.iastore, 1) := by decide +kernel
theorem dX9_alarm_131 : decode cX9_alarm 131 = .ok (.aload_n 0, 1) := by decide +kernel
theorem dX9_alarm_132 : decode cX9_alarm 132 = .ok (.getfield 20, 3) := by decide +kernel
