theorem dX7_find_0 : decode cX7_find 0 = .ok (.iload_n 1, 1) := by decide +kernel
theorem dX7_find_1 : decode cX7_find 1 = .ok (.iload_n 2, 1) := by decide +kernel
theorem dX7_find_2 : decode cX7_find 2 = .ok (.invokestatic 17, 3) := by decide +kernel
theorem dX7_find_5 : decode cX7_find 5 = .ok (.istore_n 3, 1) := by decide +kernel
theorem dX7_find_6 : decode cX7_find 6 = .ok (.iload_n 1, 1) := by decide +kernel
theorem dX7_find_7 : decode cX7_find 7 = .ok (.iload_n 2, 1) := by decide +kernel
theorem dX7_find_8 : decode cX7_find 8 = .ok (.invokestatic 23, 3) := by decide +kernel
theorem dX7_find_11 : decode cX7_find 11 = .ok (.istore 4, 2) := by decide +kernel
theorem dX7_find_13 : decode cX7_find 13 = .ok (.iconst 0, 1) := by decide +kernel
theorem dX7_find_14 : decode cX7_find 14 = .ok (.istore 5, 2) := by decide +kernel
theorem dX7_find_16 : decode cX7_find 16 = .ok (.iload 5, 2) := by decide +kernel
theorem dX7_find_18 : decode cX7_find 18 = .ok (.aload_n 0, 1) := by decide +kernel
theorem dX7_find_19 : decode cX7_find 19 = .ok (.getfield 26, 3) := by decide +kernel
theorem dX7_find_22 : decode cX7_find 22 = .ok (.if_icmp .ge 46, 3) := by decide +kernel
theorem dX7_find_25 : decode cX7_find 25 = .ok (.aload_n 0, 1) := by decide +kernel
theorem dX7_find_26 : decode cX7_find 26 = .ok (.getfield 11, 3) := by decide +kernel
theorem dX7_find_29 : decode cX7_find 29 = .ok (.iload 5, 2) := by decide +kernel
theorem dX7_find_31 : decode cX7_find 31 = .ok (.aaload, 1) := by decide +kernel
theorem dX7_find_32 : decode cX7_find 32 = .ok (.getfield 30, 3) := by decide +kernel
theorem dX7_find_35 : decode cX7_find 35 = .ok (.iload_n 3, 1) := by decide +kernel
theorem dX7_find_36 : decode cX7_find 36 = .ok (.if_icmp .ne 26, 3) := by decide +kernel
theorem dX7_find_39 : decode cX7_find 39 = .ok (.aload_n 0, 1) := by decide +kernel
theorem dX7_find_40 : decode cX7_find 40 = .ok (.getfield 11, 3) := by decide +kernel
theorem dX7_find_43 : decode cX7_find 43 = .ok (.iload 5, 2) := by decide +kernel
theorem dX7_find_45 : decode cX7_find 45 = .ok (.aaload, 1) := by decide +kernel
theorem dX7_find_46 : decode cX7_find 46 = .ok (.getfield 33, 3) := by decide +kernel
theorem dX7_find_49 : decode cX7_find 49 = .ok (.iload 4, 2) := by decide +kernel
theorem dX7_find_51 : decode cX7_find 51 = .ok (.if_icmp .ne 11, 3) := by decide +kernel
theorem dX7_find_54 : decode cX7_find 54 = .ok (.aload_n 0, 1) := by decide +kernel
theorem dX7_find_55 : decode cX7_find 55 = .ok (.getfield 11, 3) := by decide +kernel
theorem dX7_find_58 : decode cX7_find 58 = .ok (.iload 5, 2) := by decide +kernel
theorem dX7_find_60 : decode cX7_find 60 = .ok (.aaload, 1) := by decide +kernel
theorem dX7_find_61 : decode cX7_find 61 = .ok (.areturn, 1) := by decide +kernel
theorem dX7_find_62 : decode cX7_find 62 = .ok (.iinc 5 1, 3) := by decide +kernel
theorem dX7_find_65 : decode cX7_find 65 = .ok (.goto (-49), 3) := by decide +kernel
theorem dX7_find_68 : decode cX7_find 68 = .ok (.aconst_null, 1) := by decide +kernel
theorem dX7_find_69 : decode cX7_find 69 = .ok (.areturn, 1) := by decide +kernel
set_option maxRecDepth 20000 in
theorem ggX7_tell_X7_find : GoodIn wsX7_tell wsX7_find := goodIn_r _ [18, 7, 8, 9, 10, 11, 12, 13, 2, 3, 19, 20, 33, 34, 30, 31, 32] (by decide +kernel) (by decide +kernel)
set_option maxRecDepth 20000 in
theorem gX7_tell_X7_find : GoodIn wsX7_tell (wsV RX7 36 RX7 yX7_find wsX7_find) := goodIn_app (goodIn_of _ (by decide +kernel)) ggX7_tell_X7_find
set_option maxRecDepth 20000 in
theorem ggX7_tell_X4_init : GoodIn wsX7_tell wsX4_init := goodIn_r _ [23, 24, 25, 26, 27, 28, 29, 30, 31, 32] (by decide +kernel) (by decide +kernel)
set_option maxRecDepth 20000 in
theorem gX7_tell_X4_init : GoodIn wsX7_tell (wsX4_init) := ggX7_tell_X4_init
theorem dX7_tell_0 : decode cX7_tell 0 = .ok (.aload_n 0, 1) := by decide +kernel
theorem dX7_tell_1 : decode cX7_tell 1 = .ok (.iload_n 1, 1) := by decide +kernel
theorem dX7_tell_2 : decode cX7_tell 2 = .ok (.iload_n 2, 1) := by decide +kernel
theorem dX7_tell_3 : decode cX7_tell 3 = .ok (.invokevirtual 36, 3) := by decide +kernel
theorem dX7_tell_6 : decode cX7_tell 6 = .ok (.astore 4, 2) := by decide +kernel
theorem dX7_tell_8 : decode cX7_tell 8 = .ok (.aload 4, 2) := by decide +kernel
theorem dX7_tell_10 : decode cX7_tell 10 = .ok (.ifnull 28, 3) := by decide +kernel
theorem dX7_tell_13 : decode cX7_tell 13 = .ok (.aload 4, 2) := by decide +kernel
theorem dX7_tell_15 : decode cX7_tell 15 = .ok (.getfield 40, 3) := by decide +kernel
theorem dX7_tell_18 : decode cX7_tell 18 = .ok (.iload_n 3, 1) := by decide +kernel
theorem dX7_tell_19 : decode cX7_tell 19 = .ok (.if_icmp .eq 7, 3) := by decide +kernel
theorem dX7_tell_22 : decode cX7_tell 22 = .ok (.iconst 1, 1) := by decide +kernel
theorem dX7_tell_23 : decode cX7_tell 23 = .ok (.goto 4, 3) := by decide +kernel
theorem dX7_tell_26 : decode cX7_tell 26 = .ok (.iconst 0, 1) := by decide +kernel
theorem dX7_tell_27 : decode cX7_tell 27 = .ok (.istore 5, 2) := by decide +kernel
theorem dX7_tell_29 : decode cX7_tell 29 = .ok (.aload 4, 2) := by decide +kernel
theorem dX7_tell_31 : decode cX7_tell 31 = .ok (.iload_n 3, 1) := by decide +kernel
theorem dX7_tell_32 : decode cX7_tell 32 = .ok (.putfield 40, 3) := by decide +kernel
theorem dX7_tell_35 : decode cX7_tell 35 = .ok (.iload 5, 2) := by decide +kernel
theorem dX7_tell_37 : decode cX7_tell 37 = .ok (.ireturn, 1) := by decide +kernel
theorem dX7_tell_38 : decode cX7_tell 38 = .ok (.aload_n 0, 1) := by decide +kernel
theorem dX7_tell_39 : decode cX7_tell 39 = .ok (.getfield 26, 3) := by decide +kernel
theorem dX7_tell_42 : decode cX7_tell 42 = .ok (.bipush 60, 2) := by decide +kernel
theorem dX7_tell_44 : decode cX7_tell 44 = .ok (.if_icmp .lt 5, 3) := by decide +kernel
theorem dX7_tell_47 : decode cX7_tell 47 = .ok (.iconst 0, 1) := by decide +kernel
theorem dX7_tell_48 : decode cX7_tell 48 = .ok (.ireturn, 1) := by decide +kernel
theorem dX7_tell_49 : decode cX7_tell 49 = .ok (.aload_n 0, 1) := by decide +kernel
theorem dX7_tell_50 : decode cX7_tell 50 = .ok (.getfield 11, 3) := by decide +kernel
theorem dX7_tell_53 : decode cX7_tell 53 = .ok (.aload_n 0, 1) := by decide +kernel
theorem dX7_tell_54 : decode cX7_tell 54 = .ok (.getfield 26, 3) := by decide +kernel
theorem dX7_tell_57 : decode cX7_tell 57 = .ok (.new 9, 3) := by decide +kernel
theorem dX7_tell_60 : decode cX7_tell 60 = .ok (.dup, 1) := by decide +kernel
theorem dX7_tell_61 : decode cX7_tell 61 = .ok (.iload_n 1, 1) := by decide +kernel
theorem dX7_tell_62 : decode cX7_tell 62 = .ok (.iload_n 2, 1) := by decide +kernel
theorem dX7_tell_63 : decode cX7_tell 63 = .ok (.invokestatic 17, 3) := by decide +kernel
theorem dX7_tell_66 : decode cX7_tell 66 = .ok (.iload_n 1, 1) := by decide +kernel
theorem dX7_tell_67 : decode cX7_tell 67 = .ok (.iload_n 2, 1) := by decide +kernel
theorem dX7_tell_68 : decode cX7_tell 68 = .ok (.invokestatic 23, 3) := by decide +kernel
theorem dX7_tell_71 : decode cX7_tell 71 = .ok (.iload_n 3, 1) := by decide +kernel
theorem dX7_tell_72 : decode cX7_tell 72 = .ok (.invokespecial 44, 3) := by decide +kernel
theorem dX7_tell_75 : decode cX7_tell 75 = .ok (.aastore, 1) := by decide +kernel
theorem dX7_tell_76 : decode cX7_tell 76 = .ok (.aload_n 0, 1) := by decide +kernel
theorem dX7_tell_77 : decode cX7_tell 77 = .ok (.dup, 1) := by decide +kernel
theorem dX7_tell_78 : decode cX7_tell 78 = .ok (.getfield 26, 3) := by decide +kernel
theorem dX7_tell_81 : decode cX7_tell 81 = .ok (.iconst 1, 1) := by decide +kernel
theorem dX7_tell_82 : decode cX7_tell 82 = .ok (.iadd, 1) := by decide +kernel
theorem dX7_tell_83 : decode cX7_tell 83 = .ok (.putfield 26, 3) := by decide +kernel
theorem dX7_tell_86 : decode cX7_tell 86 = .ok (.iconst 1, 1) := by decide +kernel
theorem dX7_tell_87 : decode cX7_tell 87 = .ok (.ireturn, 1) := by decide +kernel
set_option maxRecDepth 20000 in
theorem ggX7_isParted_X7_find : GoodIn wsX7_isParted wsX7_find := goodIn_r _ [6, 7, 8, 9, 10, 11, 12, 13, 14, 15, 16, 17, 21, 22, 18, 19, 20] (by decide +kernel) (by decide +kernel)
set_option maxRecDepth 20000 in
theorem gX7_isParted_X7_find : GoodIn wsX7_isParted (wsV RX7 36 RX7 yX7_find wsX7_find) := goodIn_app (goodIn_of _ (by decide +kernel)) ggX7_isParted_X7_find
theorem dX7_isParted_0 : decode cX7_isParted 0 = .ok (.aload_n 0, 1) := by decide +kernel
theorem dX7_isParted_1 : decode cX7_isParted 1 = .ok (.iload_n 1, 1) := by decide +kernel
theorem dX7_isParted_2 : decode cX7_isParted 2 = .ok (.iload_n 2, 1) := by decide +kernel
theorem dX7_isParted_3 : decode cX7_isParted 3 = .ok (.invokevirtual 36, 3) := by decide +kernel
theorem dX7_isParted_6 : decode cX7_isParted 6 = .ok (.astore_n 3, 1) := by decide +kernel
theorem dX7_isParted_7 : decode cX7_isParted 7 = .ok (.aload_n 3, 1) := by decide +kernel
theorem dX7_isParted_8 : decode cX7_isParted 8 = .ok (.ifnull 14, 3) := by decide +kernel
theorem dX7_isParted_11 : decode cX7_isParted 11 = .ok (.aload_n 3, 1) := by decide +kernel
theorem dX7_isParted_12 : decode cX7_isParted 12 = .ok (.getfield 40, 3) := by decide +kernel
theorem dX7_isParted_15 : decode cX7_isParted 15 = .ok (.ifCond .ne 7, 3) := by decide +kernel
theorem dX7_isParted_18 : decode cX7_isParted 18 = .ok (.iconst 1, 1) := by decide +kernel
theorem dX7_isParted_19 : decode cX7_isParted 19 = .ok (.goto 4, 3) := by decide +kernel
theorem dX7_isParted_22 : decode cX7_isParted 22 = .ok (.iconst 0, 1) := by decide +kernel
theorem dX7_isParted_23 : decode cX7_isParted 23 = .ok (.ireturn, 1) := by decide +kernel
