set_option maxRecDepth 20000 in
theorem ggX8_alarmAt_X8_isBelow : GoodIn wsX8_alarmAt wsX8_isBelow := goodIn_r _ [6] (by decide +kernel) (by decide +kernel)
set_option maxRecDepth 20000 in
theorem gX8_alarmAt_X8_isBelow : GoodIn wsX8_alarmAt (va_wsS RX8 64 yX8_isBelow wsX8_isBelow) := goodIn_app (goodIn_of _ (by decide +kernel)) ggX8_alarmAt_X8_isBelow
theorem dX8_alarmAt_0 : decode cX8_alarmAt 0 = .ok (.iload_n 1, 1) := by decide +kernel
theorem dX8_alarmAt_1 : decode cX8_alarmAt 1 = .ok (.aload_n 0, 1) := by decide +kernel
theorem dX8_alarmAt_2 : decode cX8_alarmAt 2 = .ok (.getfield 79, 3) := by decide +kernel
theorem dX8_alarmAt_5 : decode cX8_alarmAt 5 = .ok (.invokestatic 64, 3) := by decide +kernel
theorem dX8_alarmAt_8 : decode cX8_alarmAt 8 = .ok (.ifCond .eq 12, 3) := by decide +kernel
theorem dX8_alarmAt_11 : decode cX8_alarmAt 11 = .ok (.aload_n 0, 1) := by decide +kernel
theorem dX8_alarmAt_12 : decode cX8_alarmAt 12 = .ok (.getfield 11, 3) := by decide +kernel
theorem dX8_alarmAt_15 : decode cX8_alarmAt 15 = .ok (.iload_n 1, 1) := by decide +kernel
theorem dX8_alarmAt_16 : decode cX8_alarmAt 16 = .ok (.aaload, 1) := by decide +kernel
theorem dX8_alarmAt_17 : decode cX8_alarmAt 17 = .ok (.goto 4, 3) := by decide +kernel
theorem dX8_alarmAt_20 : decode cX8_alarmAt 20 = .ok (.aconst_null, 1) := by decide +kernel
theorem dX8_alarmAt_21 : decode cX8_alarmAt 21 = .ok (.areturn, 1) := by decide +kernel
set_option maxRecDepth 20000 in
theorem ggX8_alarmToRepeat_X0_isLive : GoodIn wsX8_alarmToRepeat wsX0_isLive := goodIn_r _ [12, 13, 14, 15, 11, 16, 17, 18, 19, 20, 21, 22, 23, 38, 39, 40, 41, 42, 43, 44, 45, 46, 47, 48, 49, 50, 51, 52, 53, 54] (by decide +kernel) (by decide +kernel)
set_option maxRecDepth 20000 in
theorem gX8_alarmToRepeat_X0_isLive : GoodIn wsX8_alarmToRepeat (wsV RX8 225 RX0 yX0_isLive wsX0_isLive) := goodIn_app (goodIn_of _ (by decide +kernel)) ggX8_alarmToRepeat_X0_isLive
theorem dX8_alarmToRepeat_0 : decode cX8_alarmToRepeat 0 = .ok (.aload_n 0, 1) := by decide +kernel
theorem dX8_alarmToRepeat_1 : decode cX8_alarmToRepeat 1 = .ok (.getfield 79, 3) := by decide +kernel
theorem dX8_alarmToRepeat_4 : decode cX8_alarmToRepeat 4 = .ok (.iconst 1, 1) := by decide +kernel
theorem dX8_alarmToRepeat_5 : decode cX8_alarmToRepeat 5 = .ok (.isub, 1) := by decide +kernel
theorem dX8_alarmToRepeat_6 : decode cX8_alarmToRepeat 6 = .ok (.istore 4, 2) := by decide +kernel
theorem dX8_alarmToRepeat_8 : decode cX8_alarmToRepeat 8 = .ok (.iload 4, 2) := by decide +kernel
theorem dX8_alarmToRepeat_10 : decode cX8_alarmToRepeat 10 = .ok (.ifCond .lt 71, 3) := by decide +kernel
theorem dX8_alarmToRepeat_13 : decode cX8_alarmToRepeat 13 = .ok (.aload_n 0, 1) := by decide +kernel
theorem dX8_alarmToRepeat_14 : decode cX8_alarmToRepeat 14 = .ok (.getfield 11, 3) := by decide +kernel
theorem dX8_alarmToRepeat_17 : decode cX8_alarmToRepeat 17 = .ok (.iload 4, 2) := by decide +kernel
theorem dX8_alarmToRepeat_19 : decode cX8_alarmToRepeat 19 = .ok (.aaload, 1) := by decide +kernel
theorem dX8_alarmToRepeat_20 : decode cX8_alarmToRepeat 20 = .ok (.astore 5, 2) := by decide +kernel
theorem dX8_alarmToRepeat_22 : decode cX8_alarmToRepeat 22 = .ok (.aload 5, 2) := by decide +kernel
theorem dX8_alarmToRepeat_24 : decode cX8_alarmToRepeat 24 = .ok (.getfield 151, 3) := by decide +kernel
theorem dX8_alarmToRepeat_27 : decode cX8_alarmToRepeat 27 = .ok (.iload_n 1, 1) := by decide +kernel
theorem dX8_alarmToRepeat_28 : decode cX8_alarmToRepeat 28 = .ok (.if_icmp .ne 47, 3) := by decide +kernel
theorem dX8_alarmToRepeat_31 : decode cX8_alarmToRepeat 31 = .ok (.aload 5, 2) := by decide +kernel
theorem dX8_alarmToRepeat_33 : decode cX8_alarmToRepeat 33 = .ok (.getfield 154, 3) := by decide +kernel
theorem dX8_alarmToRepeat_36 : decode cX8_alarmToRepeat 36 = .ok (.iload_n 2, 1) := by decide +kernel
theorem dX8_alarmToRepeat_37 : decode cX8_alarmToRepeat 37 = .ok (.if_icmp .ne 38, 3) := by decide +kernel
theorem dX8_alarmToRepeat_40 : decode cX8_alarmToRepeat 40 = .ok (.aload 5, 2) := by decide +kernel
theorem dX8_alarmToRepeat_42 : decode cX8_alarmToRepeat 42 = .ok (.getfield 157, 3) := by decide +kernel
theorem dX8_alarmToRepeat_45 : decode cX8_alarmToRepeat 45 = .ok (.iload_n 3, 1) := by decide +kernel
theorem dX8_alarmToRepeat_46 : decode cX8_alarmToRepeat 46 = .ok (.if_icmp .ne 29, 3) := by decide +kernel
theorem dX8_alarmToRepeat_49 : decode cX8_alarmToRepeat 49 = .ok (.aload 5, 2) := by decide +kernel
theorem dX8_alarmToRepeat_51 : decode cX8_alarmToRepeat 51 = .ok (.invokevirtual 225, 3) := by decide +kernel
theorem dX8_alarmToRepeat_54 : decode cX8_alarmToRepeat 54 = .ok (.ifCond .eq 21, 3) := by decide +kernel
theorem dX8_alarmToRepeat_57 : decode cX8_alarmToRepeat 57 = .ok (.aload_n 0, 1) := by decide +kernel
theorem dX8_alarmToRepeat_58 : decode cX8_alarmToRepeat 58 = .ok (.getfield 61, 3) := by decide +kernel
theorem dX8_alarmToRepeat_61 : decode cX8_alarmToRepeat 61 = .ok (.aload 5, 2) := by decide +kernel
theorem dX8_alarmToRepeat_63 : decode cX8_alarmToRepeat 63 = .ok (.getfield 276, 3) := by decide +kernel
theorem dX8_alarmToRepeat_66 : decode cX8_alarmToRepeat 66 = .ok (.isub, 1) := by decide +kernel
theorem dX8_alarmToRepeat_67 : decode cX8_alarmToRepeat 67 = .ok (.bipush 10, 2) := by decide +kernel
theorem dX8_alarmToRepeat_69 : decode cX8_alarmToRepeat 69 = .ok (.if_icmp .gt 6, 3) := by decide +kernel
theorem dX8_alarmToRepeat_72 : decode cX8_alarmToRepeat 72 = .ok (.aload 5, 2) := by decide +kernel
theorem dX8_alarmToRepeat_74 : decode cX8_alarmToRepeat 74 = .ok (.areturn, 1) := by decide +kernel
theorem dX8_alarmToRepeat_75 : decode cX8_alarmToRepeat 75 = .ok (.iinc 4 (-1), 3) := by decide +kernel
theorem dX8_alarmToRepeat_78 : decode cX8_alarmToRepeat 78 = .ok (.goto (-70), 3) := by decide +kernel
theorem dX8_alarmToRepeat_81 : decode cX8_alarmToRepeat 81 = .ok (.aconst_null, 1) := by decide +kernel
theorem dX8_alarmToRepeat_82 : decode cX8_alarmToRepeat 82 = .ok (.areturn, 1) := by decide +kernel
set_option maxRecDepth 20000 in
theorem ggX8_isSilencedNow_X6_covers : GoodIn wsX8_isSilencedNow wsX6_covers := goodIn_r _ [8, 9, 10, 11, 26, 27, 28] (by decide +kernel) (by decide +kernel)
set_option maxRecDepth 20000 in
theorem gX8_isSilencedNow_X6_covers : GoodIn wsX8_isSilencedNow (wsV RX8 279 RX6 yX6_covers wsX6_covers) := goodIn_app (goodIn_of _ (by decide +kernel)) ggX8_isSilencedNow_X6_covers
theorem dX8_isSilencedNow_0 : decode cX8_isSilencedNow 0 = .ok (.iconst 0, 1) := by decide +kernel
theorem dX8_isSilencedNow_1 : decode cX8_isSilencedNow 1 = .ok (.istore_n 2, 1) := by decide +kernel
theorem dX8_isSilencedNow_2 : decode cX8_isSilencedNow 2 = .ok (.iload_n 2, 1) := by decide +kernel
theorem dX8_isSilencedNow_3 : decode cX8_isSilencedNow 3 = .ok (.aload_n 0, 1) := by decide +kernel
theorem dX8_isSilencedNow_4 : decode cX8_isSilencedNow 4 = .ok (.getfield 116, 3) := by decide +kernel
theorem dX8_isSilencedNow_7 : decode cX8_isSilencedNow 7 = .ok (.if_icmp .ge 28, 3) := by decide +kernel
theorem dX8_isSilencedNow_10 : decode cX8_isSilencedNow 10 = .ok (.aload_n 0, 1) := by decide +kernel
theorem dX8_isSilencedNow_11 : decode cX8_isSilencedNow 11 = .ok (.getfield 20, 3) := by decide +kernel
theorem dX8_isSilencedNow_14 : decode cX8_isSilencedNow 14 = .ok (.iload_n 2, 1) := by decide +kernel
theorem dX8_isSilencedNow_15 : decode cX8_isSilencedNow 15 = .ok (.aaload, 1) := by decide +kernel
theorem dX8_isSilencedNow_16 : decode cX8_isSilencedNow 16 = .ok (.iload_n 1, 1) := by decide +kernel
theorem dX8_isSilencedNow_17 : decode cX8_isSilencedNow 17 = .ok (.aload_n 0, 1) := by decide +kernel
theorem dX8_isSilencedNow_18 : decode cX8_isSilencedNow 18 = .ok (.getfield 61, 3) := by decide +kernel
theorem dX8_isSilencedNow_21 : decode cX8_isSilencedNow 21 = .ok (.invokevirtual 279, 3) := by decide +kernel
theorem dX8_isSilencedNow_24 : decode cX8_isSilencedNow 24 = .ok (.ifCond .eq 5, 3) := by decide +kernel
theorem dX8_isSilencedNow_27 : decode cX8_isSilencedNow 27 = .ok (.iconst 1, 1) := by decide +kernel
theorem dX8_isSilencedNow_28 : decode cX8_isSilencedNow 28 = .ok (.ireturn, 1) := by decide +kernel
theorem dX8_isSilencedNow_29 : decode cX8_isSilencedNow 29 = .ok (.iinc 2 1, 3) := by decide +kernel
theorem dX8_isSilencedNow_32 : decode cX8_isSilencedNow 32 = .ok (.goto (-30), 3) := by decide +kernel
theorem dX8_isSilencedNow_35 : decode cX8_isSilencedNow 35 = .ok (.iconst 0, 1) := by decide +kernel
theorem dX8_isSilencedNow_36 : decode cX8_isSilencedNow 36 = .ok (.ireturn, 1) := by decide +kernel
set_option maxRecDepth 20000 in
theorem ggX8_isCapFullNow_X0_isHushed : GoodIn wsX8_isCapFullNow wsX0_isHushed := goodIn_r _ [11, 12, 13, 28, 29, 30, 31, 32, 33, 34, 35, 36, 37, 38, 39, 40, 41, 42, 43, 44] (by decide +kernel) (by decide +kernel)
set_option maxRecDepth 20000 in
theorem gX8_isCapFullNow_X0_isHushed : GoodIn wsX8_isCapFullNow (wsV RX8 273 RX0 yX0_isHushed wsX0_isHushed) := goodIn_app (goodIn_of _ (by decide +kernel)) ggX8_isCapFullNow_X0_isHushed
theorem dX8_isCapFullNow_0 : decode cX8_isCapFullNow 0 = .ok (.iconst 0, 1) := by decide +kernel
theorem dX8_isCapFullNow_1 : decode cX8_isCapFullNow 1 = .ok (.istore_n 2, 1) := by decide +kernel
theorem dX8_isCapFullNow_2 : decode cX8_isCapFullNow 2 = .ok (.aload_n 0, 1) := by decide +kernel
theorem dX8_isCapFullNow_3 : decode cX8_isCapFullNow 3 = .ok (.getfield 79, 3) := by decide +kernel
theorem dX8_isCapFullNow_6 : decode cX8_isCapFullNow 6 = .ok (.iconst 1, 1) := by decide +kernel
theorem dX8_isCapFullNow_7 : decode cX8_isCapFullNow 7 = .ok (.isub, 1) := by decide +kernel
theorem dX8_isCapFullNow_8 : decode cX8_isCapFullNow 8 = .ok (.istore_n 3, 1) := by decide +kernel
theorem dX8_isCapFullNow_9 : decode cX8_isCapFullNow 9 = .ok (.iload_n 3, 1) := by decide +kernel
theorem dX8_isCapFullNow_10 : decode cX8_isCapFullNow 10 = .ok (.ifCond .lt 56, 3) := by decide +kernel
theorem dX8_isCapFullNow_13 : decode cX8_isCapFullNow 13 = .ok (.aload_n 0, 1) := by decide +kernel
theorem dX8_isCapFullNow_14 : decode cX8_isCapFullNow 14 = .ok (.getfield 61, 3) := by decide +kernel
theorem dX8_isCapFullNow_17 : decode cX8_isCapFullNow 17 = .ok (.aload_n 0, 1) := by decide +kernel
theorem dX8_isCapFullNow_18 : decode cX8_isCapFullNow 18 = .ok (.getfield 11, 3) := by decide +kernel
theorem dX8_isCapFullNow_21 : decode cX8_isCapFullNow 21 = .ok (.iload_n 3, 1) := by decide +kernel
theorem dX8_isCapFullNow_22 : decode cX8_isCapFullNow 22 = .ok (.aaload, 1) := by decide +kernel
theorem dX8_isCapFullNow_23 : decode cX8_isCapFullNow 23 = .ok (.getfield 148, 3) := by decide +kernel
theorem dX8_isCapFullNow_26 : decode cX8_isCapFullNow 26 = .ok (.isub, 1) := by decide +kernel
theorem dX8_isCapFullNow_27 : decode cX8_isCapFullNow 27 = .ok (.bipush 9, 2) := by decide +kernel
theorem dX8_isCapFullNow_29 : decode cX8_isCapFullNow 29 = .ok (.if_icmp .gt 37, 3) := by decide +kernel
theorem dX8_isCapFullNow_32 : decode cX8_isCapFullNow 32 = .ok (.aload_n 0, 1) := by decide +kernel
theorem dX8_isCapFullNow_33 : decode cX8_isCapFullNow 33 = .ok (.getfield 11, 3) := by decide +kernel
theorem dX8_isCapFullNow_36 : decode cX8_isCapFullNow 36 = .ok (.iload_n 3, 1) := by decide +kernel
theorem dX8_isCapFullNow_37 : decode cX8_isCapFullNow 37 = .ok (.aaload, 1) := by decide +kernel
theorem dX8_isCapFullNow_38 : decode cX8_isCapFullNow 38 = .ok (.getfield 151, 3) := by decide +kernel
theorem dX8_isCapFullNow_41 : decode cX8_isCapFullNow 41 = .ok (.iload_n 1, 1) := by decide +kernel
theorem dX8_isCapFullNow_42 : decode cX8_isCapFullNow 42 = .ok (.if_icmp .ne 18, 3) := by decide +kernel
theorem dX8_isCapFullNow_45 : decode cX8_isCapFullNow 45 = .ok (.aload_n 0, 1) := by decide +kernel
theorem dX8_isCapFullNow_46 : decode cX8_isCapFullNow 46 = .ok (.getfield 11, 3) := by decide +kernel
theorem dX8_isCapFullNow_49 : decode cX8_isCapFullNow 49 = .ok (.iload_n 3, 1) := by decide +kernel
theorem dX8_isCapFullNow_50 : decode cX8_isCapFullNow 50 = .ok (.aaload, 1) := by decide +kernel
theorem dX8_isCapFullNow_51 : decode cX8_isCapFullNow 51 = .ok (.invokevirtual 273, 3) := by decide +kernel
theorem dX8_isCapFullNow_54 : decode cX8_isCapFullNow 54 = .ok (.ifCond .ne 6, 3) := by decide +kernel
theorem dX8_isCapFullNow_57 : decode cX8_isCapFullNow 57 = .ok (.iinc 2 1, 3) := by decide +kernel
theorem dX8_isCapFullNow_60 : decode cX8_isCapFullNow 60 = .ok (.iinc 3 (-1), 3) := by decide +kernel
theorem dX8_isCapFullNow_63 : decode cX8_isCapFullNow 63 = .ok (.goto (-54), 3) := by decide +kernel
theorem dX8_isCapFullNow_66 : decode cX8_isCapFullNow 66 = .ok (.iload_n 2, 1) := by decide +kernel
theorem dX8_isCapFullNow_67 : decode cX8_isCapFullNow 67 = .ok (.aload_n 0, 1) := by decide +kernel
theorem dX8_isCapFullNow_68 : decode cX8_isCapFullNow 68 = .ok (.getfield 54, 3) := by decide +kernel
theorem dX8_isCapFullNow_71 : decode cX8_isCapFullNow 71 = .ok (.if_icmp .lt 7, 3) := by decide +kernel
theorem dX8_isCapFullNow_74 : decode cX8_isCapFullNow 74 = .ok (.iconst 1, 1) := by decide +kernel
theorem dX8_isCapFullNow_75 : decode cX8_isCapFullNow 75 = .ok (.goto 4, 3) := by decide +kernel
theorem dX8_isCapFullNow_78 : decode cX8_isCapFullNow 78 = .ok (.iconst 0, 1) := by decide +kernel
theorem dX8_isCapFullNow_79 : decode cX8_isCapFullNow 79 = .ok (.ireturn, 1) := by decide +kernel
