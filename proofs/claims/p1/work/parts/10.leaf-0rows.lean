set_option maxRecDepth 20000 in
theorem ggX2_at_X8_isBelow : GoodIn wsX2_at wsX8_isBelow := goodIn_r _ [5] (by decide +kernel) (by decide +kernel)
set_option maxRecDepth 20000 in
theorem gX2_at_X8_isBelow_n54 : GoodIn wsX2_at (wsX8_isBelow) := ggX2_at_X8_isBelow
theorem dX2_at_0 : decode cX2_at 0 = .ok (.iload_n 1, 1) := by decide +kernel
theorem dX2_at_1 : decode cX2_at 1 = .ok (.aload_n 0, 1) := by decide +kernel
theorem dX2_at_2 : decode cX2_at 2 = .ok (.getfield 50, 3) := by decide +kernel
theorem dX2_at_5 : decode cX2_at 5 = .ok (.invokestatic 54, 3) := by decide +kernel
theorem dX2_at_8 : decode cX2_at 8 = .ok (.ifCond .eq 12, 3) := by decide +kernel
theorem dX2_at_20 : decode cX2_at 20 = .ok (.aconst_null, 1) := by decide +kernel
theorem dX2_at_21 : decode cX2_at 21 = .ok (.areturn, 1) := by decide +kernel
theorem dX2_scoreOfAll_0 : decode cX2_scoreOfAll 0 = .ok (.iconst 0, 1) := by decide +kernel
theorem dX2_scoreOfAll_1 : decode cX2_scoreOfAll 1 = .ok (.istore_n 1, 1) := by decide +kernel
theorem dX2_scoreOfAll_2 : decode cX2_scoreOfAll 2 = .ok (.iconst 0, 1) := by decide +kernel
theorem dX2_scoreOfAll_3 : decode cX2_scoreOfAll 3 = .ok (.istore_n 2, 1) := by decide +kernel
theorem dX2_scoreOfAll_4 : decode cX2_scoreOfAll 4 = .ok (.iload_n 2, 1) := by decide +kernel
theorem dX2_scoreOfAll_5 : decode cX2_scoreOfAll 5 = .ok (.aload_n 0, 1) := by decide +kernel
theorem dX2_scoreOfAll_6 : decode cX2_scoreOfAll 6 = .ok (.getfield 50, 3) := by decide +kernel
theorem dX2_scoreOfAll_9 : decode cX2_scoreOfAll 9 = .ok (.if_icmp .ge 21, 3) := by decide +kernel
theorem dX2_scoreOfAll_30 : decode cX2_scoreOfAll 30 = .ok (.iload_n 1, 1) := by decide +kernel
theorem dX2_scoreOfAll_31 : decode cX2_scoreOfAll 31 = .ok (.ireturn, 1) := by decide +kernel
theorem dX3_markAt_0 : decode cX3_markAt 0 = .ok (.iload_n 0, 1) := by decide +kernel
theorem dX3_markAt_1 : decode cX3_markAt 1 = .ok (.iconst 3, 1) := by decide +kernel
theorem dX3_markAt_2 : decode cX3_markAt 2 = .ok (.iconst 3, 1) := by decide +kernel
theorem dX3_markAt_3 : decode cX3_markAt 3 = .ok (.iload_n 1, 1) := by decide +kernel
theorem dX3_markAt_4 : decode cX3_markAt 4 = .ok (.isub, 1) := by decide +kernel
theorem dX3_markAt_5 : decode cX3_markAt 5 = .ok (.imul, 1) := by decide +kernel
theorem dX3_markAt_6 : decode cX3_markAt 6 = .ok (.ishr, 1) := by decide +kernel
theorem dX3_markAt_7 : decode cX3_markAt 7 = .ok (.bipush 7, 2) := by decide +kernel
theorem dX3_markAt_9 : decode cX3_markAt 9 = .ok (.iand, 1) := by decide +kernel
theorem dX3_markAt_10 : decode cX3_markAt 10 = .ok (.ireturn, 1) := by decide +kernel
theorem dX3_child_0 : decode cX3_child 0 = .ok (.aload_n 0, 1) := by decide +kernel
theorem dX3_child_1 : decode cX3_child 1 = .ok (.getfield 25, 3) := by decide +kernel
theorem dX3_child_4 : decode cX3_child 4 = .ok (.astore_n 2, 1) := by decide +kernel
theorem dX3_child_5 : decode cX3_child 5 = .ok (.aload_n 2, 1) := by decide +kernel
theorem dX3_child_6 : decode cX3_child 6 = .ok (.ifnull 19, 3) := by decide +kernel
theorem dX3_child_25 : decode cX3_child 25 = .ok (.aload_n 2, 1) := by decide +kernel
theorem dX3_child_26 : decode cX3_child 26 = .ok (.areturn, 1) := by decide +kernel
set_option maxRecDepth 20000 in
theorem ggX3_find_X3_markAt : GoodIn wsX3_find wsX3_markAt := goodIn_r _ [4] (by decide +kernel) (by decide +kernel)
set_option maxRecDepth 20000 in
theorem gX3_find_X3_markAt : GoodIn wsX3_find (va_wsS RX3 28 yX3_markAt wsX3_markAt) := goodIn_app (goodIn_of _ (by decide +kernel)) ggX3_find_X3_markAt
set_option maxRecDepth 20000 in
theorem ggX3_find_X3_child : GoodIn wsX3_find wsX3_child := goodIn_r _ [8, 9, 10, 11, 12, 13, 14, 15, 16, 17, 18, 19] (by decide +kernel) (by decide +kernel)
set_option maxRecDepth 20000 in
theorem gX3_find_X3_child : GoodIn wsX3_find (wsV RX3 32 RX3 yX3_child wsX3_child) := goodIn_app (goodIn_of _ (by decide +kernel)) ggX3_find_X3_child
theorem dX3_find_0 : decode cX3_find 0 = .ok (.aload_n 0, 1) := by decide +kernel
theorem dX3_find_1 : decode cX3_find 1 = .ok (.astore_n 3, 1) := by decide +kernel
theorem dX3_find_2 : decode cX3_find 2 = .ok (.iconst 0, 1) := by decide +kernel
theorem dX3_find_3 : decode cX3_find 3 = .ok (.istore 4, 2) := by decide +kernel
theorem dX3_find_5 : decode cX3_find 5 = .ok (.iload 4, 2) := by decide +kernel
theorem dX3_find_7 : decode cX3_find 7 = .ok (.iload_n 1, 1) := by decide +kernel
theorem dX3_find_8 : decode cX3_find 8 = .ok (.if_icmp .ge 24, 3) := by decide +kernel
theorem dX3_find_11 : decode cX3_find 11 = .ok (.aload_n 3, 1) := by decide +kernel
theorem dX3_find_12 : decode cX3_find 12 = .ok (.ifnull 20, 3) := by decide +kernel
theorem dX3_find_15 : decode cX3_find 15 = .ok (.aload_n 3, 1) := by decide +kernel
theorem dX3_find_16 : decode cX3_find 16 = .ok (.iload_n 2, 1) := by decide +kernel
theorem dX3_find_17 : decode cX3_find 17 = .ok (.iload 4, 2) := by decide +kernel
theorem dX3_find_19 : decode cX3_find 19 = .ok (.invokestatic 28, 3) := by decide +kernel
theorem dX3_find_22 : decode cX3_find 22 = .ok (.invokevirtual 32, 3) := by decide +kernel
theorem dX3_find_25 : decode cX3_find 25 = .ok (.astore_n 3, 1) := by decide +kernel
theorem dX3_find_26 : decode cX3_find 26 = .ok (.iinc 4 1, 3) := by decide +kernel
theorem dX3_find_29 : decode cX3_find 29 = .ok (.goto (-24), 3) := by decide +kernel
theorem dX3_find_32 : decode cX3_find 32 = .ok (.aload_n 3, 1) := by decide +kernel
theorem dX3_find_33 : decode cX3_find 33 = .ok (.areturn, 1) := by decide +kernel
set_option maxRecDepth 20000 in
theorem ggX5_at_X8_isBelow : GoodIn wsX5_at wsX8_isBelow := goodIn_r _ [5] (by decide +kernel) (by decide +kernel)
set_option maxRecDepth 20000 in
theorem gX5_at_X8_isBelow_n63 : GoodIn wsX5_at (wsX8_isBelow) := ggX5_at_X8_isBelow
theorem dX5_at_0 : decode cX5_at 0 = .ok (.iload_n 1, 1) := by decide +kernel
theorem dX5_at_1 : decode cX5_at 1 = .ok (.aload_n 0, 1) := by decide +kernel
theorem dX5_at_2 : decode cX5_at 2 = .ok (.getfield 27, 3) := by decide +kernel
theorem dX5_at_5 : decode cX5_at 5 = .ok (.invokestatic 63, 3) := by decide +kernel
theorem dX5_at_8 : decode cX5_at 8 = .ok (.ifCond .eq 12, 3) := by decide +kernel
theorem dX5_at_20 : decode cX5_at 20 = .ok (.aconst_null, 1) := by decide +kernel
theorem dX5_at_21 : decode cX5_at 21 = .ok (.areturn, 1) := by decide +kernel
theorem dX5_takeTries_0 : decode cX5_takeTries 0 = .ok (.iconst 0, 1) := by decide +kernel
theorem dX5_takeTries_1 : decode cX5_takeTries 1 = .ok (.istore_n 3, 1) := by decide +kernel
theorem dX5_takeTries_2 : decode cX5_takeTries 2 = .ok (.iload_n 3, 1) := by decide +kernel
theorem dX5_takeTries_3 : decode cX5_takeTries 3 = .ok (.aload_n 1, 1) := by decide +kernel
theorem dX5_takeTries_4 : decode cX5_takeTries 4 = .ok (.getfield 74, 3) := by decide +kernel
theorem dX5_takeTries_7 : decode cX5_takeTries 7 = .ok (.if_icmp .ge 51, 3) := by decide +kernel
theorem dX5_takeTries_58 : decode cX5_takeTries 58 = .ok (.return_, 1) := by decide +kernel
theorem dX5_fillPool_0 : decode cX5_fillPool 0 = .ok (.iconst 0, 1) := by decide +kernel
theorem dX5_fillPool_1 : decode cX5_fillPool 1 = .ok (.istore_n 2, 1) := by decide +kernel
theorem dX5_fillPool_2 : decode cX5_fillPool 2 = .ok (.iload_n 2, 1) := by decide +kernel
theorem dX5_fillPool_3 : decode cX5_fillPool 3 = .ok (.aload_n 1, 1) := by decide +kernel
theorem dX5_fillPool_4 : decode cX5_fillPool 4 = .ok (.getfield 74, 3) := by decide +kernel
theorem dX5_fillPool_7 : decode cX5_fillPool 7 = .ok (.if_icmp .ge 56, 3) := by decide +kernel
theorem dX5_fillPool_63 : decode cX5_fillPool 63 = .ok (.return_, 1) := by decide +kernel
theorem dX5_takeBestOfPool_0 : decode cX5_takeBestOfPool 0 = .ok (.iconst 0, 1) := by decide +kernel
theorem dX5_takeBestOfPool_1 : decode cX5_takeBestOfPool 1 = .ok (.istore_n 1, 1) := by decide +kernel
theorem dX5_takeBestOfPool_2 : decode cX5_takeBestOfPool 2 = .ok (.aload_n 0, 1) := by decide +kernel
theorem dX5_takeBestOfPool_3 : decode cX5_takeBestOfPool 3 = .ok (.getfield 46, 3) := by decide +kernel
theorem dX5_takeBestOfPool_6 : decode cX5_takeBestOfPool 6 = .ok (.istore_n 2, 1) := by decide +kernel
theorem dX5_takeBestOfPool_7 : decode cX5_takeBestOfPool 7 = .ok (.aload_n 0, 1) := by decide +kernel
theorem dX5_takeBestOfPool_8 : decode cX5_takeBestOfPool 8 = .ok (.getfield 31, 3) := by decide +kernel
theorem dX5_takeBestOfPool_11 : decode cX5_takeBestOfPool 11 = .ok (.iconst 1, 1) := by decide +kernel
theorem dX5_takeBestOfPool_12 : decode cX5_takeBestOfPool 12 = .ok (.isub, 1) := by decide +kernel
theorem dX5_takeBestOfPool_13 : decode cX5_takeBestOfPool 13 = .ok (.istore_n 3, 1) := by decide +kernel
theorem dX5_takeBestOfPool_14 : decode cX5_takeBestOfPool 14 = .ok (.iload_n 3, 1) := by decide +kernel
theorem dX5_takeBestOfPool_15 : decode cX5_takeBestOfPool 15 = .ok (.ifCond .lt 45, 3) := by decide +kernel
theorem dX5_takeBestOfPool_60 : decode cX5_takeBestOfPool 60 = .ok (.iconst 0, 1) := by decide +kernel
theorem dX5_takeBestOfPool_61 : decode cX5_takeBestOfPool 61 = .ok (.istore_n 3, 1) := by decide +kernel
theorem dX5_takeBestOfPool_62 : decode cX5_takeBestOfPool 62 = .ok (.iload_n 3, 1) := by decide +kernel
theorem dX5_takeBestOfPool_63 : decode cX5_takeBestOfPool 63 = .ok (.aload_n 0, 1) := by decide +kernel
theorem dX5_takeBestOfPool_64 : decode cX5_takeBestOfPool 64 = .ok (.getfield 31, 3) := by decide +kernel
theorem dX5_takeBestOfPool_67 : decode cX5_takeBestOfPool 67 = .ok (.if_icmp .ge 28, 3) := by decide +kernel
theorem dX5_takeBestOfPool_95 : decode cX5_takeBestOfPool 95 = .ok (.return_, 1) := by decide +kernel
theorem dX8_isBelow_0 : decode cX8_isBelow 0 = .ok (.iload_n 0, 1) := by decide +kernel
theorem dX8_isBelow_1 : decode cX8_isBelow 1 = .ok (.ifCond .lt 12, 3) := by decide +kernel
theorem dX8_isBelow_4 : decode cX8_isBelow 4 = .ok (.iload_n 0, 1) := by decide +kernel
theorem dX8_isBelow_5 : decode cX8_isBelow 5 = .ok (.iload_n 1, 1) := by decide +kernel
theorem dX8_isBelow_6 : decode cX8_isBelow 6 = .ok (.if_icmp .ge 7, 3) := by decide +kernel
theorem dX8_isBelow_9 : decode cX8_isBelow 9 = .ok (.iconst 1, 1) := by decide +kernel
theorem dX8_isBelow_10 : decode cX8_isBelow 10 = .ok (.goto 4, 3) := by decide +kernel
theorem dX8_isBelow_13 : decode cX8_isBelow 13 = .ok (.iconst 0, 1) := by decide +kernel
theorem dX8_isBelow_14 : decode cX8_isBelow 14 = .ok (.ireturn, 1) := by decide +kernel
set_option maxRecDepth 20000 in
theorem ggX8_alarmAt_X8_isBelow : GoodIn wsX8_alarmAt wsX8_isBelow := goodIn_r _ [6] (by decide +kernel) (by decide +kernel)
set_option maxRecDepth 20000 in
theorem gX8_alarmAt_X8_isBelow : GoodIn wsX8_alarmAt (va_wsS RX8 64 yX8_isBelow wsX8_isBelow) := goodIn_app (goodIn_of _ (by decide +kernel)) ggX8_alarmAt_X8_isBelow
theorem dX8_alarmAt_0 : decode cX8_alarmAt 0 = .ok (.iload_n 1, 1) := by decide +kernel
theorem dX8_alarmAt_1 : decode cX8_alarmAt 1 = .ok (.aload_n 0, 1) := by decide +kernel
theorem dX8_alarmAt_2 : decode cX8_alarmAt 2 = .ok (.getfield 79, 3) := by decide +kernel
theorem dX8_alarmAt_5 : decode cX8_alarmAt 5 = .ok (.invokestatic 64, 3) := by decide +kernel
theorem dX8_alarmAt_8 : decode cX8_alarmAt 8 = .ok (.ifCond .eq 12, 3) := by decide +kernel
theorem dX8_alarmAt_20 : decode cX8_alarmAt 20 = .ok (.aconst_null, 1) := by decide +kernel
theorem dX8_alarmAt_21 : decode cX8_alarmAt 21 = .ok (.areturn, 1) := by decide +kernel
theorem dX8_alarmToRepeat_0 : decode cX8_alarmToRepeat 0 = .ok (.aload_n 0, 1) := by decide +kernel
theorem dX8_alarmToRepeat_1 : decode cX8_alarmToRepeat 1 = .ok (.getfield 79, 3) := by decide +kernel
theorem dX8_alarmToRepeat_4 : decode cX8_alarmToRepeat 4 = .ok (.iconst 1, 1) := by decide +kernel
theorem dX8_alarmToRepeat_5 : decode cX8_alarmToRepeat 5 = .ok (.isub, 1) := by decide +kernel
theorem dX8_alarmToRepeat_6 : decode cX8_alarmToRepeat 6 = .ok (.istore 4, 2) := by decide +kernel
theorem dX8_alarmToRepeat_8 : decode cX8_alarmToRepeat 8 = .ok (.iload 4, 2) := by decide +kernel
theorem dX8_alarmToRepeat_10 : decode cX8_alarmToRepeat 10 = .ok (.ifCond .lt 71, 3) := by decide +kernel
theorem dX8_alarmToRepeat_81 : decode cX8_alarmToRepeat 81 = .ok (.aconst_null, 1) := by decide +kernel
theorem dX8_alarmToRepeat_82 : decode cX8_alarmToRepeat 82 = .ok (.areturn, 1) := by decide +kernel
theorem dX8_isSilencedNow_0 : decode cX8_isSilencedNow 0 = .ok (.iconst 0, 1) := by decide +kernel
theorem dX8_isSilencedNow_1 : decode cX8_isSilencedNow 1 = .ok (.istore_n 2, 1) := by decide +kernel
theorem dX8_isSilencedNow_2 : decode cX8_isSilencedNow 2 = .ok (.iload_n 2, 1) := by decide +kernel
theorem dX8_isSilencedNow_3 : decode cX8_isSilencedNow 3 = .ok (.aload_n 0, 1) := by decide +kernel
theorem dX8_isSilencedNow_4 : decode cX8_isSilencedNow 4 = .ok (.getfield 116, 3) := by decide +kernel
theorem dX8_isSilencedNow_7 : decode cX8_isSilencedNow 7 = .ok (.if_icmp .ge 28, 3) := by decide +kernel
theorem dX8_isSilencedNow_35 : decode cX8_isSilencedNow 35 = .ok (.iconst 0, 1) := by decide +kernel
theorem dX8_isSilencedNow_36 : decode cX8_isSilencedNow 36 = .ok (.ireturn, 1) := by decide +kernel
theorem dX8_isCapFullNow_0 : decode cX8_isCapFullNow 0 = .ok (.iconst 0, 1) := by decide +kernel
theorem dX8_isCapFullNow_1 : decode cX8_isCapFullNow 1 = .ok (.istore_n 2, 1) := by decide +kernel
theorem dX8_isCapFullNow_2 : decode cX8_isCapFullNow 2 = .ok (.aload_n 0, 1) := by decide +kernel
theorem dX8_isCapFullNow_3 : decode cX8_isCapFullNow 3 = .ok (.getfield 79, 3) := by decide +kernel
theorem dX8_isCapFullNow_6 : decode cX8_isCapFullNow 6 = .ok (.iconst 1, 1) := by decide +kernel
theorem dX8_isCapFullNow_7 : decode cX8_isCapFullNow 7 = .ok (.isub, 1) := by decide +kernel
theorem dX8_isCapFullNow_8 : decode cX8_isCapFullNow 8 = .ok (.istore_n 3, 1) := by decide +kernel
theorem dX8_isCapFullNow_9 : decode cX8_isCapFullNow 9 = .ok (.iload_n 3, 1) := by decide +kernel
theorem dX8_isCapFullNow_10 : decode cX8_isCapFullNow 10 = .ok (.ifCond .lt 56, 3) := by decide +kernel
theorem dX8_isCapFullNow_66 : decode cX8_isCapFullNow 66 = .ok (.iload_n 2, 1) := by decide +kernel
theorem dX8_isCapFullNow_67 : decode cX8_isCapFullNow 67 = .ok (.aload_n 0, 1) := by decide +kernel
theorem dX8_isCapFullNow_68 : decode cX8_isCapFullNow 68 = .ok (.getfield 54, 3) := by decide +kernel
theorem dX8_isCapFullNow_71 : decode cX8_isCapFullNow 71 = .ok (.if_icmp .lt 7, 3) := by decide +kernel
theorem dX8_isCapFullNow_78 : decode cX8_isCapFullNow 78 = .ok (.iconst 0, 1) := by decide +kernel
theorem dX8_isCapFullNow_79 : decode cX8_isCapFullNow 79 = .ok (.ireturn, 1) := by decide +kernel
theorem dX8_casesNow_0 : decode cX8_casesNow 0 = .ok (.aload_n 0, 1) := by decide +kernel
theorem dX8_casesNow_1 : decode cX8_casesNow 1 = .ok (.getfield 113, 3) := by decide +kernel
theorem dX8_casesNow_4 : decode cX8_casesNow 4 = .ok (.ifCond .eq 31, 3) := by decide +kernel
theorem dX8_casesNow_35 : decode cX8_casesNow 35 = .ok (.aload_n 0, 1) := by decide +kernel
theorem dX8_casesNow_36 : decode cX8_casesNow 36 = .ok (.getfield 43, 3) := by decide +kernel
theorem dX8_casesNow_39 : decode cX8_casesNow 39 = .ok (.areturn, 1) := by decide +kernel
theorem dX9_isIn_0 : decode cX9_isIn 0 = .ok (.iload_n 0, 1) := by decide +kernel
theorem dX9_isIn_1 : decode cX9_isIn 1 = .ok (.iload_n 1, 1) := by decide +kernel
theorem dX9_isIn_2 : decode cX9_isIn 2 = .ok (.if_icmp .lt 12, 3) := by decide +kernel
theorem dX9_isIn_5 : decode cX9_isIn 5 = .ok (.iload_n 0, 1) := by decide +kernel
theorem dX9_isIn_6 : decode cX9_isIn 6 = .ok (.iload_n 2, 1) := by decide +kernel
theorem dX9_isIn_7 : decode cX9_isIn 7 = .ok (.if_icmp .gt 7, 3) := by decide +kernel
theorem dX9_isIn_10 : decode cX9_isIn 10 = .ok (.iconst 1, 1) := by decide +kernel
theorem dX9_isIn_11 : decode cX9_isIn 11 = .ok (.goto 4, 3) := by decide +kernel
theorem dX9_isIn_14 : decode cX9_isIn 14 = .ok (.iconst 0, 1) := by decide +kernel
theorem dX9_isIn_15 : decode cX9_isIn 15 = .ok (.ireturn, 1) := by decide +kernel
set_option maxRecDepth 20000 in
theorem ggX9_isAlarm_X9_isIn : GoodIn wsX9_isAlarm wsX9_isIn := goodIn_r _ [5] (by decide +kernel) (by decide +kernel)
set_option maxRecDepth 20000 in
theorem gX9_isAlarm_X9_isIn : GoodIn wsX9_isAlarm (va_wsS RX9 96 yX9_isIn wsX9_isIn) := goodIn_app (goodIn_of _ (by decide +kernel)) ggX9_isAlarm_X9_isIn
theorem dX9_isAlarm_0 : decode cX9_isAlarm 0 = .ok (.iload_n 1, 1) := by decide +kernel
theorem dX9_isAlarm_1 : decode cX9_isAlarm 1 = .ok (.iconst 0, 1) := by decide +kernel
theorem dX9_isAlarm_2 : decode cX9_isAlarm 2 = .ok (.aload_n 0, 1) := by decide +kernel
theorem dX9_isAlarm_3 : decode cX9_isAlarm 3 = .ok (.getfield 93, 3) := by decide +kernel
theorem dX9_isAlarm_6 : decode cX9_isAlarm 6 = .ok (.iconst 1, 1) := by decide +kernel
theorem dX9_isAlarm_7 : decode cX9_isAlarm 7 = .ok (.isub, 1) := by decide +kernel
theorem dX9_isAlarm_8 : decode cX9_isAlarm 8 = .ok (.invokestatic 96, 3) := by decide +kernel
theorem dX9_isAlarm_11 : decode cX9_isAlarm 11 = .ok (.ireturn, 1) := by decide +kernel
set_option maxRecDepth 20000 in
theorem ggX9_isPlan_X9_isIn : GoodIn wsX9_isPlan wsX9_isIn := goodIn_r _ [4] (by decide +kernel) (by decide +kernel)
set_option maxRecDepth 20000 in
theorem gX9_isPlan_X9_isIn : GoodIn wsX9_isPlan (va_wsS RX9 96 yX9_isIn wsX9_isIn) := goodIn_app (goodIn_of _ (by decide +kernel)) ggX9_isPlan_X9_isIn
theorem dX9_isPlan_0 : decode cX9_isPlan 0 = .ok (.iload_n 0, 1) := by decide +kernel
theorem dX9_isPlan_1 : decode cX9_isPlan 1 = .ok (.iconst 0, 1) := by decide +kernel
theorem dX9_isPlan_2 : decode cX9_isPlan 2 = .ok (.sipush 300, 3) := by decide +kernel
theorem dX9_isPlan_5 : decode cX9_isPlan 5 = .ok (.invokestatic 96, 3) := by decide +kernel
theorem dX9_isPlan_8 : decode cX9_isPlan 8 = .ok (.ireturn, 1) := by decide +kernel
