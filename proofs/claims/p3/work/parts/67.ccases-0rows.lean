set_option maxRecDepth 20000 in
theorem ggX2_gather_X1_clear : GoodIn wsX2_gather wsX1_clear := goodIn_r _ [7, 8, 9, 10, 143, 144, 145, 146] (by decide +kernel) (by decide +kernel)
set_option maxRecDepth 20000 in
theorem gX2_gather_X1_clear : GoodIn wsX2_gather (wsV RX2 27 RX1 yX1_clear wsX1_clear) := goodIn_app (goodIn_of _ (by decide +kernel)) ggX2_gather_X1_clear
set_option maxRecDepth 20000 in
theorem ggX2_gather_X0_isLive : GoodIn wsX2_gather wsX0_isLive := goodIn_r _ [15, 16, 17, 18, 14, 19, 20, 21, 22, 23, 24, 25, 26, 126, 127, 128, 129, 130, 131, 132, 133, 134, 135, 136, 137, 138, 139, 140, 141, 142] (by decide +kernel) (by decide +kernel)
set_option maxRecDepth 20000 in
theorem gX2_gather_X0_isLive : GoodIn wsX2_gather (wsV RX2 30 RX0 yX0_isLive wsX0_isLive) := goodIn_app (goodIn_of _ (by decide +kernel)) ggX2_gather_X0_isLive
set_option maxRecDepth 20000 in
theorem ggX2_gather_X2_joinWithSoonerOnes : GoodIn wsX2_gather wsX2_joinWithSoonerOnes := goodIn_r _ [30, 31, 32, 33, 11, 12, 13, 14, 15, 16, 17, 18, 19, 20, 21, 22, 23, 24, 25, 26, 34, 35, 36, 37, 38, 39, 40, 41, 42, 43, 44, 45, 46, 47, 48, 49, 50, 51, 52, 53, 54, 55, 56, 57, 58, 59, 60, 61, 62, 63, 64, 65, 126, 127, 128, 129, 130, 131, 132, 133, 134, 135, 136, 137, 138, 139, 140, 141, 142, 147, 148, 149, 150, 151] (by decide +kernel) (by decide +kernel)
set_option maxRecDepth 20000 in
theorem gX2_gather_X2_joinWithSoonerOnes : GoodIn wsX2_gather (va_wsS RX2 34 yX2_joinWithSoonerOnes wsX2_joinWithSoonerOnes) := goodIn_app (goodIn_of _ (by decide +kernel)) ggX2_gather_X2_joinWithSoonerOnes
set_option maxRecDepth 20000 in
theorem ggX2_gather_X2_joinToldOnes : GoodIn wsX2_gather wsX2_joinToldOnes := goodIn_r _ [68, 69, 70, 71, 72, 73, 74, 75, 76, 11, 12, 13, 14, 15, 16, 17, 18, 19, 20, 21, 22, 23, 24, 25, 26, 60, 61, 62, 63, 64, 38, 65, 35, 36, 37, 150, 151, 147, 148, 149, 126, 127, 128, 129, 130, 131, 132, 133, 134, 135, 136, 137, 138, 139, 140, 141, 142] (by decide +kernel) (by decide +kernel)
set_option maxRecDepth 20000 in
theorem gX2_gather_X2_joinToldOnes : GoodIn wsX2_gather (va_wsS RX2 38 yX2_joinToldOnes wsX2_joinToldOnes) := goodIn_app (goodIn_of _ (by decide +kernel)) ggX2_gather_X2_joinToldOnes
set_option maxRecDepth 20000 in
theorem ggX2_gather_X2_fillCases : GoodIn wsX2_gather wsX2_fillCases := goodIn_r _ [79, 2, 80, 11, 12, 13, 14, 15, 16, 17, 18, 19, 20, 21, 22, 23, 24, 25, 26, 34, 35, 36, 37, 38, 81, 82, 83, 84, 85, 86, 87, 88, 89, 90, 91, 92, 93, 94, 95, 96, 97, 98, 99, 100, 101, 102, 103, 104, 105, 106, 107, 6, 108, 8, 9, 109, 54, 51, 55, 10, 126, 127, 128, 129, 130, 131, 132, 133, 134, 135, 136, 137, 138, 139, 140, 141, 142, 152, 153, 154, 155, 156, 157, 158, 159, 143, 144, 145, 146] (by decide +kernel) (by decide +kernel)
set_option maxRecDepth 20000 in
theorem gX2_gather_X2_fillCases : GoodIn wsX2_gather (va_wsS RX2 42 yX2_fillCases wsX2_fillCases) := goodIn_app (goodIn_of _ (by decide +kernel)) ggX2_gather_X2_fillCases
set_option maxRecDepth 20000 in
theorem ggX2_gather_X2_putInOrder : GoodIn wsX2_gather wsX2_putInOrder := goodIn_r _ [113, 114, 2, 115, 116, 117, 118, 29, 119, 120, 121, 122, 123, 6, 124, 9, 125, 160, 161, 126, 127, 128, 129, 130, 131, 132, 133, 134, 135, 136, 137, 138, 139, 140, 141, 142, 143, 144, 145, 146] (by decide +kernel) (by decide +kernel)
set_option maxRecDepth 20000 in
theorem gX2_gather_X2_putInOrder : GoodIn wsX2_gather (wsV RX2 46 RX2 yX2_putInOrder wsX2_putInOrder) := goodIn_app (goodIn_of _ (by decide +kernel)) ggX2_gather_X2_putInOrder
theorem dX2_gather_0 : decode cX2_gather 0 = .ok (.iconst 0, 1) := by decide +kernel
theorem dX2_gather_1 : decode cX2_gather 1 = .ok (.istore 5, 2) := by decide +kernel
theorem dX2_gather_3 : decode cX2_gather 3 = .ok (.iload 5, 2) := by decide +kernel
theorem dX2_gather_5 : decode cX2_gather 5 = .ok (.iload_n 2, 1) := by decide +kernel
theorem dX2_gather_6 : decode cX2_gather 6 = .ok (.if_icmp .ge 27, 3) := by decide +kernel
theorem dX2_gather_9 : decode cX2_gather 9 = .ok (.aload_n 1, 1) := by decide +kernel
theorem dX2_gather_10 : decode cX2_gather 10 = .ok (.iload 5, 2) := by decide +kernel
theorem dX2_gather_12 : decode cX2_gather 12 = .ok (.aaload, 1) := by decide +kernel
theorem dX2_gather_13 : decode cX2_gather 13 = .ok (.aconst_null, 1) := by decide +kernel
theorem dX2_gather_14 : decode cX2_gather 14 = .ok (.putfield 17, 3) := by decide +kernel
theorem dX2_gather_17 : decode cX2_gather 17 = .ok (.aload_n 1, 1) := by decide +kernel
theorem dX2_gather_18 : decode cX2_gather 18 = .ok (.iload 5, 2) := by decide +kernel
theorem dX2_gather_20 : decode cX2_gather 20 = .ok (.aaload, 1) := by decide +kernel
theorem dX2_gather_21 : decode cX2_gather 21 = .ok (.getfield 23, 3) := by decide +kernel
theorem dX2_gather_24 : decode cX2_gather 24 = .ok (.invokevirtual 27, 3) := by decide +kernel
theorem dX2_gather_27 : decode cX2_gather 27 = .ok (.iinc 5 1, 3) := by decide +kernel
theorem dX2_gather_30 : decode cX2_gather 30 = .ok (.goto (-27), 3) := by decide +kernel
theorem dX2_gather_33 : decode cX2_gather 33 = .ok (.iconst 0, 1) := by decide +kernel
theorem dX2_gather_34 : decode cX2_gather 34 = .ok (.istore 5, 2) := by decide +kernel
theorem dX2_gather_36 : decode cX2_gather 36 = .ok (.iload 5, 2) := by decide +kernel
theorem dX2_gather_38 : decode cX2_gather 38 = .ok (.iload_n 2, 1) := by decide +kernel
theorem dX2_gather_39 : decode cX2_gather 39 = .ok (.if_icmp .ge 27, 3) := by decide +kernel
theorem dX2_gather_42 : decode cX2_gather 42 = .ok (.aload_n 1, 1) := by decide +kernel
theorem dX2_gather_43 : decode cX2_gather 43 = .ok (.iload 5, 2) := by decide +kernel
theorem dX2_gather_45 : decode cX2_gather 45 = .ok (.aaload, 1) := by decide +kernel
theorem dX2_gather_46 : decode cX2_gather 46 = .ok (.invokevirtual 30, 3) := by decide +kernel
theorem dX2_gather_49 : decode cX2_gather 49 = .ok (.ifCond .eq 11, 3) := by decide +kernel
theorem dX2_gather_52 : decode cX2_gather 52 = .ok (.aload_n 1, 1) := by decide +kernel
theorem dX2_gather_53 : decode cX2_gather 53 = .ok (.iload 5, 2) := by decide +kernel
theorem dX2_gather_55 : decode cX2_gather 55 = .ok (.aaload, 1) := by decide +kernel
theorem dX2_gather_56 : decode cX2_gather 56 = .ok (.aload_n 3, 1) := by decide +kernel
theorem dX2_gather_57 : decode cX2_gather 57 = .ok (.invokestatic 34, 3) := by decide +kernel
theorem dX2_gather_60 : decode cX2_gather 60 = .ok (.iinc 5 1, 3) := by decide +kernel
theorem dX2_gather_63 : decode cX2_gather 63 = .ok (.goto (-27), 3) := by decide +kernel
theorem dX2_gather_66 : decode cX2_gather 66 = .ok (.aload_n 1, 1) := by decide +kernel
theorem dX2_gather_67 : decode cX2_gather 67 = .ok (.iload_n 2, 1) := by decide +kernel
theorem dX2_gather_68 : decode cX2_gather 68 = .ok (.aload_n 3, 1) := by decide +kernel
theorem dX2_gather_69 : decode cX2_gather 69 = .ok (.invokestatic 38, 3) := by decide +kernel
theorem dX2_gather_72 : decode cX2_gather 72 = .ok (.aload_n 1, 1) := by decide +kernel
theorem dX2_gather_73 : decode cX2_gather 73 = .ok (.iload_n 2, 1) := by decide +kernel
theorem dX2_gather_74 : decode cX2_gather 74 = .ok (.iload 4, 2) := by decide +kernel
theorem dX2_gather_76 : decode cX2_gather 76 = .ok (.invokestatic 42, 3) := by decide +kernel
theorem dX2_gather_79 : decode cX2_gather 79 = .ok (.aload_n 0, 1) := by decide +kernel
theorem dX2_gather_80 : decode cX2_gather 80 = .ok (.aload_n 1, 1) := by decide +kernel
theorem dX2_gather_81 : decode cX2_gather 81 = .ok (.iload_n 2, 1) := by decide +kernel
theorem dX2_gather_82 : decode cX2_gather 82 = .ok (.invokevirtual 46, 3) := by decide +kernel
theorem dX2_gather_85 : decode cX2_gather 85 = .ok (.return_, 1) := by decide +kernel
set_option maxRecDepth 20000 in
theorem ggX2_at_X8_isBelow : GoodIn wsX2_at wsX8_isBelow := goodIn_r _ [5] (by decide +kernel) (by decide +kernel)
set_option maxRecDepth 20000 in
theorem gX2_at_X8_isBelow_n54 : GoodIn wsX2_at (wsX8_isBelow) := ggX2_at_X8_isBelow
theorem dX2_at_0 : decode cX2_at 0 = .ok (.iload_n 1, 1) := by decide +kernel
theorem dX2_at_1 : decode cX2_at 1 = .ok (.aload_n 0, 1) := by decide +kernel
theorem dX2_at_2 : decode cX2_at 2 = .ok (.getfield 50, 3) := by decide +kernel
theorem dX2_at_5 : decode cX2_at 5 = .ok (.invokestatic 54, 3) := by decide +kernel
theorem dX2_at_8 : decode cX2_at 8 = .ok (.ifCond .eq 12, 3) := by decide +kernel
theorem dX2_at_11 : decode cX2_at 11 = .ok (.aload_n 0, 1) := by decide +kernel
theorem dX2_at_12 : decode cX2_at 12 = .ok (.getfield 11, 3) := by decide +kernel
theorem dX2_at_15 : decode cX2_at 15 = .ok (.iload_n 1, 1) := by decide +kernel
theorem dX2_at_16 : decode cX2_at 16 = .ok (.aaload, 1) := by decide +kernel
theorem dX2_at_17 : decode cX2_at 17 = .ok (.goto 4, 3) := by decide +kernel
theorem dX2_at_20 : decode cX2_at 20 = .ok (.aconst_null, 1) := by decide +kernel
theorem dX2_at_21 : decode cX2_at 21 = .ok (.areturn, 1) := by decide +kernel
theorem dX2_scoreOfAll_0 : decode cX2_scoreOfAll 0 = .ok (.iconst 0, 1) := by decide +kernel
theorem dX2_scoreOfAll_1 : decode cX2_scoreOfAll 1 = .ok (.istore_n 1, 1) := by decide +kernel
theorem dX2_scoreOfAll_2 : decode cX2_scoreOfAll 2 = .ok (.iconst 0, 1) := by decide +kernel
theorem dX2_scoreOfAll_3 : decode cX2_scoreOfAll 3 = .ok (.istore_n 2, 1) := by decide +kernel
theorem dX2_scoreOfAll_4 : decode cX2_scoreOfAll 4 = .ok (.iload_n 2, 1) := by decide +kernel
theorem dX2_scoreOfAll_5 : decode cX2_scoreOfAll 5 = .ok (.aload_n 0, 1) := by decide +kernel
theorem dX2_scoreOfAll_6 : decode cX2_scoreOfAll 6 = .ok (.getfield 50, 3) := by decide +kernel
theorem dX2_scoreOfAll_9 : decode cX2_scoreOfAll 9 = .ok (.if_icmp .ge 21, 3) := by decide +kernel
theorem dX2_scoreOfAll_12 : decode cX2_scoreOfAll 12 = .ok (.iload_n 1, 1) := by decide +kernel
theorem dX2_scoreOfAll_13 : decode cX2_scoreOfAll 13 = .ok (.aload_n 0, 1) := by decide +kernel
theorem dX2_scoreOfAll_14 : decode cX2_scoreOfAll 14 = .ok (.getfield 11, 3) := by decide +kernel
theorem dX2_scoreOfAll_17 : decode cX2_scoreOfAll 17 = .ok (.iload_n 2, 1) := by decide +kernel
theorem dX2_scoreOfAll_18 : decode cX2_scoreOfAll 18 = .ok (.aaload, 1) := by decide +kernel
theorem dX2_scoreOfAll_19 : decode cX2_scoreOfAll 19 = .ok (.getfield 58, 3) := by decide +kernel
theorem dX2_scoreOfAll_22 : decode cX2_scoreOfAll 22 = .ok (.iadd, 1) := by decide +kernel
theorem dX2_scoreOfAll_23 : decode cX2_scoreOfAll 23 = .ok (.istore_n 1, 1) := by decide +kernel
theorem dX2_scoreOfAll_24 : decode cX2_scoreOfAll 24 = .ok (.iinc 2 1, 3) := by decide +kernel
theorem dX2_scoreOfAll_27 : decode cX2_scoreOfAll 27 = .ok (.goto (-23), 3) := by decide +kernel
theorem dX2_scoreOfAll_30 : decode cX2_scoreOfAll 30 = .ok (.iload_n 1, 1) := by decide +kernel
theorem dX2_scoreOfAll_31 : decode cX2_scoreOfAll 31 = .ok (.ireturn, 1) := by decide +kernel
set_option maxRecDepth 20000 in
theorem ggX2_joinWithSoonerOnes_X0_isLive : GoodIn wsX2_joinWithSoonerOnes wsX0_isLive := goodIn_r _ [8, 9, 10, 11, 7, 12, 13, 14, 15, 16, 17, 18, 19, 52, 53, 54, 55, 56, 57, 58, 59, 60, 61, 62, 63, 64, 65, 66, 67, 68] (by decide +kernel) (by decide +kernel)
set_option maxRecDepth 20000 in
theorem gX2_joinWithSoonerOnes_X0_isLive : GoodIn wsX2_joinWithSoonerOnes (wsV RX2 30 RX0 yX0_isLive wsX0_isLive) := goodIn_app (goodIn_of _ (by decide +kernel)) ggX2_joinWithSoonerOnes_X0_isLive
set_option maxRecDepth 20000 in
theorem ggX2_joinWithSoonerOnes_X0_head : GoodIn wsX2_joinWithSoonerOnes wsX0_head := goodIn_r _ [23, 24, 52, 53, 54, 55, 56, 57, 58, 59, 60, 61, 62, 63, 64, 65, 66, 67, 68] (by decide +kernel) (by decide +kernel)
set_option maxRecDepth 20000 in
theorem gX2_joinWithSoonerOnes_X0_head : GoodIn wsX2_joinWithSoonerOnes (wsV RX2 67 RX0 yX0_head wsX0_head) := goodIn_app (goodIn_of _ (by decide +kernel)) ggX2_joinWithSoonerOnes_X0_head
set_option maxRecDepth 20000 in
theorem ggX2_joinWithSoonerOnes_X7_isParted : GoodIn wsX2_joinWithSoonerOnes wsX7_isParted := goodIn_r _ [29, 30, 31, 32, 33, 28, 34, 35, 36, 37, 38, 39, 40, 41, 42, 43, 44, 45, 69, 70, 71, 72, 73] (by decide +kernel) (by decide +kernel)
set_option maxRecDepth 20000 in
theorem gX2_joinWithSoonerOnes_X7_isParted : GoodIn wsX2_joinWithSoonerOnes (wsV RX2 74 RX7 yX7_isParted wsX7_isParted) := goodIn_app (goodIn_of _ (by decide +kernel)) ggX2_joinWithSoonerOnes_X7_isParted
set_option maxRecDepth 20000 in
theorem ggX2_joinWithSoonerOnes_X0_joinCaseOf : GoodIn wsX2_joinWithSoonerOnes wsX0_joinCaseOf := goodIn_r _ [49, 50, 24, 51, 21, 22, 7, 23, 52, 53, 54, 55, 56, 57, 58, 59, 60, 61, 62, 63, 64, 65, 66, 67, 68] (by decide +kernel) (by decide +kernel)
set_option maxRecDepth 20000 in
theorem gX2_joinWithSoonerOnes_X0_joinCaseOf : GoodIn wsX2_joinWithSoonerOnes (wsV RX2 79 RX0 yX0_joinCaseOf wsX0_joinCaseOf) := goodIn_app (goodIn_of _ (by decide +kernel)) ggX2_joinWithSoonerOnes_X0_joinCaseOf
theorem dX2_joinWithSoonerOnes_0 : decode cX2_joinWithSoonerOnes 0 = .ok (.aload_n 0, 1) := by decide +kernel
theorem dX2_joinWithSoonerOnes_1 : decode cX2_joinWithSoonerOnes 1 = .ok (.getfield 61, 3) := by decide +kernel
theorem dX2_joinWithSoonerOnes_4 : decode cX2_joinWithSoonerOnes 4 = .ok (.astore_n 2, 1) := by decide +kernel
theorem dX2_joinWithSoonerOnes_5 : decode cX2_joinWithSoonerOnes 5 = .ok (.aload_n 2, 1) := by decide +kernel
theorem dX2_joinWithSoonerOnes_6 : decode cX2_joinWithSoonerOnes 6 = .ok (.ifnull 63, 3) := by decide +kernel
theorem dX2_joinWithSoonerOnes_9 : decode cX2_joinWithSoonerOnes 9 = .ok (.aload_n 0, 1) := by decide +kernel
theorem dX2_joinWithSoonerOnes_10 : decode cX2_joinWithSoonerOnes 10 = .ok (.getfield 64, 3) := by decide +kernel
theorem dX2_joinWithSoonerOnes_13 : decode cX2_joinWithSoonerOnes 13 = .ok (.aload_n 2, 1) := by decide +kernel
theorem dX2_joinWithSoonerOnes_14 : decode cX2_joinWithSoonerOnes 14 = .ok (.getfield 64, 3) := by decide +kernel
theorem dX2_joinWithSoonerOnes_17 : decode cX2_joinWithSoonerOnes 17 = .ok (.isub, 1) := by decide +kernel
theorem dX2_joinWithSoonerOnes_18 : decode cX2_joinWithSoonerOnes 18 = .ok (.bipush 20, 2) := by decide +kernel
theorem dX2_joinWithSoonerOnes_20 : decode cX2_joinWithSoonerOnes 20 = .ok (.if_icmp .gt 49, 3) := by decide +kernel
theorem dX2_joinWithSoonerOnes_23 : decode cX2_joinWithSoonerOnes 23 = .ok (.aload_n 2, 1) := by decide +kernel
theorem dX2_joinWithSoonerOnes_24 : decode cX2_joinWithSoonerOnes 24 = .ok (.invokevirtual 30, 3) := by decide +kernel
theorem dX2_joinWithSoonerOnes_27 : decode cX2_joinWithSoonerOnes 27 = .ok (.ifCond .eq 34, 3) := by decide +kernel
theorem dX2_joinWithSoonerOnes_30 : decode cX2_joinWithSoonerOnes 30 = .ok (.aload_n 2, 1) := by decide +kernel
theorem dX2_joinWithSoonerOnes_31 : decode cX2_joinWithSoonerOnes 31 = .ok (.invokevirtual 67, 3) := by decide +kernel
theorem dX2_joinWithSoonerOnes_34 : decode cX2_joinWithSoonerOnes 34 = .ok (.aload_n 0, 1) := by decide +kernel
theorem dX2_joinWithSoonerOnes_35 : decode cX2_joinWithSoonerOnes 35 = .ok (.invokevirtual 67, 3) := by decide +kernel
theorem dX2_joinWithSoonerOnes_38 : decode cX2_joinWithSoonerOnes 38 = .ok (.if_acmp .eq 23, 3) := by decide +kernel
theorem dX2_joinWithSoonerOnes_41 : decode cX2_joinWithSoonerOnes 41 = .ok (.aload_n 1, 1) := by decide +kernel
theorem dX2_joinWithSoonerOnes_42 : decode cX2_joinWithSoonerOnes 42 = .ok (.aload_n 2, 1) := by decide +kernel
theorem dX2_joinWithSoonerOnes_43 : decode cX2_joinWithSoonerOnes 43 = .ok (.getfield 71, 3) := by decide +kernel
theorem dX2_joinWithSoonerOnes_46 : decode cX2_joinWithSoonerOnes 46 = .ok (.aload_n 0, 1) := by decide +kernel
theorem dX2_joinWithSoonerOnes_47 : decode cX2_joinWithSoonerOnes 47 = .ok (.getfield 71, 3) := by decide +kernel
theorem dX2_joinWithSoonerOnes_50 : decode cX2_joinWithSoonerOnes 50 = .ok (.invokevirtual 74, 3) := by decide +kernel
theorem dX2_joinWithSoonerOnes_53 : decode cX2_joinWithSoonerOnes 53 = .ok (.ifCond .ne 8, 3) := by decide +kernel
theorem dX2_joinWithSoonerOnes_56 : decode cX2_joinWithSoonerOnes 56 = .ok (.aload_n 0, 1) := by decide +kernel
theorem dX2_joinWithSoonerOnes_57 : decode cX2_joinWithSoonerOnes 57 = .ok (.aload_n 2, 1) := by decide +kernel
theorem dX2_joinWithSoonerOnes_58 : decode cX2_joinWithSoonerOnes 58 = .ok (.invokevirtual 79, 3) := by decide +kernel
theorem dX2_joinWithSoonerOnes_61 : decode cX2_joinWithSoonerOnes 61 = .ok (.aload_n 2, 1) := by decide +kernel
theorem dX2_joinWithSoonerOnes_62 : decode cX2_joinWithSoonerOnes 62 = .ok (.getfield 61, 3) := by decide +kernel
theorem dX2_joinWithSoonerOnes_65 : decode cX2_joinWithSoonerOnes 65 = .ok (.astore_n 2, 1) := by decide +kernel
theorem dX2_joinWithSoonerOnes_66 : decode cX2_joinWithSoonerOnes 66 = .ok (.goto (-61), 3) := by decide +kernel
theorem dX2_joinWithSoonerOnes_69 : decode cX2_joinWithSoonerOnes 69 = .ok (.return_, 1) := by decide +kernel
set_option maxRecDepth 20000 in
theorem ggX2_joinToldOnes_X8_isBelow : GoodIn wsX2_joinToldOnes wsX8_isBelow := goodIn_r _ [8] (by decide +kernel) (by decide +kernel)
set_option maxRecDepth 20000 in
theorem gX2_joinToldOnes_X8_isBelow_n54 : GoodIn wsX2_joinToldOnes (wsX8_isBelow) := ggX2_joinToldOnes_X8_isBelow
set_option maxRecDepth 20000 in
theorem ggX2_joinToldOnes_X0_isLive : GoodIn wsX2_joinToldOnes wsX0_isLive := goodIn_r _ [13, 14, 15, 16, 12, 17, 18, 19, 20, 21, 22, 23, 24, 40, 41, 42, 43, 44, 45, 46, 47, 48, 49, 50, 51, 52, 53, 54, 55, 56] (by decide +kernel) (by decide +kernel)
set_option maxRecDepth 20000 in
theorem gX2_joinToldOnes_X0_isLive : GoodIn wsX2_joinToldOnes (wsV RX2 30 RX0 yX0_isLive wsX0_isLive) := goodIn_app (goodIn_of _ (by decide +kernel)) ggX2_joinToldOnes_X0_isLive
set_option maxRecDepth 20000 in
theorem ggX2_joinToldOnes_X0_joinCaseOf : GoodIn wsX2_joinToldOnes wsX0_joinCaseOf := goodIn_r _ [28, 29, 30, 31, 32, 33, 12, 34, 40, 41, 42, 43, 44, 45, 46, 47, 48, 49, 50, 51, 52, 53, 54, 55, 56] (by decide +kernel) (by decide +kernel)
set_option maxRecDepth 20000 in
theorem gX2_joinToldOnes_X0_joinCaseOf : GoodIn wsX2_joinToldOnes (wsV RX2 79 RX0 yX0_joinCaseOf wsX0_joinCaseOf) := goodIn_app (goodIn_of _ (by decide +kernel)) ggX2_joinToldOnes_X0_joinCaseOf
theorem dX2_joinToldOnes_0 : decode cX2_joinToldOnes 0 = .ok (.iconst 0, 1) := by decide +kernel
theorem dX2_joinToldOnes_1 : decode cX2_joinToldOnes 1 = .ok (.istore_n 3, 1) := by decide +kernel
theorem dX2_joinToldOnes_2 : decode cX2_joinToldOnes 2 = .ok (.iload_n 3, 1) := by decide +kernel
theorem dX2_joinToldOnes_3 : decode cX2_joinToldOnes 3 = .ok (.aload_n 2, 1) := by decide +kernel
theorem dX2_joinToldOnes_4 : decode cX2_joinToldOnes 4 = .ok (.getfield 83, 3) := by decide +kernel
theorem dX2_joinToldOnes_7 : decode cX2_joinToldOnes 7 = .ok (.if_icmp .ge 92, 3) := by decide +kernel
theorem dX2_joinToldOnes_10 : decode cX2_joinToldOnes 10 = .ok (.aload_n 2, 1) := by decide +kernel
theorem dX2_joinToldOnes_11 : decode cX2_joinToldOnes 11 = .ok (.getfield 84, 3) := by decide +kernel
theorem dX2_joinToldOnes_14 : decode cX2_joinToldOnes 14 = .ok (.iload_n 3, 1) := by decide +kernel
theorem dX2_joinToldOnes_15 : decode cX2_joinToldOnes 15 = .ok (.aaload, 1) := by decide +kernel
theorem dX2_joinToldOnes_16 : decode cX2_joinToldOnes 16 = .ok (.astore 4, 2) := by decide +kernel
theorem dX2_joinToldOnes_18 : decode cX2_joinToldOnes 18 = .ok (.aload 4, 2) := by decide +kernel
theorem dX2_joinToldOnes_20 : decode cX2_joinToldOnes 20 = .ok (.getfield 88, 3) := by decide +kernel
theorem dX2_joinToldOnes_23 : decode cX2_joinToldOnes 23 = .ok (.ifCond .eq 70, 3) := by decide +kernel
theorem dX2_joinToldOnes_26 : decode cX2_joinToldOnes 26 = .ok (.aload 4, 2) := by decide +kernel
theorem dX2_joinToldOnes_28 : decode cX2_joinToldOnes 28 = .ok (.getfield 94, 3) := by decide +kernel
theorem dX2_joinToldOnes_31 : decode cX2_joinToldOnes 31 = .ok (.iload_n 1, 1) := by decide +kernel
theorem dX2_joinToldOnes_32 : decode cX2_joinToldOnes 32 = .ok (.invokestatic 54, 3) := by decide +kernel
theorem dX2_joinToldOnes_35 : decode cX2_joinToldOnes 35 = .ok (.ifCond .eq 58, 3) := by decide +kernel
theorem dX2_joinToldOnes_38 : decode cX2_joinToldOnes 38 = .ok (.aload 4, 2) := by decide +kernel
theorem dX2_joinToldOnes_40 : decode cX2_joinToldOnes 40 = .ok (.getfield 97, 3) := by decide +kernel
theorem dX2_joinToldOnes_43 : decode cX2_joinToldOnes 43 = .ok (.iload_n 1, 1) := by decide +kernel
theorem dX2_joinToldOnes_44 : decode cX2_joinToldOnes 44 = .ok (.invokestatic 54, 3) := by decide +kernel
theorem dX2_joinToldOnes_47 : decode cX2_joinToldOnes 47 = .ok (.ifCond .eq 46, 3) := by decide +kernel
theorem dX2_joinToldOnes_50 : decode cX2_joinToldOnes 50 = .ok (.aload_n 0, 1) := by decide +kernel
theorem dX2_joinToldOnes_51 : decode cX2_joinToldOnes 51 = .ok (.aload 4, 2) := by decide +kernel
theorem dX2_joinToldOnes_53 : decode cX2_joinToldOnes 53 = .ok (.getfield 94, 3) := by decide +kernel
theorem dX2_joinToldOnes_56 : decode cX2_joinToldOnes 56 = .ok (.aaload, 1) := by decide +kernel
theorem dX2_joinToldOnes_57 : decode cX2_joinToldOnes 57 = .ok (.invokevirtual 30, 3) := by decide +kernel
theorem dX2_joinToldOnes_60 : decode cX2_joinToldOnes 60 = .ok (.ifCond .eq 33, 3) := by decide +kernel
theorem dX2_joinToldOnes_63 : decode cX2_joinToldOnes 63 = .ok (.aload_n 0, 1) := by decide +kernel
theorem dX2_joinToldOnes_64 : decode cX2_joinToldOnes 64 = .ok (.aload 4, 2) := by decide +kernel
theorem dX2_joinToldOnes_66 : decode cX2_joinToldOnes 66 = .ok (.getfield 97, 3) := by decide +kernel
theorem dX2_joinToldOnes_69 : decode cX2_joinToldOnes 69 = .ok (.aaload, 1) := by decide +kernel
theorem dX2_joinToldOnes_70 : decode cX2_joinToldOnes 70 = .ok (.invokevirtual 30, 3) := by decide +kernel
theorem dX2_joinToldOnes_73 : decode cX2_joinToldOnes 73 = .ok (.ifCond .eq 20, 3) := by decide +kernel
theorem dX2_joinToldOnes_76 : decode cX2_joinToldOnes 76 = .ok (.aload_n 0, 1) := by decide +kernel
theorem dX2_joinToldOnes_77 : decode cX2_joinToldOnes 77 = .ok (.aload 4, 2) := by decide +kernel
theorem dX2_joinToldOnes_79 : decode cX2_joinToldOnes 79 = .ok (.getfield 94, 3) := by decide +kernel
theorem dX2_joinToldOnes_82 : decode cX2_joinToldOnes 82 = .ok (.aaload, 1) := by decide +kernel
theorem dX2_joinToldOnes_83 : decode cX2_joinToldOnes 83 = .ok (.aload_n 0, 1) := by decide +kernel
theorem dX2_joinToldOnes_84 : decode cX2_joinToldOnes 84 = .ok (.aload 4, 2) := by decide +kernel
theorem dX2_joinToldOnes_86 : decode cX2_joinToldOnes 86 = .ok (.getfield 97, 3) := by decide +kernel
theorem dX2_joinToldOnes_89 : decode cX2_joinToldOnes 89 = .ok (.aaload, 1) := by decide +kernel
theorem dX2_joinToldOnes_90 : decode cX2_joinToldOnes 90 = .ok (.invokevirtual 79, 3) := by decide +kernel
theorem dX2_joinToldOnes_93 : decode cX2_joinToldOnes 93 = .ok (.iinc 3 1, 3) := by decide +kernel
theorem dX2_joinToldOnes_96 : decode cX2_joinToldOnes 96 = .ok (.goto (-94), 3) := by decide +kernel
theorem dX2_joinToldOnes_99 : decode cX2_joinToldOnes 99 = .ok (.return_, 1) := by decide +kernel
set_option maxRecDepth 20000 in
theorem ggX2_fillCases_X0_isLive : GoodIn wsX2_fillCases wsX0_isLive := goodIn_r _ [7, 8, 9, 10, 6, 11, 12, 13, 14, 15, 16, 17, 18, 60, 61, 62, 63, 64, 65, 66, 67, 68, 69, 70, 71, 72, 73, 74, 75, 76] (by decide +kernel) (by decide +kernel)
set_option maxRecDepth 20000 in
theorem gX2_fillCases_X0_isLive : GoodIn wsX2_fillCases (wsV RX2 30 RX0 yX0_isLive wsX0_isLive) := goodIn_app (goodIn_of _ (by decide +kernel)) ggX2_fillCases_X0_isLive
set_option maxRecDepth 20000 in
theorem ggX2_fillCases_X0_head : GoodIn wsX2_fillCases wsX0_head := goodIn_r _ [22, 23, 60, 61, 62, 63, 64, 65, 66, 67, 68, 69, 70, 71, 72, 73, 74, 75, 76] (by decide +kernel) (by decide +kernel)
set_option maxRecDepth 20000 in
theorem gX2_fillCases_X0_head : GoodIn wsX2_fillCases (wsV RX2 67 RX0 yX0_head wsX0_head) := goodIn_app (goodIn_of _ (by decide +kernel)) ggX2_fillCases_X0_head
set_option maxRecDepth 20000 in
theorem ggX2_fillCases_X0_score : GoodIn wsX2_fillCases wsX0_score := goodIn_r _ [27, 28, 29, 30, 31, 6, 32, 33, 34, 35, 36, 37, 38, 39, 40, 41, 42, 43, 44, 45, 46, 60, 61, 62, 63, 64, 65, 66, 67, 68, 69, 70, 71, 72, 73, 74, 75, 76, 77, 78, 79, 80, 81, 82, 83, 84] (by decide +kernel) (by decide +kernel)
set_option maxRecDepth 20000 in
theorem gX2_fillCases_X0_score : GoodIn wsX2_fillCases (wsV RX2 100 RX0 yX0_score wsX0_score) := goodIn_app (goodIn_of _ (by decide +kernel)) ggX2_fillCases_X0_score
set_option maxRecDepth 20000 in
theorem ggX2_fillCases_X0_nodeFor : GoodIn wsX2_fillCases wsX0_nodeFor := goodIn_r _ [32, 33, 34, 35, 60, 61, 62, 63, 64, 65, 66, 67, 68, 69, 70, 71, 72, 73, 74, 75, 76, 77, 78, 79, 80, 81, 82, 83, 84] (by decide +kernel) (by decide +kernel)
set_option maxRecDepth 20000 in
theorem gX2_fillCases_X0_nodeFor : GoodIn wsX2_fillCases (wsV RX2 103 RX0 yX0_nodeFor wsX0_nodeFor) := goodIn_app (goodIn_of _ (by decide +kernel)) ggX2_fillCases_X0_nodeFor
set_option maxRecDepth 20000 in
theorem ggX2_fillCases_X1_add : GoodIn wsX2_fillCases wsX1_add := goodIn_r _ [52, 53, 54, 55, 56, 57, 58, 59, 85, 86, 87, 88] (by decide +kernel) (by decide +kernel)
set_option maxRecDepth 20000 in
theorem gX2_fillCases_X1_add : GoodIn wsX2_fillCases (wsV RX2 112 RX1 yX1_add wsX1_add) := goodIn_app (goodIn_of _ (by decide +kernel)) ggX2_fillCases_X1_add
theorem dX2_fillCases_0 : decode cX2_fillCases 0 = .ok (.iconst 0, 1) := by decide +kernel
theorem dX2_fillCases_1 : decode cX2_fillCases 1 = .ok (.istore_n 3, 1) := by decide +kernel
theorem dX2_fillCases_2 : decode cX2_fillCases 2 = .ok (.iload_n 3, 1) := by decide +kernel
theorem dX2_fillCases_3 : decode cX2_fillCases 3 = .ok (.iload_n 1, 1) := by decide +kernel
theorem dX2_fillCases_4 : decode cX2_fillCases 4 = .ok (.if_icmp .ge 48, 3) := by decide +kernel
theorem dX2_fillCases_7 : decode cX2_fillCases 7 = .ok (.aload_n 0, 1) := by decide +kernel
theorem dX2_fillCases_8 : decode cX2_fillCases 8 = .ok (.iload_n 3, 1) := by decide +kernel
theorem dX2_fillCases_9 : decode cX2_fillCases 9 = .ok (.aaload, 1) := by decide +kernel
theorem dX2_fillCases_10 : decode cX2_fillCases 10 = .ok (.astore 4, 2) := by decide +kernel
theorem dX2_fillCases_12 : decode cX2_fillCases 12 = .ok (.aload 4, 2) := by decide +kernel
theorem dX2_fillCases_14 : decode cX2_fillCases 14 = .ok (.invokevirtual 30, 3) := by decide +kernel
theorem dX2_fillCases_17 : decode cX2_fillCases 17 = .ok (.ifCond .eq 29, 3) := by decide +kernel
theorem dX2_fillCases_20 : decode cX2_fillCases 20 = .ok (.aload 4, 2) := by decide +kernel
theorem dX2_fillCases_22 : decode cX2_fillCases 22 = .ok (.invokevirtual 67, 3) := by decide +kernel
theorem dX2_fillCases_25 : decode cX2_fillCases 25 = .ok (.getfield 23, 3) := by decide +kernel
theorem dX2_fillCases_28 : decode cX2_fillCases 28 = .ok (.aload 4, 2) := by decide +kernel
theorem dX2_fillCases_30 : decode cX2_fillCases 30 = .ok (.iload_n 2, 1) := by decide +kernel
theorem dX2_fillCases_31 : decode cX2_fillCases 31 = .ok (.invokevirtual 100, 3) := by decide +kernel
theorem dX2_fillCases_34 : decode cX2_fillCases 34 = .ok (.aload 4, 2) := by decide +kernel
theorem dX2_fillCases_36 : decode cX2_fillCases 36 = .ok (.iload_n 2, 1) := by decide +kernel
theorem dX2_fillCases_37 : decode cX2_fillCases 37 = .ok (.invokevirtual 103, 3) := by decide +kernel
theorem dX2_fillCases_40 : decode cX2_fillCases 40 = .ok (.getfield 107, 3) := by decide +kernel
theorem dX2_fillCases_43 : decode cX2_fillCases 43 = .ok (.invokevirtual 112, 3) := by decide +kernel
theorem dX2_fillCases_46 : decode cX2_fillCases 46 = .ok (.iinc 3 1, 3) := by decide +kernel
theorem dX2_fillCases_49 : decode cX2_fillCases 49 = .ok (.goto (-47), 3) := by decide +kernel
theorem dX2_fillCases_52 : decode cX2_fillCases 52 = .ok (.return_, 1) := by decide +kernel
set_option maxRecDepth 20000 in
theorem ggX2_putInOrder_X2_putInPlace : GoodIn wsX2_putInOrder wsX2_putInPlace := goodIn_r _ [8, 1, 9, 10, 11, 12, 13, 14, 15, 16, 17, 18, 36, 37, 38, 39] (by decide +kernel) (by decide +kernel)
set_option maxRecDepth 20000 in
theorem gX2_putInOrder_X2_putInPlace : GoodIn wsX2_putInOrder (wsV RX2 117 RX2 yX2_putInPlace wsX2_putInPlace) := goodIn_app (goodIn_of _ (by decide +kernel)) ggX2_putInOrder_X2_putInPlace
theorem dX2_putInOrder_0 : decode cX2_putInOrder 0 = .ok (.aload_n 0, 1) := by decide +kernel
theorem dX2_putInOrder_1 : decode cX2_putInOrder 1 = .ok (.iconst 0, 1) := by decide +kernel
theorem dX2_putInOrder_2 : decode cX2_putInOrder 2 = .ok (.putfield 50, 3) := by decide +kernel
theorem dX2_putInOrder_5 : decode cX2_putInOrder 5 = .ok (.iconst 0, 1) := by decide +kernel
theorem dX2_putInOrder_6 : decode cX2_putInOrder 6 = .ok (.istore_n 3, 1) := by decide +kernel
theorem dX2_putInOrder_7 : decode cX2_putInOrder 7 = .ok (.iload_n 3, 1) := by decide +kernel
theorem dX2_putInOrder_8 : decode cX2_putInOrder 8 = .ok (.iload_n 2, 1) := by decide +kernel
theorem dX2_putInOrder_9 : decode cX2_putInOrder 9 = .ok (.if_icmp .ge 31, 3) := by decide +kernel
theorem dX2_putInOrder_12 : decode cX2_putInOrder 12 = .ok (.aload_n 1, 1) := by decide +kernel
theorem dX2_putInOrder_13 : decode cX2_putInOrder 13 = .ok (.iload_n 3, 1) := by decide +kernel
theorem dX2_putInOrder_14 : decode cX2_putInOrder 14 = .ok (.aaload, 1) := by decide +kernel
theorem dX2_putInOrder_15 : decode cX2_putInOrder 15 = .ok (.getfield 23, 3) := by decide +kernel
theorem dX2_putInOrder_18 : decode cX2_putInOrder 18 = .ok (.getfield 116, 3) := by decide +kernel
theorem dX2_putInOrder_21 : decode cX2_putInOrder 21 = .ok (.ifCond .le 13, 3) := by decide +kernel
theorem dX2_putInOrder_24 : decode cX2_putInOrder 24 = .ok (.aload_n 0, 1) := by decide +kernel
theorem dX2_putInOrder_25 : decode cX2_putInOrder 25 = .ok (.aload_n 1, 1) := by decide +kernel
theorem dX2_putInOrder_26 : decode cX2_putInOrder 26 = .ok (.iload_n 3, 1) := by decide +kernel
theorem dX2_putInOrder_27 : decode cX2_putInOrder 27 = .ok (.aaload, 1) := by decide +kernel
theorem dX2_putInOrder_28 : decode cX2_putInOrder 28 = .ok (.getfield 23, 3) := by decide +kernel
theorem dX2_putInOrder_31 : decode cX2_putInOrder 31 = .ok (.invokevirtual 117, 3) := by decide +kernel
theorem dX2_putInOrder_34 : decode cX2_putInOrder 34 = .ok (.iinc 3 1, 3) := by decide +kernel
theorem dX2_putInOrder_37 : decode cX2_putInOrder 37 = .ok (.goto (-30), 3) := by decide +kernel
theorem dX2_putInOrder_40 : decode cX2_putInOrder 40 = .ok (.return_, 1) := by decide +kernel
set_option maxRecDepth 20000 in
theorem ggX2_putInPlace_X1_isAheadOf : GoodIn wsX2_putInPlace wsX1_isAheadOf := goodIn_r _ [7, 8, 9, 12, 13, 14, 15] (by decide +kernel) (by decide +kernel)
set_option maxRecDepth 20000 in
theorem gX2_putInPlace_X1_isAheadOf : GoodIn wsX2_putInPlace (wsV RX2 121 RX1 yX1_isAheadOf wsX1_isAheadOf) := goodIn_app (goodIn_of _ (by decide +kernel)) ggX2_putInPlace_X1_isAheadOf
theorem dX2_putInPlace_0 : decode cX2_putInPlace 0 = .ok (.aload_n 0, 1) := by decide +kernel
theorem dX2_putInPlace_1 : decode cX2_putInPlace 1 = .ok (.getfield 50, 3) := by decide +kernel
theorem dX2_putInPlace_4 : decode cX2_putInPlace 4 = .ok (.aload_n 0, 1) := by decide +kernel
theorem dX2_putInPlace_5 : decode cX2_putInPlace 5 = .ok (.getfield 11, 3) := by decide +kernel
theorem dX2_putInPlace_8 : decode cX2_putInPlace 8 = .ok (.arraylength, 1) := by decide +kernel
theorem dX2_putInPlace_9 : decode cX2_putInPlace 9 = .ok (.if_icmp .lt 4, 3) := by decide +kernel
theorem dX2_putInPlace_12 : decode cX2_putInPlace 12 = .ok (.return_, 1) := by decide +kernel
theorem dX2_putInPlace_13 : decode cX2_putInPlace 13 = .ok (.aload_n 0, 1) := by decide +kernel
theorem dX2_putInPlace_14 : decode cX2_putInPlace 14 = .ok (.getfield 50, 3) := by decide +kernel
theorem dX2_putInPlace_17 : decode cX2_putInPlace 17 = .ok (.istore_n 2, 1) := by decide +kernel
theorem dX2_putInPlace_18 : decode cX2_putInPlace 18 = .ok (.iload_n 2, 1) := by decide +kernel
theorem dX2_putInPlace_19 : decode cX2_putInPlace 19 = .ok (.ifCond .le 38, 3) := by decide +kernel
theorem dX2_putInPlace_22 : decode cX2_putInPlace 22 = .ok (.aload_n 1, 1) := by decide +kernel
theorem dX2_putInPlace_23 : decode cX2_putInPlace 23 = .ok (.aload_n 0, 1) := by decide +kernel
theorem dX2_putInPlace_24 : decode cX2_putInPlace 24 = .ok (.getfield 11, 3) := by decide +kernel
theorem dX2_putInPlace_27 : decode cX2_putInPlace 27 = .ok (.iload_n 2, 1) := by decide +kernel
theorem dX2_putInPlace_28 : decode cX2_putInPlace 28 = .ok (.iconst 1, 1) := by decide +kernel
theorem dX2_putInPlace_29 : decode cX2_putInPlace 29 = .ok (.isub, 1) := by decide +kernel
theorem dX2_putInPlace_30 : decode cX2_putInPlace 30 = .ok (.aaload, 1) := by decide +kernel
theorem dX2_putInPlace_31 : decode cX2_putInPlace 31 = .ok (.invokevirtual 121, 3) := by decide +kernel
theorem dX2_putInPlace_34 : decode cX2_putInPlace 34 = .ok (.ifCond .eq 23, 3) := by decide +kernel
theorem dX2_putInPlace_37 : decode cX2_putInPlace 37 = .ok (.aload_n 0, 1) := by decide +kernel
theorem dX2_putInPlace_38 : decode cX2_putInPlace 38 = .ok (.getfield 11, 3) := by decide +kernel
theorem dX2_putInPlace_41 : decode cX2_putInPlace 41 = .ok (.iload_n 2, 1) := by decide +kernel
theorem dX2_putInPlace_42 : decode cX2_putInPlace 42 = .ok (.aload_n 0, 1) := by decide +kernel
theorem dX2_putInPlace_43 : decode cX2_putInPlace 43 = .ok (.getfield 11, 3) := by decide +kernel
theorem dX2_putInPlace_46 : decode cX2_putInPlace 46 = .ok (.iload_n 2, 1) := by decide +kernel
theorem dX2_putInPlace_47 : decode cX2_putInPlace 47 = .ok (.iconst 1, 1) := by decide +kernel
theorem dX2_putInPlace_48 : decode cX2_putInPlace 48 = .ok (.isub, 1) := by decide +kernel
theorem dX2_putInPlace_49 : decode cX2_putInPlace 49 = .ok (.aaload, 1) := by decide +kernel
theorem dX2_putInPlace_50 : decode cX2_putInPlace 50 = .ok (.aastore, 1) := by decide +kernel
theorem dX2_putInPlace_51 : decode cX2_putInPlace 51 = .ok (.iinc 2 (-1), 3) := by decide +kernel
theorem dX2_putInPlace_54 : decode cX2_putInPlace 54 = .ok (.goto (-36), 3) := by decide +kernel
theorem dX2_putInPlace_57 : decode cX2_putInPlace 57 = .ok (.aload_n 0, 1) := by decide +kernel
theorem dX2_putInPlace_58 : decode cX2_putInPlace 58 = .ok (.getfield 11, 3) := by decide +kernel
theorem dX2_putInPlace_61 : decode cX2_putInPlace 61 = .ok (.iload_n 2, 1) := by decide +kernel
theorem dX2_putInPlace_62 : decode cX2_putInPlace 62 = .ok (.aload_n 1, 1) := by decide +kernel
theorem dX2_putInPlace_63 : decode cX2_putInPlace 63 = .ok (.aastore, 1) := by decide +kernel
theorem dX2_putInPlace_64 : decode cX2_putInPlace 64 = .ok (.aload_n 0, 1) := by decide +kernel
theorem dX2_putInPlace_65 : decode cX2_putInPlace 65 = .ok (.dup, 1) := by decide +kernel
theorem dX2_putInPlace_66 : decode cX2_putInPlace 66 = .ok (.getfield 50, 3) := by decide +kernel
theorem dX2_putInPlace_69 : decode cX2_putInPlace 69 = .ok (.iconst 1, 1) := by decide +kernel
theorem dX2_putInPlace_70 : decode cX2_putInPlace 70 = .ok (.iadd, 1) := by decide +kernel
theorem dX2_putInPlace_71 : decode cX2_putInPlace 71 = .ok (.putfield 50, 3) := by decide +kernel
theorem dX2_putInPlace_74 : decode cX2_putInPlace 74 = .ok (.return_, 1) := by decide +kernel
