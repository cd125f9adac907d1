set_option maxRecDepth 20000 in
theorem ggX8_node_X8_isBelow : GoodIn wsX8_node wsX8_isBelow := goodIn_r _ [8] (by decide +kernel) (by decide +kernel)
set_option maxRecDepth 20000 in
theorem gX8_node_X8_isBelow : GoodIn wsX8_node (va_wsS RX8 64 yX8_isBelow wsX8_isBelow) := goodIn_app (goodIn_of _ (by decide +kernel)) ggX8_node_X8_isBelow
set_option maxRecDepth 20000 in
theorem ggX8_node_X3_find : GoodIn wsX8_node wsX3_find := goodIn_r _ [13, 14, 15, 12, 16, 17, 18, 19, 20, 21, 22, 23, 38, 39, 40, 41, 42, 43, 44, 45] (by decide +kernel) (by decide +kernel)
set_option maxRecDepth 20000 in
theorem gX8_node_X3_find : GoodIn wsX8_node (wsV RX8 191 RX3 yX3_find wsX3_find) := goodIn_app (goodIn_of _ (by decide +kernel)) ggX8_node_X3_find
theorem dX8_node_0 : decode cX8_node 0 = .ok (.iload_n 1, 1) := by decide +kernel
theorem dX8_node_1 : decode cX8_node 1 = .ok (.ifCond .lt 27, 3) := by decide +kernel
theorem dX8_node_4 : decode cX8_node 4 = .ok (.iload_n 1, 1) := by decide +kernel
theorem dX8_node_5 : decode cX8_node 5 = .ok (.iconst 4, 1) := by decide +kernel
theorem dX8_node_6 : decode cX8_node 6 = .ok (.if_icmp .gt 22, 3) := by decide +kernel
theorem dX8_node_9 : decode cX8_node 9 = .ok (.iload_n 2, 1) := by decide +kernel
theorem dX8_node_10 : decode cX8_node 10 = .ok (.sipush 4096, 3) := by decide +kernel
theorem dX8_node_13 : decode cX8_node 13 = .ok (.invokestatic 64, 3) := by decide +kernel
theorem dX8_node_16 : decode cX8_node 16 = .ok (.ifCond .eq 12, 3) := by decide +kernel
theorem dX8_node_19 : decode cX8_node 19 = .ok (.iload_n 3, 1) := by decide +kernel
theorem dX8_node_20 : decode cX8_node 20 = .ok (.ifCond .lt 8, 3) := by decide +kernel
theorem dX8_node_23 : decode cX8_node 23 = .ok (.iload_n 3, 1) := by decide +kernel
theorem dX8_node_24 : decode cX8_node 24 = .ok (.iconst 2, 1) := by decide +kernel
theorem dX8_node_25 : decode cX8_node 25 = .ok (.if_icmp .le 5, 3) := by decide +kernel
theorem dX8_node_28 : decode cX8_node 28 = .ok (.iconst (-1), 1) := by decide +kernel
theorem dX8_node_29 : decode cX8_node 29 = .ok (.ireturn, 1) := by decide +kernel
theorem dX8_node_30 : decode cX8_node 30 = .ok (.aload_n 0, 1) := by decide +kernel
theorem dX8_node_31 : decode cX8_node 31 = .ok (.getfield 29, 3) := by decide +kernel
theorem dX8_node_34 : decode cX8_node 34 = .ok (.iload_n 1, 1) := by decide +kernel
theorem dX8_node_35 : decode cX8_node 35 = .ok (.iload_n 2, 1) := by decide +kernel
theorem dX8_node_36 : decode cX8_node 36 = .ok (.invokevirtual 191, 3) := by decide +kernel
theorem dX8_node_39 : decode cX8_node 39 = .ok (.astore 4, 2) := by decide +kernel
theorem dX8_node_41 : decode cX8_node 41 = .ok (.aload 4, 2) := by decide +kernel
theorem dX8_node_43 : decode cX8_node 43 = .ok (.ifnonnull 5, 3) := by decide +kernel
theorem dX8_node_46 : decode cX8_node 46 = .ok (.iconst 0, 1) := by decide +kernel
theorem dX8_node_47 : decode cX8_node 47 = .ok (.ireturn, 1) := by decide +kernel
theorem dX8_node_48 : decode cX8_node 48 = .ok (.iload_n 3, 1) := by decide +kernel
theorem dX8_node_49 : decode cX8_node 49 = .ok (.lookupswitch 39 #[(0, 27), (1, 33)], 27) := by decide +kernel
theorem dX8_node_76 : decode cX8_node 76 = .ok (.aload 4, 2) := by decide +kernel
theorem dX8_node_78 : decode cX8_node 78 = .ok (.getfield 195, 3) := by decide +kernel
theorem dX8_node_81 : decode cX8_node 81 = .ok (.ireturn, 1) := by decide +kernel
theorem dX8_node_82 : decode cX8_node 82 = .ok (.aload 4, 2) := by decide +kernel
theorem dX8_node_84 : decode cX8_node 84 = .ok (.getfield 198, 3) := by decide +kernel
theorem dX8_node_87 : decode cX8_node 87 = .ok (.ireturn, 1) := by decide +kernel
theorem dX8_node_88 : decode cX8_node 88 = .ok (.aload 4, 2) := by decide +kernel
theorem dX8_node_90 : decode cX8_node 90 = .ok (.getfield 201, 3) := by decide +kernel
theorem dX8_node_93 : decode cX8_node 93 = .ok (.ireturn, 1) := by decide +kernel
set_option maxRecDepth 20000 in
theorem ggX8_odds_X8_alarmAt : GoodIn wsX8_odds wsX8_alarmAt := goodIn_r _ [9, 10, 11, 12, 13, 8, 14, 37, 38, 39, 40, 41, 42, 43, 44, 45, 46, 47, 48, 49, 50] (by decide +kernel) (by decide +kernel)
set_option maxRecDepth 20000 in
theorem gX8_odds_X8_alarmAt : GoodIn wsX8_odds (wsV RX8 125 RX8 yX8_alarmAt wsX8_alarmAt) := goodIn_app (goodIn_of _ (by decide +kernel)) ggX8_odds_X8_alarmAt
set_option maxRecDepth 20000 in
theorem ggX8_odds_X0_nodeFor : GoodIn wsX8_odds wsX0_nodeFor := goodIn_r _ [19, 20, 21, 22, 59, 60, 61, 62, 63, 64, 65, 66, 67, 68, 69, 70, 71, 72, 73, 74, 75, 51, 52, 53, 54, 55, 56, 57, 58] (by decide +kernel) (by decide +kernel)
set_option maxRecDepth 20000 in
theorem gX8_odds_X0_nodeFor : GoodIn wsX8_odds (wsV RX8 177 RX0 yX0_nodeFor wsX0_nodeFor) := goodIn_app (goodIn_of _ (by decide +kernel)) ggX8_odds_X0_nodeFor
set_option maxRecDepth 20000 in
theorem ggX8_odds_X3_oddsUpper : GoodIn wsX8_odds wsX3_oddsUpper := goodIn_r _ [27, 28, 29, 51, 52, 53, 54, 55, 56, 57, 58] (by decide +kernel) (by decide +kernel)
set_option maxRecDepth 20000 in
theorem gX8_odds_X3_oddsUpper : GoodIn wsX8_odds (wsV RX8 204 RX3 yX3_oddsUpper wsX3_oddsUpper) := goodIn_app (goodIn_of _ (by decide +kernel)) ggX8_odds_X3_oddsUpper
set_option maxRecDepth 20000 in
theorem ggX8_odds_X3_oddsLower : GoodIn wsX8_odds wsX3_oddsLower := goodIn_r _ [33, 28, 51, 52, 53, 54, 55, 56, 57, 58] (by decide +kernel) (by decide +kernel)
set_option maxRecDepth 20000 in
theorem gX8_odds_X3_oddsLower : GoodIn wsX8_odds (wsV RX8 207 RX3 yX3_oddsLower wsX3_oddsLower) := goodIn_app (goodIn_of _ (by decide +kernel)) ggX8_odds_X3_oddsLower
set_option maxRecDepth 20000 in
theorem ggX8_odds_X8_inLowestTerms : GoodIn wsX8_odds wsX8_inLowestTerms := goodIn_r _ [36] (by decide +kernel) (by decide +kernel)
set_option maxRecDepth 20000 in
theorem gX8_odds_X8_inLowestTerms : GoodIn wsX8_odds (va_wsS RX8 210 yX8_inLowestTerms wsX8_inLowestTerms) := goodIn_app (goodIn_of _ (by decide +kernel)) ggX8_odds_X8_inLowestTerms
theorem dX8_odds_0 : decode cX8_odds 0 = .ok (.aload_n 0, 1) := by decide +kernel
theorem dX8_odds_1 : decode cX8_odds 1 = .ok (.iload_n 1, 1) := by decide +kernel
theorem dX8_odds_2 : decode cX8_odds 2 = .ok (.invokevirtual 125, 3) := by decide +kernel
theorem dX8_odds_5 : decode cX8_odds 5 = .ok (.astore_n 3, 1) := by decide +kernel
theorem dX8_odds_6 : decode cX8_odds 6 = .ok (.aload_n 3, 1) := by decide +kernel
theorem dX8_odds_7 : decode cX8_odds 7 = .ok (.ifnull 12, 3) := by decide +kernel
theorem dX8_odds_10 : decode cX8_odds 10 = .ok (.iload_n 2, 1) := by decide +kernel
theorem dX8_odds_11 : decode cX8_odds 11 = .ok (.ifCond .lt 8, 3) := by decide +kernel
theorem dX8_odds_14 : decode cX8_odds 14 = .ok (.iload_n 2, 1) := by decide +kernel
theorem dX8_odds_15 : decode cX8_odds 15 = .ok (.iconst 5, 1) := by decide +kernel
theorem dX8_odds_16 : decode cX8_odds 16 = .ok (.if_icmp .le 5, 3) := by decide +kernel
theorem dX8_odds_19 : decode cX8_odds 19 = .ok (.iconst (-1), 1) := by decide +kernel
theorem dX8_odds_20 : decode cX8_odds 20 = .ok (.ireturn, 1) := by decide +kernel
theorem dX8_odds_21 : decode cX8_odds 21 = .ok (.aload_n 3, 1) := by decide +kernel
theorem dX8_odds_22 : decode cX8_odds 22 = .ok (.aload_n 0, 1) := by decide +kernel
theorem dX8_odds_23 : decode cX8_odds 23 = .ok (.getfield 58, 3) := by decide +kernel
theorem dX8_odds_26 : decode cX8_odds 26 = .ok (.invokevirtual 177, 3) := by decide +kernel
theorem dX8_odds_29 : decode cX8_odds 29 = .ok (.astore 4, 2) := by decide +kernel
theorem dX8_odds_31 : decode cX8_odds 31 = .ok (.iload_n 2, 1) := by decide +kernel
theorem dX8_odds_32 : decode cX8_odds 32 = .ok (.iconst 2, 1) := by decide +kernel
theorem dX8_odds_33 : decode cX8_odds 33 = .ok (.irem, 1) := by decide +kernel
theorem dX8_odds_34 : decode cX8_odds 34 = .ok (.ifCond .ne 7, 3) := by decide +kernel
theorem dX8_odds_37 : decode cX8_odds 37 = .ok (.iconst 1, 1) := by decide +kernel
theorem dX8_odds_38 : decode cX8_odds 38 = .ok (.goto 4, 3) := by decide +kernel
theorem dX8_odds_41 : decode cX8_odds 41 = .ok (.iconst 0, 1) := by decide +kernel
theorem dX8_odds_42 : decode cX8_odds 42 = .ok (.istore 5, 2) := by decide +kernel
theorem dX8_odds_44 : decode cX8_odds 44 = .ok (.iload_n 2, 1) := by decide +kernel
theorem dX8_odds_45 : decode cX8_odds 45 = .ok (.iconst 1, 1) := by decide +kernel
theorem dX8_odds_46 : decode cX8_odds 46 = .ok (.if_icmp .gt 19, 3) := by decide +kernel
theorem dX8_odds_49 : decode cX8_odds 49 = .ok (.aload 4, 2) := by decide +kernel
theorem dX8_odds_51 : decode cX8_odds 51 = .ok (.invokevirtual 204, 3) := by decide +kernel
theorem dX8_odds_54 : decode cX8_odds 54 = .ok (.aload 4, 2) := by decide +kernel
theorem dX8_odds_56 : decode cX8_odds 56 = .ok (.invokevirtual 207, 3) := by decide +kernel
theorem dX8_odds_59 : decode cX8_odds 59 = .ok (.iload 5, 2) := by decide +kernel
theorem dX8_odds_61 : decode cX8_odds 61 = .ok (.invokestatic 210, 3) := by decide +kernel
theorem dX8_odds_64 : decode cX8_odds 64 = .ok (.ireturn, 1) := by decide +kernel
theorem dX8_odds_65 : decode cX8_odds 65 = .ok (.iload_n 2, 1) := by decide +kernel
theorem dX8_odds_66 : decode cX8_odds 66 = .ok (.iconst 3, 1) := by decide +kernel
theorem dX8_odds_67 : decode cX8_odds 67 = .ok (.if_icmp .gt 11, 3) := by decide +kernel
theorem dX8_odds_70 : decode cX8_odds 70 = .ok (.aload 4, 2) := by decide +kernel
theorem dX8_odds_72 : decode cX8_odds 72 = .ok (.getfield 195, 3) := by decide +kernel
theorem dX8_odds_75 : decode cX8_odds 75 = .ok (.goto 14, 3) := by decide +kernel
theorem dX8_odds_78 : decode cX8_odds 78 = .ok (.aload 4, 2) := by decide +kernel
theorem dX8_odds_80 : decode cX8_odds 80 = .ok (.getfield 195, 3) := by decide +kernel
theorem dX8_odds_83 : decode cX8_odds 83 = .ok (.aload 4, 2) := by decide +kernel
theorem dX8_odds_85 : decode cX8_odds 85 = .ok (.getfield 201, 3) := by decide +kernel
theorem dX8_odds_88 : decode cX8_odds 88 = .ok (.iadd, 1) := by decide +kernel
theorem dX8_odds_89 : decode cX8_odds 89 = .ok (.istore 6, 2) := by decide +kernel
theorem dX8_odds_91 : decode cX8_odds 91 = .ok (.iload 6, 2) := by decide +kernel
theorem dX8_odds_93 : decode cX8_odds 93 = .ok (.aload 4, 2) := by decide +kernel
theorem dX8_odds_95 : decode cX8_odds 95 = .ok (.getfield 198, 3) := by decide +kernel
theorem dX8_odds_98 : decode cX8_odds 98 = .ok (.aload 4, 2) := by decide +kernel
theorem dX8_odds_100 : decode cX8_odds 100 = .ok (.getfield 201, 3) := by decide +kernel
theorem dX8_odds_103 : decode cX8_odds 103 = .ok (.iadd, 1) := by decide +kernel
theorem dX8_odds_104 : decode cX8_odds 104 = .ok (.iload 5, 2) := by decide +kernel
theorem dX8_odds_106 : decode cX8_odds 106 = .ok (.invokestatic 210, 3) := by decide +kernel
theorem dX8_odds_109 : decode cX8_odds 109 = .ok (.ireturn, 1) := by decide +kernel
set_option maxRecDepth 20000 in
theorem ggX8_order_X8_casesNow : GoodIn wsX8_order wsX8_casesNow := goodIn_r _ [6, 7, 8, 9, 10, 11, 12, 13, 14, 15, 16, 17, 18, 19, 20, 21, 22, 23, 24, 25, 26, 27, 28, 29, 30, 31, 32, 33, 34, 35, 36, 37, 38, 39, 40, 41, 42, 43, 44, 45, 46, 47, 48, 49, 50, 51, 52, 53, 54, 55, 56, 57, 58, 59, 60, 61, 62, 63, 64, 65, 66, 67, 68, 69, 70, 71, 72, 73, 74, 75, 76, 77, 78, 79, 80, 81, 82, 83, 84, 85, 86, 87, 88, 89, 90, 5, 91, 92, 93, 94, 95, 96, 97, 98, 99, 100, 101, 102, 103, 104, 105, 106, 107, 108, 109, 110, 111, 112, 113, 114, 115, 116, 117, 118, 119, 120, 121, 122, 123, 124, 125, 126, 127, 128, 129, 130, 131, 132, 133, 134, 135, 136, 137, 138, 139, 140, 149, 150, 151, 152, 153, 154, 155, 156, 157, 158, 159, 160, 161, 162, 163, 164, 165, 166, 167, 168, 169, 170, 171, 172, 173, 174, 175, 176, 177, 178, 179, 145, 146, 147, 148, 180, 181, 182, 183, 184, 185, 186, 187, 188, 189, 190, 191, 192, 193, 194] (by decide +kernel) (by decide +kernel)
set_option maxRecDepth 20000 in
theorem gX8_order_X8_casesNow : GoodIn wsX8_order (wsV RX8 214 RX8 yX8_casesNow wsX8_casesNow) := goodIn_app (goodIn_of _ (by decide +kernel)) ggX8_order_X8_casesNow
set_option maxRecDepth 20000 in
theorem ggX8_order_X2_at : GoodIn wsX8_order wsX2_at := goodIn_r _ [144, 129, 135, 90, 5, 91, 193, 194] (by decide +kernel) (by decide +kernel)
set_option maxRecDepth 20000 in
theorem gX8_order_X2_at : GoodIn wsX8_order (wsV RX8 218 RX2 yX2_at wsX2_at) := goodIn_app (goodIn_of _ (by decide +kernel)) ggX8_order_X2_at
theorem dX8_order_0 : decode cX8_order 0 = .ok (.aload_n 0, 1) := by decide +kernel
theorem dX8_order_1 : decode cX8_order 1 = .ok (.invokevirtual 214, 3) := by decide +kernel
theorem dX8_order_4 : decode cX8_order 4 = .ok (.iload_n 1, 1) := by decide +kernel
theorem dX8_order_5 : decode cX8_order 5 = .ok (.invokevirtual 218, 3) := by decide +kernel
theorem dX8_order_8 : decode cX8_order 8 = .ok (.astore_n 2, 1) := by decide +kernel
theorem dX8_order_9 : decode cX8_order 9 = .ok (.aload_n 2, 1) := by decide +kernel
theorem dX8_order_10 : decode cX8_order 10 = .ok (.ifnonnull 7, 3) := by decide +kernel
theorem dX8_order_13 : decode cX8_order 13 = .ok (.iconst (-1), 1) := by decide +kernel
theorem dX8_order_14 : decode cX8_order 14 = .ok (.goto 7, 3) := by decide +kernel
theorem dX8_order_17 : decode cX8_order 17 = .ok (.aload_n 2, 1) := by decide +kernel
theorem dX8_order_18 : decode cX8_order 18 = .ok (.getfield 222, 3) := by decide +kernel
theorem dX8_order_21 : decode cX8_order 21 = .ok (.ireturn, 1) := by decide +kernel
set_option maxRecDepth 20000 in
theorem ggX8_caseOf_X8_casesNow : GoodIn wsX8_caseOf wsX8_casesNow := goodIn_r _ [10, 11, 12, 13, 14, 15, 16, 17, 18, 19, 20, 21, 22, 23, 24, 25, 26, 27, 28, 29, 30, 31, 32, 33, 34, 35, 36, 37, 38, 39, 40, 41, 42, 43, 44, 45, 46, 47, 48, 49, 50, 51, 52, 53, 54, 55, 56, 57, 58, 59, 60, 61, 62, 63, 64, 65, 66, 67, 68, 69, 70, 71, 72, 73, 74, 75, 76, 77, 78, 79, 80, 81, 82, 83, 84, 85, 86, 87, 88, 89, 90, 91, 92, 93, 94, 9, 95, 96, 97, 98, 99, 100, 101, 102, 103, 104, 105, 106, 107, 108, 109, 110, 111, 112, 113, 114, 115, 116, 117, 118, 119, 120, 121, 122, 123, 124, 125, 126, 127, 128, 129, 130, 131, 132, 133, 134, 135, 136, 137, 138, 139, 140, 141, 142, 143, 144, 185, 186, 187, 188, 189, 190, 191, 192, 193, 194, 195, 196, 197, 198, 164, 165, 166, 167, 168, 169, 170, 171, 172, 173, 174, 175, 176, 177, 178, 179, 180, 181, 182, 183, 184, 199, 200, 201, 202, 203, 204, 205, 206, 207, 208, 209, 210, 211, 212, 213] (by decide +kernel) (by decide +kernel)
set_option maxRecDepth 20000 in
theorem gX8_caseOf_X8_casesNow : GoodIn wsX8_caseOf (wsV RX8 214 RX8 yX8_casesNow wsX8_casesNow) := goodIn_app (goodIn_of _ (by decide +kernel)) ggX8_caseOf_X8_casesNow
set_option maxRecDepth 20000 in
theorem ggX8_caseOf_X8_alarmAt : GoodIn wsX8_caseOf wsX8_alarmAt := goodIn_r _ [148, 14, 13, 149, 94, 9, 95, 185, 186, 187, 188, 189, 190, 191, 192, 193, 194, 195, 196, 197, 198] (by decide +kernel) (by decide +kernel)
set_option maxRecDepth 20000 in
theorem gX8_caseOf_X8_alarmAt : GoodIn wsX8_caseOf (wsV RX8 125 RX8 yX8_alarmAt wsX8_alarmAt) := goodIn_app (goodIn_of _ (by decide +kernel)) ggX8_caseOf_X8_alarmAt
set_option maxRecDepth 20000 in
theorem ggX8_caseOf_X0_isLive : GoodIn wsX8_caseOf wsX0_isLive := goodIn_r _ [36, 37, 38, 39, 35, 40, 41, 42, 43, 44, 45, 46, 47, 164, 165, 166, 167, 168, 169, 170, 171, 172, 173, 174, 175, 176, 177, 178, 179, 180] (by decide +kernel) (by decide +kernel)
set_option maxRecDepth 20000 in
theorem gX8_caseOf_X0_isLive : GoodIn wsX8_caseOf (wsV RX8 225 RX0 yX0_isLive wsX0_isLive) := goodIn_app (goodIn_of _ (by decide +kernel)) ggX8_caseOf_X0_isLive
set_option maxRecDepth 20000 in
theorem ggX8_caseOf_X1_minutes : GoodIn wsX8_caseOf wsX1_minutes := goodIn_r _ [154, 29, 181, 182, 183, 184] (by decide +kernel) (by decide +kernel)
set_option maxRecDepth 20000 in
theorem gX8_caseOf_X1_minutes : GoodIn wsX8_caseOf (wsV RX8 240 RX1 yX1_minutes wsX1_minutes) := goodIn_app (goodIn_of _ (by decide +kernel)) ggX8_caseOf_X1_minutes
set_option maxRecDepth 20000 in
theorem ggX8_caseOf_X8_oneIf : GoodIn wsX8_caseOf wsX8_oneIf := goodIn_r _ [157] (by decide +kernel) (by decide +kernel)
set_option maxRecDepth 20000 in
theorem gX8_caseOf_X8_oneIf : GoodIn wsX8_caseOf (va_wsS RX8 169 yX8_oneIf wsX8_oneIf) := goodIn_app (goodIn_of _ (by decide +kernel)) ggX8_caseOf_X8_oneIf
set_option maxRecDepth 20000 in
theorem ggX8_caseOf_X8_memberOf : GoodIn wsX8_caseOf wsX8_memberOf := goodIn_r _ [161, 162, 14, 13, 150, 33, 34, 35, 36, 37, 38, 39, 40, 41, 42, 43, 44, 45, 46, 47, 163, 55, 56, 57, 58, 164, 165, 166, 167, 168, 169, 170, 171, 172, 173, 174, 175, 176, 177, 178, 179, 180, 185, 186, 187, 188, 189, 190, 191, 192, 193, 194, 195, 196, 197, 198] (by decide +kernel) (by decide +kernel)
set_option maxRecDepth 20000 in
theorem gX8_caseOf_X8_memberOf : GoodIn wsX8_caseOf (wsV RX8 246 RX8 yX8_memberOf wsX8_memberOf) := goodIn_app (goodIn_of _ (by decide +kernel)) ggX8_caseOf_X8_memberOf
theorem dX8_caseOf_0 : decode cX8_caseOf 0 = .ok (.aload_n 0, 1) := by decide +kernel
theorem dX8_caseOf_1 : decode cX8_caseOf 1 = .ok (.invokevirtual 214, 3) := by decide +kernel
theorem dX8_caseOf_4 : decode cX8_caseOf 4 = .ok (.pop, 1) := by decide +kernel
theorem dX8_caseOf_5 : decode cX8_caseOf 5 = .ok (.aload_n 0, 1) := by decide +kernel
theorem dX8_caseOf_6 : decode cX8_caseOf 6 = .ok (.iload_n 1, 1) := by decide +kernel
theorem dX8_caseOf_7 : decode cX8_caseOf 7 = .ok (.invokevirtual 125, 3) := by decide +kernel
theorem dX8_caseOf_10 : decode cX8_caseOf 10 = .ok (.astore_n 3, 1) := by decide +kernel
theorem dX8_caseOf_11 : decode cX8_caseOf 11 = .ok (.aload_n 3, 1) := by decide +kernel
theorem dX8_caseOf_12 : decode cX8_caseOf 12 = .ok (.ifnull 17, 3) := by decide +kernel
theorem dX8_caseOf_15 : decode cX8_caseOf 15 = .ok (.aload_n 3, 1) := by decide +kernel
theorem dX8_caseOf_16 : decode cX8_caseOf 16 = .ok (.invokevirtual 225, 3) := by decide +kernel
theorem dX8_caseOf_19 : decode cX8_caseOf 19 = .ok (.ifCond .eq 10, 3) := by decide +kernel
theorem dX8_caseOf_22 : decode cX8_caseOf 22 = .ok (.aload_n 3, 1) := by decide +kernel
theorem dX8_caseOf_23 : decode cX8_caseOf 23 = .ok (.getfield 228, 3) := by decide +kernel
theorem dX8_caseOf_26 : decode cX8_caseOf 26 = .ok (.ifnull 5, 3) := by decide +kernel
theorem dX8_caseOf_29 : decode cX8_caseOf 29 = .ok (.iconst (-1), 1) := by decide +kernel
theorem dX8_caseOf_30 : decode cX8_caseOf 30 = .ok (.ireturn, 1) := by decide +kernel
theorem dX8_caseOf_31 : decode cX8_caseOf 31 = .ok (.iload_n 2, 1) := by decide +kernel
theorem dX8_caseOf_32 : decode cX8_caseOf 32 = .ok (.tableswitch 67 0 3 #[32, 40, 48, 56], 32) := by decide +kernel
theorem dX8_caseOf_64 : decode cX8_caseOf 64 = .ok (.aload_n 3, 1) := by decide +kernel
theorem dX8_caseOf_65 : decode cX8_caseOf 65 = .ok (.getfield 231, 3) := by decide +kernel
theorem dX8_caseOf_68 : decode cX8_caseOf 68 = .ok (.getfield 235, 3) := by decide +kernel
theorem dX8_caseOf_71 : decode cX8_caseOf 71 = .ok (.ireturn, 1) := by decide +kernel
theorem dX8_caseOf_72 : decode cX8_caseOf 72 = .ok (.aload_n 3, 1) := by decide +kernel
theorem dX8_caseOf_73 : decode cX8_caseOf 73 = .ok (.getfield 231, 3) := by decide +kernel
theorem dX8_caseOf_76 : decode cX8_caseOf 76 = .ok (.getfield 238, 3) := by decide +kernel
theorem dX8_caseOf_79 : decode cX8_caseOf 79 = .ok (.ireturn, 1) := by decide +kernel
theorem dX8_caseOf_80 : decode cX8_caseOf 80 = .ok (.aload_n 3, 1) := by decide +kernel
theorem dX8_caseOf_81 : decode cX8_caseOf 81 = .ok (.getfield 231, 3) := by decide +kernel
theorem dX8_caseOf_84 : decode cX8_caseOf 84 = .ok (.invokevirtual 240, 3) := by decide +kernel
theorem dX8_caseOf_87 : decode cX8_caseOf 87 = .ok (.ireturn, 1) := by decide +kernel
theorem dX8_caseOf_88 : decode cX8_caseOf 88 = .ok (.aload_n 3, 1) := by decide +kernel
theorem dX8_caseOf_89 : decode cX8_caseOf 89 = .ok (.getfield 231, 3) := by decide +kernel
theorem dX8_caseOf_92 : decode cX8_caseOf 92 = .ok (.getfield 243, 3) := by decide +kernel
theorem dX8_caseOf_95 : decode cX8_caseOf 95 = .ok (.invokestatic 169, 3) := by decide +kernel
theorem dX8_caseOf_98 : decode cX8_caseOf 98 = .ok (.ireturn, 1) := by decide +kernel
theorem dX8_caseOf_99 : decode cX8_caseOf 99 = .ok (.iload_n 2, 1) := by decide +kernel
theorem dX8_caseOf_100 : decode cX8_caseOf 100 = .ok (.bipush 10, 2) := by decide +kernel
theorem dX8_caseOf_102 : decode cX8_caseOf 102 = .ok (.if_icmp .ge 7, 3) := by decide +kernel
theorem dX8_caseOf_105 : decode cX8_caseOf 105 = .ok (.iconst (-1), 1) := by decide +kernel
theorem dX8_caseOf_106 : decode cX8_caseOf 106 = .ok (.goto 12, 3) := by decide +kernel
theorem dX8_caseOf_109 : decode cX8_caseOf 109 = .ok (.aload_n 0, 1) := by decide +kernel
theorem dX8_caseOf_110 : decode cX8_caseOf 110 = .ok (.aload_n 3, 1) := by decide +kernel
theorem dX8_caseOf_111 : decode cX8_caseOf 111 = .ok (.iload_n 2, 1) := by decide +kernel
theorem dX8_caseOf_112 : decode cX8_caseOf 112 = .ok (.bipush 10, 2) := by decide +kernel
theorem dX8_caseOf_114 : decode cX8_caseOf 114 = .ok (.isub, 1) := by decide +kernel
theorem dX8_caseOf_115 : decode cX8_caseOf 115 = .ok (.invokevirtual 246, 3) := by decide +kernel
theorem dX8_caseOf_118 : decode cX8_caseOf 118 = .ok (.ireturn, 1) := by decide +kernel
set_option maxRecDepth 20000 in
theorem ggX8_slow_X8_isBelow : GoodIn wsX8_slow wsX8_isBelow := goodIn_r _ [9] (by decide +kernel) (by decide +kernel)
set_option maxRecDepth 20000 in
theorem gX8_slow_X8_isBelow : GoodIn wsX8_slow (va_wsS RX8 64 yX8_isBelow wsX8_isBelow) := goodIn_app (goodIn_of _ (by decide +kernel)) ggX8_slow_X8_isBelow
set_option maxRecDepth 20000 in
theorem ggX8_slow_X0_isLive : GoodIn wsX8_slow wsX0_isLive := goodIn_r _ [14, 15, 16, 17, 13, 18, 19, 20, 21, 22, 23, 24, 25, 63, 64, 65, 66, 67, 68, 69, 70, 71, 72, 73, 74, 75, 76, 77, 78, 79] (by decide +kernel) (by decide +kernel)
set_option maxRecDepth 20000 in
theorem gX8_slow_X0_isLive : GoodIn wsX8_slow (wsV RX8 225 RX0 yX0_isLive wsX0_isLive) := goodIn_app (goodIn_of _ (by decide +kernel)) ggX8_slow_X0_isLive
set_option maxRecDepth 20000 in
theorem ggX8_slow_X0_score : GoodIn wsX8_slow wsX0_score := goodIn_r _ [29, 30, 31, 32, 33, 13, 34, 35, 36, 37, 38, 39, 40, 41, 42, 43, 44, 45, 46, 47, 48, 63, 64, 65, 66, 67, 68, 69, 70, 71, 72, 73, 74, 75, 76, 77, 78, 79, 80, 81, 82, 83, 84, 85, 86, 87] (by decide +kernel) (by decide +kernel)
set_option maxRecDepth 20000 in
theorem gX8_slow_X0_score : GoodIn wsX8_slow (wsV RX8 173 RX0 yX0_score wsX0_score) := goodIn_app (goodIn_of _ (by decide +kernel)) ggX8_slow_X0_score
theorem dX8_slow_0 : decode cX8_slow 0 = .ok (.iload_n 1, 1) := by decide +kernel
theorem dX8_slow_1 : decode cX8_slow 1 = .ok (.bipush 40, 2) := by decide +kernel
theorem dX8_slow_3 : decode cX8_slow 3 = .ok (.invokestatic 64, 3) := by decide +kernel
theorem dX8_slow_6 : decode cX8_slow 6 = .ok (.ifCond .ne 5, 3) := by decide +kernel
theorem dX8_slow_9 : decode cX8_slow 9 = .ok (.iconst (-1), 1) := by decide +kernel
theorem dX8_slow_10 : decode cX8_slow 10 = .ok (.ireturn, 1) := by decide +kernel
theorem dX8_slow_11 : decode cX8_slow 11 = .ok (.iconst 0, 1) := by decide +kernel
theorem dX8_slow_12 : decode cX8_slow 12 = .ok (.istore_n 2, 1) := by decide +kernel
theorem dX8_slow_13 : decode cX8_slow 13 = .ok (.aload_n 0, 1) := by decide +kernel
theorem dX8_slow_14 : decode cX8_slow 14 = .ok (.getfield 15, 3) := by decide +kernel
theorem dX8_slow_17 : decode cX8_slow 17 = .ok (.iload_n 1, 1) := by decide +kernel
theorem dX8_slow_18 : decode cX8_slow 18 = .ok (.aaload, 1) := by decide +kernel
theorem dX8_slow_19 : decode cX8_slow 19 = .ok (.astore_n 3, 1) := by decide +kernel
theorem dX8_slow_20 : decode cX8_slow 20 = .ok (.aload_n 3, 1) := by decide +kernel
theorem dX8_slow_21 : decode cX8_slow 21 = .ok (.ifnull 62, 3) := by decide +kernel
theorem dX8_slow_24 : decode cX8_slow 24 = .ok (.aload_n 0, 1) := by decide +kernel
theorem dX8_slow_25 : decode cX8_slow 25 = .ok (.getfield 61, 3) := by decide +kernel
theorem dX8_slow_28 : decode cX8_slow 28 = .ok (.aload_n 3, 1) := by decide +kernel
theorem dX8_slow_29 : decode cX8_slow 29 = .ok (.getfield 148, 3) := by decide +kernel
theorem dX8_slow_32 : decode cX8_slow 32 = .ok (.isub, 1) := by decide +kernel
theorem dX8_slow_33 : decode cX8_slow 33 = .ok (.sipush 199, 3) := by decide +kernel
theorem dX8_slow_36 : decode cX8_slow 36 = .ok (.if_icmp .gt 47, 3) := by decide +kernel
theorem dX8_slow_39 : decode cX8_slow 39 = .ok (.aload_n 3, 1) := by decide +kernel
theorem dX8_slow_40 : decode cX8_slow 40 = .ok (.invokevirtual 225, 3) := by decide +kernel
theorem dX8_slow_43 : decode cX8_slow 43 = .ok (.ifCond .eq 14, 3) := by decide +kernel
theorem dX8_slow_46 : decode cX8_slow 46 = .ok (.aload_n 3, 1) := by decide +kernel
theorem dX8_slow_47 : decode cX8_slow 47 = .ok (.aload_n 0, 1) := by decide +kernel
theorem dX8_slow_48 : decode cX8_slow 48 = .ok (.getfield 58, 3) := by decide +kernel
theorem dX8_slow_51 : decode cX8_slow 51 = .ok (.invokevirtual 173, 3) := by decide +kernel
theorem dX8_slow_54 : decode cX8_slow 54 = .ok (.goto 4, 3) := by decide +kernel
theorem dX8_slow_57 : decode cX8_slow 57 = .ok (.iconst 0, 1) := by decide +kernel
theorem dX8_slow_58 : decode cX8_slow 58 = .ok (.istore 4, 2) := by decide +kernel
theorem dX8_slow_60 : decode cX8_slow 60 = .ok (.iload 4, 2) := by decide +kernel
theorem dX8_slow_62 : decode cX8_slow 62 = .ok (.sipush 10000, 3) := by decide +kernel
theorem dX8_slow_65 : decode cX8_slow 65 = .ok (.if_icmp .lt 5, 3) := by decide +kernel
theorem dX8_slow_68 : decode cX8_slow 68 = .ok (.iconst (-1), 1) := by decide +kernel
theorem dX8_slow_69 : decode cX8_slow 69 = .ok (.ireturn, 1) := by decide +kernel
theorem dX8_slow_70 : decode cX8_slow 70 = .ok (.iload_n 2, 1) := by decide +kernel
theorem dX8_slow_71 : decode cX8_slow 71 = .ok (.iload 4, 2) := by decide +kernel
theorem dX8_slow_73 : decode cX8_slow 73 = .ok (.iadd, 1) := by decide +kernel
theorem dX8_slow_74 : decode cX8_slow 74 = .ok (.istore_n 2, 1) := by decide +kernel
theorem dX8_slow_75 : decode cX8_slow 75 = .ok (.aload_n 3, 1) := by decide +kernel
theorem dX8_slow_76 : decode cX8_slow 76 = .ok (.getfield 109, 3) := by decide +kernel
theorem dX8_slow_79 : decode cX8_slow 79 = .ok (.astore_n 3, 1) := by decide +kernel
theorem dX8_slow_80 : decode cX8_slow 80 = .ok (.goto (-60), 3) := by decide +kernel
theorem dX8_slow_83 : decode cX8_slow 83 = .ok (.iload_n 2, 1) := by decide +kernel
theorem dX8_slow_84 : decode cX8_slow 84 = .ok (.sipush 30000, 3) := by decide +kernel
theorem dX8_slow_87 : decode cX8_slow 87 = .ok (.if_icmp .le 7, 3) := by decide +kernel
theorem dX8_slow_90 : decode cX8_slow 90 = .ok (.iload_n 2, 1) := by decide +kernel
theorem dX8_slow_91 : decode cX8_slow 91 = .ok (.goto 4, 3) := by decide +kernel
theorem dX8_slow_94 : decode cX8_slow 94 = .ok (.iconst (-1), 1) := by decide +kernel
theorem dX8_slow_95 : decode cX8_slow 95 = .ok (.ireturn, 1) := by decide +kernel
set_option maxRecDepth 20000 in
theorem ggX8_plan_X8_casesNow : GoodIn wsX8_plan wsX8_casesNow := goodIn_r _ [9, 10, 11, 12, 13, 14, 15, 16, 17, 18, 19, 20, 21, 22, 23, 24, 25, 26, 27, 28, 29, 30, 31, 32, 33, 34, 35, 36, 37, 38, 39, 40, 41, 42, 43, 44, 45, 46, 47, 48, 49, 50, 51, 52, 53, 54, 55, 56, 57, 58, 59, 60, 61, 62, 63, 64, 65, 66, 67, 68, 69, 70, 71, 72, 73, 74, 75, 76, 77, 78, 79, 80, 81, 82, 83, 84, 85, 86, 87, 88, 89, 90, 91, 92, 93, 8, 94, 95, 96, 97, 98, 99, 100, 101, 102, 103, 104, 105, 106, 107, 108, 109, 110, 111, 112, 113, 114, 115, 116, 117, 118, 119, 120, 121, 122, 123, 124, 125, 126, 127, 128, 129, 130, 131, 132, 133, 134, 135, 136, 137, 138, 139, 140, 141, 142, 143, 195, 196, 197, 198, 199, 200, 201, 202, 203, 204, 205, 206, 207, 208, 221, 222, 223, 224, 225, 226, 227, 228, 229, 230, 231, 232, 233, 234, 235, 236, 237, 217, 218, 219, 220, 238, 239, 240, 241, 242, 243, 244, 245, 246, 247, 248, 249, 250, 251, 252] (by decide +kernel) (by decide +kernel)
set_option maxRecDepth 20000 in
theorem gX8_plan_X8_casesNow : GoodIn wsX8_plan (wsV RX8 214 RX8 yX8_casesNow wsX8_casesNow) := goodIn_app (goodIn_of _ (by decide +kernel)) ggX8_plan_X8_casesNow
set_option maxRecDepth 20000 in
theorem ggX8_plan_X5_make : GoodIn wsX8_plan wsX5_make := goodIn_r _ [148, 149, 150, 151, 152, 69, 70, 71, 153, 73, 74, 154, 155, 156, 157, 147, 158, 159, 160, 161, 162, 163, 164, 26, 165, 28, 166, 167, 168, 169, 170, 171, 172, 173, 174, 175, 176, 177, 178, 179, 180, 181, 182, 183, 184, 185, 186, 187, 188, 189, 190, 209, 210, 211, 212, 213, 214, 215, 216, 251, 252, 217, 218, 219, 220] (by decide +kernel) (by decide +kernel)
set_option maxRecDepth 20000 in
theorem gX8_plan_X5_make : GoodIn wsX8_plan (wsV RX8 250 RX5 yX5_make wsX5_make) := goodIn_app (goodIn_of _ (by decide +kernel)) ggX8_plan_X5_make
set_option maxRecDepth 20000 in
theorem ggX8_plan_X5_at : GoodIn wsX8_plan wsX5_at := goodIn_r _ [194, 149, 170, 93, 8, 94, 209, 210, 211, 212, 213, 214, 215, 216] (by decide +kernel) (by decide +kernel)
set_option maxRecDepth 20000 in
theorem gX8_plan_X5_at : GoodIn wsX8_plan (wsV RX8 257 RX5 yX5_at wsX5_at) := goodIn_app (goodIn_of _ (by decide +kernel)) ggX8_plan_X5_at
theorem dX8_plan_0 : decode cX8_plan 0 = .ok (.iload_n 1, 1) := by decide +kernel
theorem dX8_plan_1 : decode cX8_plan 1 = .ok (.ifCond .lt 10, 3) := by decide +kernel
theorem dX8_plan_4 : decode cX8_plan 4 = .ok (.iload_n 1, 1) := by decide +kernel
theorem dX8_plan_5 : decode cX8_plan 5 = .ok (.sipush 300, 3) := by decide +kernel
theorem dX8_plan_8 : decode cX8_plan 8 = .ok (.if_icmp .le 5, 3) := by decide +kernel
theorem dX8_plan_11 : decode cX8_plan 11 = .ok (.iconst (-1), 1) := by decide +kernel
theorem dX8_plan_12 : decode cX8_plan 12 = .ok (.ireturn, 1) := by decide +kernel
theorem dX8_plan_13 : decode cX8_plan 13 = .ok (.aload_n 0, 1) := by decide +kernel
theorem dX8_plan_14 : decode cX8_plan 14 = .ok (.getfield 50, 3) := by decide +kernel
theorem dX8_plan_17 : decode cX8_plan 17 = .ok (.aload_n 0, 1) := by decide +kernel
theorem dX8_plan_18 : decode cX8_plan 18 = .ok (.invokevirtual 214, 3) := by decide +kernel
theorem dX8_plan_21 : decode cX8_plan 21 = .ok (.iload_n 1, 1) := by decide +kernel
theorem dX8_plan_22 : decode cX8_plan 22 = .ok (.aload_n 0, 1) := by decide +kernel
theorem dX8_plan_23 : decode cX8_plan 23 = .ok (.getfield 122, 3) := by decide +kernel
theorem dX8_plan_26 : decode cX8_plan 26 = .ok (.invokevirtual 250, 3) := by decide +kernel
theorem dX8_plan_29 : decode cX8_plan 29 = .ok (.iload_n 2, 1) := by decide +kernel
theorem dX8_plan_30 : decode cX8_plan 30 = .ok (.iconst (-1), 1) := by decide +kernel
theorem dX8_plan_31 : decode cX8_plan 31 = .ok (.if_icmp .ne 11, 3) := by decide +kernel
theorem dX8_plan_34 : decode cX8_plan 34 = .ok (.aload_n 0, 1) := by decide +kernel
theorem dX8_plan_35 : decode cX8_plan 35 = .ok (.getfield 50, 3) := by decide +kernel
theorem dX8_plan_38 : decode cX8_plan 38 = .ok (.getfield 254, 3) := by decide +kernel
theorem dX8_plan_41 : decode cX8_plan 41 = .ok (.ireturn, 1) := by decide +kernel
theorem dX8_plan_42 : decode cX8_plan 42 = .ok (.aload_n 0, 1) := by decide +kernel
theorem dX8_plan_43 : decode cX8_plan 43 = .ok (.getfield 50, 3) := by decide +kernel
theorem dX8_plan_46 : decode cX8_plan 46 = .ok (.iload_n 2, 1) := by decide +kernel
theorem dX8_plan_47 : decode cX8_plan 47 = .ok (.invokevirtual 257, 3) := by decide +kernel
theorem dX8_plan_50 : decode cX8_plan 50 = .ok (.astore_n 3, 1) := by decide +kernel
theorem dX8_plan_51 : decode cX8_plan 51 = .ok (.aload_n 3, 1) := by decide +kernel
theorem dX8_plan_52 : decode cX8_plan 52 = .ok (.ifnonnull 7, 3) := by decide +kernel
theorem dX8_plan_55 : decode cX8_plan 55 = .ok (.iconst (-1), 1) := by decide +kernel
theorem dX8_plan_56 : decode cX8_plan 56 = .ok (.goto 7, 3) := by decide +kernel
theorem dX8_plan_59 : decode cX8_plan 59 = .ok (.aload_n 3, 1) := by decide +kernel
theorem dX8_plan_60 : decode cX8_plan 60 = .ok (.getfield 222, 3) := by decide +kernel
theorem dX8_plan_63 : decode cX8_plan 63 = .ok (.ireturn, 1) := by decide +kernel
set_option maxRecDepth 20000 in
theorem ggX8_worth_X8_casesNow : GoodIn wsX8_worth wsX8_casesNow := goodIn_r _ [10, 11, 4, 12, 13, 14, 15, 16, 17, 18, 19, 20, 21, 22, 23, 24, 25, 26, 27, 28, 29, 30, 31, 32, 33, 34, 35, 36, 37, 38, 39, 40, 41, 42, 43, 44, 45, 46, 47, 48, 49, 50, 51, 52, 53, 54, 55, 56, 57, 58, 59, 60, 61, 62, 63, 64, 65, 66, 67, 68, 69, 70, 71, 72, 73, 74, 75, 76, 77, 78, 79, 80, 81, 82, 83, 84, 85, 86, 87, 88, 89, 90, 91, 92, 93, 9, 94, 95, 96, 97, 98, 99, 100, 101, 102, 103, 104, 105, 106, 107, 108, 109, 110, 111, 112, 113, 114, 115, 116, 117, 118, 119, 120, 121, 122, 123, 124, 125, 126, 127, 128, 129, 130, 131, 132, 133, 134, 135, 136, 137, 138, 139, 140, 141, 142, 143, 196, 197, 198, 199, 200, 201, 202, 203, 204, 205, 206, 207, 208, 209, 218, 219, 220, 221, 222, 223, 224, 225, 226, 227, 228, 229, 230, 231, 232, 233, 234, 235, 236, 237, 238, 239, 240, 241, 242, 243, 244, 245, 246, 247, 248, 249, 250, 251, 252, 253] (by decide +kernel) (by decide +kernel)
set_option maxRecDepth 20000 in
theorem gX8_worth_X8_casesNow : GoodIn wsX8_worth (wsV RX8 214 RX8 yX8_casesNow wsX8_casesNow) := goodIn_app (goodIn_of _ (by decide +kernel)) ggX8_worth_X8_casesNow
set_option maxRecDepth 20000 in
theorem ggX8_worth_X5_make : GoodIn wsX8_worth wsX5_make := goodIn_r _ [148, 149, 150, 151, 152, 69, 70, 71, 153, 73, 74, 154, 155, 156, 157, 147, 158, 159, 160, 161, 162, 163, 164, 26, 165, 28, 166, 167, 168, 169, 170, 171, 172, 173, 174, 175, 176, 177, 178, 179, 180, 181, 182, 183, 184, 185, 186, 187, 188, 189, 190, 210, 211, 212, 213, 214, 215, 216, 217, 252, 253, 235, 236, 237, 238] (by decide +kernel) (by decide +kernel)
set_option maxRecDepth 20000 in
theorem gX8_worth_X5_make : GoodIn wsX8_worth (wsV RX8 250 RX5 yX5_make wsX5_make) := goodIn_app (goodIn_of _ (by decide +kernel)) ggX8_worth_X5_make
set_option maxRecDepth 20000 in
theorem ggX8_worth_X2_scoreOfAll : GoodIn wsX8_worth wsX2_scoreOfAll := goodIn_r _ [194, 132, 138, 195, 252, 253, 235, 236, 237, 238] (by decide +kernel) (by decide +kernel)
set_option maxRecDepth 20000 in
theorem gX8_worth_X2_scoreOfAll : GoodIn wsX8_worth (wsV RX8 261 RX2 yX2_scoreOfAll wsX2_scoreOfAll) := goodIn_app (goodIn_of _ (by decide +kernel)) ggX8_worth_X2_scoreOfAll
theorem dX8_worth_0 : decode cX8_worth 0 = .ok (.iload_n 1, 1) := by decide +kernel
theorem dX8_worth_1 : decode cX8_worth 1 = .ok (.ifCond .lt 19, 3) := by decide +kernel
theorem dX8_worth_4 : decode cX8_worth 4 = .ok (.iload_n 1, 1) := by decide +kernel
theorem dX8_worth_5 : decode cX8_worth 5 = .ok (.sipush 300, 3) := by decide +kernel
theorem dX8_worth_8 : decode cX8_worth 8 = .ok (.if_icmp .gt 12, 3) := by decide +kernel
theorem dX8_worth_11 : decode cX8_worth 11 = .ok (.iload_n 2, 1) := by decide +kernel
theorem dX8_worth_12 : decode cX8_worth 12 = .ok (.ifCond .lt 8, 3) := by decide +kernel
theorem dX8_worth_15 : decode cX8_worth 15 = .ok (.iload_n 2, 1) := by decide +kernel
theorem dX8_worth_16 : decode cX8_worth 16 = .ok (.iconst 2, 1) := by decide +kernel
theorem dX8_worth_17 : decode cX8_worth 17 = .ok (.if_icmp .le 5, 3) := by decide +kernel
theorem dX8_worth_20 : decode cX8_worth 20 = .ok (.iconst (-1), 1) := by decide +kernel
theorem dX8_worth_21 : decode cX8_worth 21 = .ok (.ireturn, 1) := by decide +kernel
theorem dX8_worth_22 : decode cX8_worth 22 = .ok (.aload_n 0, 1) := by decide +kernel
theorem dX8_worth_23 : decode cX8_worth 23 = .ok (.getfield 50, 3) := by decide +kernel
theorem dX8_worth_26 : decode cX8_worth 26 = .ok (.aload_n 0, 1) := by decide +kernel
theorem dX8_worth_27 : decode cX8_worth 27 = .ok (.invokevirtual 214, 3) := by decide +kernel
theorem dX8_worth_30 : decode cX8_worth 30 = .ok (.iload_n 1, 1) := by decide +kernel
theorem dX8_worth_31 : decode cX8_worth 31 = .ok (.aload_n 0, 1) := by decide +kernel
theorem dX8_worth_32 : decode cX8_worth 32 = .ok (.getfield 122, 3) := by decide +kernel
theorem dX8_worth_35 : decode cX8_worth 35 = .ok (.invokevirtual 250, 3) := by decide +kernel
theorem dX8_worth_38 : decode cX8_worth 38 = .ok (.iload_n 2, 1) := by decide +kernel
theorem dX8_worth_39 : decode cX8_worth 39 = .ok (.lookupswitch 49 #[(0, 25), (1, 33)], 25) := by decide +kernel
theorem dX8_worth_64 : decode cX8_worth 64 = .ok (.aload_n 0, 1) := by decide +kernel
theorem dX8_worth_65 : decode cX8_worth 65 = .ok (.getfield 50, 3) := by decide +kernel
theorem dX8_worth_68 : decode cX8_worth 68 = .ok (.getfield 258, 3) := by decide +kernel
theorem dX8_worth_71 : decode cX8_worth 71 = .ok (.ireturn, 1) := by decide +kernel
theorem dX8_worth_72 : decode cX8_worth 72 = .ok (.aload_n 0, 1) := by decide +kernel
theorem dX8_worth_73 : decode cX8_worth 73 = .ok (.getfield 43, 3) := by decide +kernel
theorem dX8_worth_76 : decode cX8_worth 76 = .ok (.invokevirtual 261, 3) := by decide +kernel
theorem dX8_worth_79 : decode cX8_worth 79 = .ok (.aload_n 0, 1) := by decide +kernel
theorem dX8_worth_80 : decode cX8_worth 80 = .ok (.getfield 50, 3) := by decide +kernel
theorem dX8_worth_83 : decode cX8_worth 83 = .ok (.getfield 258, 3) := by decide +kernel
theorem dX8_worth_86 : decode cX8_worth 86 = .ok (.isub, 1) := by decide +kernel
theorem dX8_worth_87 : decode cX8_worth 87 = .ok (.ireturn, 1) := by decide +kernel
theorem dX8_worth_88 : decode cX8_worth 88 = .ok (.iload_n 1, 1) := by decide +kernel
theorem dX8_worth_89 : decode cX8_worth 89 = .ok (.aload_n 0, 1) := by decide +kernel
theorem dX8_worth_90 : decode cX8_worth 90 = .ok (.getfield 50, 3) := by decide +kernel
theorem dX8_worth_93 : decode cX8_worth 93 = .ok (.getfield 264, 3) := by decide +kernel
theorem dX8_worth_96 : decode cX8_worth 96 = .ok (.isub, 1) := by decide +kernel
theorem dX8_worth_97 : decode cX8_worth 97 = .ok (.ireturn, 1) := by decide +kernel
set_option maxRecDepth 20000 in
theorem ggX8_source_X8_isBelow : GoodIn wsX8_source wsX8_isBelow := goodIn_r _ [7] (by decide +kernel) (by decide +kernel)
set_option maxRecDepth 20000 in
theorem gX8_source_X8_isBelow : GoodIn wsX8_source (va_wsS RX8 64 yX8_isBelow wsX8_isBelow) := goodIn_app (goodIn_of _ (by decide +kernel)) ggX8_source_X8_isBelow
set_option maxRecDepth 20000 in
theorem ggX8_source_X8_isOfKind : GoodIn wsX8_source wsX8_isOfKind := goodIn_r _ [10, 11, 12, 13, 14, 15, 16, 17, 18, 19, 20, 21, 36, 37, 38, 39, 40, 41, 42, 43, 44, 45, 46, 47, 48, 49, 50, 51, 52] (by decide +kernel) (by decide +kernel)
set_option maxRecDepth 20000 in
theorem gX8_source_X8_isOfKind : GoodIn wsX8_source (va_wsS RX8 267 yX8_isOfKind wsX8_isOfKind) := goodIn_app (goodIn_of _ (by decide +kernel)) ggX8_source_X8_isOfKind
theorem dX8_source_0 : decode cX8_source 0 = .ok (.iload_n 1, 1) := by decide +kernel
theorem dX8_source_1 : decode cX8_source 1 = .ok (.bipush 10, 2) := by decide +kernel
theorem dX8_source_3 : decode cX8_source 3 = .ok (.invokestatic 64, 3) := by decide +kernel
theorem dX8_source_6 : decode cX8_source 6 = .ok (.ifCond .eq 13, 3) := by decide +kernel
theorem dX8_source_9 : decode cX8_source 9 = .ok (.iload_n 2, 1) := by decide +kernel
theorem dX8_source_10 : decode cX8_source 10 = .ok (.ifCond .lt 9, 3) := by decide +kernel
theorem dX8_source_13 : decode cX8_source 13 = .ok (.iload_n 2, 1) := by decide +kernel
theorem dX8_source_14 : decode cX8_source 14 = .ok (.bipush 6, 2) := by decide +kernel
theorem dX8_source_16 : decode cX8_source 16 = .ok (.if_icmp .le 5, 3) := by decide +kernel
theorem dX8_source_19 : decode cX8_source 19 = .ok (.iconst (-1), 1) := by decide +kernel
theorem dX8_source_20 : decode cX8_source 20 = .ok (.ireturn, 1) := by decide +kernel
theorem dX8_source_21 : decode cX8_source 21 = .ok (.iconst 0, 1) := by decide +kernel
theorem dX8_source_22 : decode cX8_source 22 = .ok (.istore_n 3, 1) := by decide +kernel
theorem dX8_source_23 : decode cX8_source 23 = .ok (.iconst 0, 1) := by decide +kernel
theorem dX8_source_24 : decode cX8_source 24 = .ok (.istore 4, 2) := by decide +kernel
theorem dX8_source_26 : decode cX8_source 26 = .ok (.iload 4, 2) := by decide +kernel
theorem dX8_source_28 : decode cX8_source 28 = .ok (.aload_n 0, 1) := by decide +kernel
theorem dX8_source_29 : decode cX8_source 29 = .ok (.getfield 79, 3) := by decide +kernel
theorem dX8_source_32 : decode cX8_source 32 = .ok (.if_icmp .ge 40, 3) := by decide +kernel
theorem dX8_source_35 : decode cX8_source 35 = .ok (.aload_n 0, 1) := by decide +kernel
theorem dX8_source_36 : decode cX8_source 36 = .ok (.getfield 11, 3) := by decide +kernel
theorem dX8_source_39 : decode cX8_source 39 = .ok (.iload 4, 2) := by decide +kernel
theorem dX8_source_41 : decode cX8_source 41 = .ok (.aaload, 1) := by decide +kernel
theorem dX8_source_42 : decode cX8_source 42 = .ok (.getfield 151, 3) := by decide +kernel
theorem dX8_source_45 : decode cX8_source 45 = .ok (.iload_n 1, 1) := by decide +kernel
theorem dX8_source_46 : decode cX8_source 46 = .ok (.if_icmp .ne 20, 3) := by decide +kernel
theorem dX8_source_49 : decode cX8_source 49 = .ok (.aload_n 0, 1) := by decide +kernel
theorem dX8_source_50 : decode cX8_source 50 = .ok (.getfield 11, 3) := by decide +kernel
theorem dX8_source_53 : decode cX8_source 53 = .ok (.iload 4, 2) := by decide +kernel
theorem dX8_source_55 : decode cX8_source 55 = .ok (.aaload, 1) := by decide +kernel
theorem dX8_source_56 : decode cX8_source 56 = .ok (.iload_n 2, 1) := by decide +kernel
theorem dX8_source_57 : decode cX8_source 57 = .ok (.invokestatic 267, 3) := by decide +kernel
theorem dX8_source_60 : decode cX8_source 60 = .ok (.ifCond .eq 6, 3) := by decide +kernel
theorem dX8_source_63 : decode cX8_source 63 = .ok (.iinc 3 1, 3) := by decide +kernel
theorem dX8_source_66 : decode cX8_source 66 = .ok (.iinc 4 1, 3) := by decide +kernel
theorem dX8_source_69 : decode cX8_source 69 = .ok (.goto (-43), 3) := by decide +kernel
theorem dX8_source_72 : decode cX8_source 72 = .ok (.iload_n 3, 1) := by decide +kernel
theorem dX8_source_73 : decode cX8_source 73 = .ok (.ireturn, 1) := by decide +kernel
set_option maxRecDepth 20000 in
theorem ggX8_count_X8_casesNow : GoodIn wsX8_count wsX8_casesNow := goodIn_r _ [13, 14, 15, 16, 2, 7, 17, 18, 19, 20, 21, 22, 23, 24, 25, 26, 27, 28, 29, 30, 31, 32, 33, 34, 35, 36, 37, 38, 39, 40, 41, 42, 43, 44, 45, 46, 47, 48, 49, 50, 51, 52, 53, 54, 55, 56, 57, 58, 59, 60, 61, 62, 63, 64, 65, 66, 67, 68, 69, 70, 71, 72, 73, 74, 75, 76, 77, 78, 79, 80, 81, 82, 83, 84, 85, 86, 87, 88, 89, 90, 91, 92, 93, 94, 95, 12, 96, 97, 98, 99, 100, 101, 102, 103, 104, 105, 106, 107, 108, 109, 110, 111, 112, 113, 114, 115, 116, 117, 118, 119, 120, 121, 122, 123, 124, 125, 126, 127, 128, 129, 130, 131, 132, 133, 134, 135, 136, 137, 138, 139, 140, 141, 142, 143, 144, 145, 146, 147, 148, 149, 150, 151, 152, 153, 154, 155, 156, 157, 158, 159, 172, 173, 174, 175, 176, 177, 178, 179, 180, 181, 182, 183, 184, 185, 186, 187, 188, 189, 190, 191, 192, 193, 194, 195, 170, 171, 160, 161, 162, 163, 164, 165, 166, 167, 168, 169] (by decide +kernel) (by decide +kernel)
set_option maxRecDepth 20000 in
theorem gX8_count_X8_casesNow : GoodIn wsX8_count (wsV RX8 214 RX8 yX8_casesNow wsX8_casesNow) := goodIn_app (goodIn_of _ (by decide +kernel)) ggX8_count_X8_casesNow
theorem dX8_count_0 : decode cX8_count 0 = .ok (.iload_n 1, 1) := by decide +kernel
theorem dX8_count_1 : decode cX8_count 1 = .ok (.tableswitch 78 0 5 #[39, 44, 49, 57, 65, 70], 39) := by decide +kernel
theorem dX8_count_40 : decode cX8_count 40 = .ok (.aload_n 0, 1) := by decide +kernel
theorem dX8_count_41 : decode cX8_count 41 = .ok (.getfield 61, 3) := by decide +kernel
theorem dX8_count_44 : decode cX8_count 44 = .ok (.ireturn, 1) := by decide +kernel
theorem dX8_count_45 : decode cX8_count 45 = .ok (.aload_n 0, 1) := by decide +kernel
theorem dX8_count_46 : decode cX8_count 46 = .ok (.getfield 79, 3) := by decide +kernel
theorem dX8_count_49 : decode cX8_count 49 = .ok (.ireturn, 1) := by decide +kernel
theorem dX8_count_50 : decode cX8_count 50 = .ok (.aload_n 0, 1) := by decide +kernel
theorem dX8_count_51 : decode cX8_count 51 = .ok (.getfield 29, 3) := by decide +kernel
theorem dX8_count_54 : decode cX8_count 54 = .ok (.getfield 201, 3) := by decide +kernel
theorem dX8_count_57 : decode cX8_count 57 = .ok (.ireturn, 1) := by decide +kernel
theorem dX8_count_58 : decode cX8_count 58 = .ok (.aload_n 0, 1) := by decide +kernel
theorem dX8_count_59 : decode cX8_count 59 = .ok (.invokevirtual 214, 3) := by decide +kernel
theorem dX8_count_62 : decode cX8_count 62 = .ok (.getfield 271, 3) := by decide +kernel
theorem dX8_count_65 : decode cX8_count 65 = .ok (.ireturn, 1) := by decide +kernel
theorem dX8_count_66 : decode cX8_count 66 = .ok (.aload_n 0, 1) := by decide +kernel
theorem dX8_count_67 : decode cX8_count 67 = .ok (.getfield 116, 3) := by decide +kernel
theorem dX8_count_70 : decode cX8_count 70 = .ok (.ireturn, 1) := by decide +kernel
theorem dX8_count_71 : decode cX8_count 71 = .ok (.aload_n 0, 1) := by decide +kernel
theorem dX8_count_72 : decode cX8_count 72 = .ok (.getfield 36, 3) := by decide +kernel
theorem dX8_count_75 : decode cX8_count 75 = .ok (.getfield 272, 3) := by decide +kernel
theorem dX8_count_78 : decode cX8_count 78 = .ok (.ireturn, 1) := by decide +kernel
theorem dX8_count_79 : decode cX8_count 79 = .ok (.iconst (-1), 1) := by decide +kernel
theorem dX8_count_80 : decode cX8_count 80 = .ok (.ireturn, 1) := by decide +kernel
