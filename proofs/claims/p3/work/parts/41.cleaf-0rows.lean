theorem dX0_isOpen_0 : decode cX0_isOpen 0 = .ok (.aload_n 0, 1) := by decide +kernel
theorem dX0_isOpen_1 : decode cX0_isOpen 1 = .ok (.getfield 9, 3) := by decide +kernel
theorem dX0_isOpen_4 : decode cX0_isOpen 4 = .ok (.ifCond .ne 7, 3) := by decide +kernel
theorem dX0_isOpen_7 : decode cX0_isOpen 7 = .ok (.iconst 1, 1) := by decide +kernel
theorem dX0_isOpen_8 : decode cX0_isOpen 8 = .ok (.goto 4, 3) := by decide +kernel
theorem dX0_isOpen_11 : decode cX0_isOpen 11 = .ok (.iconst 0, 1) := by decide +kernel
theorem dX0_isOpen_12 : decode cX0_isOpen 12 = .ok (.ireturn, 1) := by decide +kernel
theorem dX0_isHushed_0 : decode cX0_isHushed 0 = .ok (.aload_n 0, 1) := by decide +kernel
theorem dX0_isHushed_1 : decode cX0_isHushed 1 = .ok (.getfield 49, 3) := by decide +kernel
theorem dX0_isHushed_4 : decode cX0_isHushed 4 = .ok (.ifCond .ne 10, 3) := by decide +kernel
theorem dX0_isHushed_7 : decode cX0_isHushed 7 = .ok (.aload_n 0, 1) := by decide +kernel
theorem dX0_isHushed_8 : decode cX0_isHushed 8 = .ok (.getfield 53, 3) := by decide +kernel
theorem dX0_isHushed_11 : decode cX0_isHushed 11 = .ok (.ifCond .eq 7, 3) := by decide +kernel
theorem dX0_isHushed_14 : decode cX0_isHushed 14 = .ok (.iconst 1, 1) := by decide +kernel
theorem dX0_isHushed_15 : decode cX0_isHushed 15 = .ok (.goto 4, 3) := by decide +kernel
theorem dX0_isHushed_18 : decode cX0_isHushed 18 = .ok (.iconst 0, 1) := by decide +kernel
theorem dX0_isHushed_19 : decode cX0_isHushed 19 = .ok (.ireturn, 1) := by decide +kernel
set_option maxRecDepth 20000 in
theorem ggX0_isLive_X0_isOpen : GoodIn wsX0_isLive wsX0_isOpen := goodIn_r _ [5, 6, 13, 14, 15, 16, 17, 18, 19, 20, 21, 22, 23, 24, 25, 26, 27, 28, 29] (by decide +kernel) (by decide +kernel)
set_option maxRecDepth 20000 in
theorem gX0_isLive_X0_isOpen : GoodIn wsX0_isLive (wsV RX0 56 RX0 yX0_isOpen wsX0_isOpen) := goodIn_app (goodIn_of _ (by decide +kernel)) ggX0_isLive_X0_isOpen
set_option maxRecDepth 20000 in
theorem ggX0_isLive_X0_isHushed : GoodIn wsX0_isLive wsX0_isHushed := goodIn_r _ [10, 11, 12, 13, 14, 15, 16, 17, 18, 19, 20, 21, 22, 23, 24, 25, 26, 27, 28, 29] (by decide +kernel) (by decide +kernel)
set_option maxRecDepth 20000 in
theorem gX0_isLive_X0_isHushed : GoodIn wsX0_isLive (wsV RX0 60 RX0 yX0_isHushed wsX0_isHushed) := goodIn_app (goodIn_of _ (by decide +kernel)) ggX0_isLive_X0_isHushed
theorem dX0_isLive_0 : decode cX0_isLive 0 = .ok (.aload_n 0, 1) := by decide +kernel
theorem dX0_isLive_1 : decode cX0_isLive 1 = .ok (.invokevirtual 56, 3) := by decide +kernel
theorem dX0_isLive_4 : decode cX0_isLive 4 = .ok (.ifCond .eq 14, 3) := by decide +kernel
theorem dX0_isLive_7 : decode cX0_isLive 7 = .ok (.aload_n 0, 1) := by decide +kernel
theorem dX0_isLive_8 : decode cX0_isLive 8 = .ok (.invokevirtual 60, 3) := by decide +kernel
theorem dX0_isLive_11 : decode cX0_isLive 11 = .ok (.ifCond .ne 7, 3) := by decide +kernel
theorem dX0_isLive_14 : decode cX0_isLive 14 = .ok (.iconst 1, 1) := by decide +kernel
theorem dX0_isLive_15 : decode cX0_isLive 15 = .ok (.goto 4, 3) := by decide +kernel
theorem dX0_isLive_18 : decode cX0_isLive 18 = .ok (.iconst 0, 1) := by decide +kernel
theorem dX0_isLive_19 : decode cX0_isLive 19 = .ok (.ireturn, 1) := by decide +kernel
theorem dX0_hasHeard_0 : decode cX0_hasHeard 0 = .ok (.aload_n 0, 1) := by decide +kernel
theorem dX0_hasHeard_1 : decode cX0_hasHeard 1 = .ok (.getfield 66, 3) := by decide +kernel
theorem dX0_hasHeard_4 : decode cX0_hasHeard 4 = .ok (.aload_n 0, 1) := by decide +kernel
theorem dX0_hasHeard_5 : decode cX0_hasHeard 5 = .ok (.getfield 69, 3) := by decide +kernel
theorem dX0_hasHeard_8 : decode cX0_hasHeard 8 = .ok (.ior, 1) := by decide +kernel
theorem dX0_hasHeard_9 : decode cX0_hasHeard 9 = .ok (.iload_n 1, 1) := by decide +kernel
theorem dX0_hasHeard_10 : decode cX0_hasHeard 10 = .ok (.ishr, 1) := by decide +kernel
theorem dX0_hasHeard_11 : decode cX0_hasHeard 11 = .ok (.iconst 1, 1) := by decide +kernel
theorem dX0_hasHeard_12 : decode cX0_hasHeard 12 = .ok (.iand, 1) := by decide +kernel
theorem dX0_hasHeard_13 : decode cX0_hasHeard 13 = .ok (.iconst 1, 1) := by decide +kernel
theorem dX0_hasHeard_14 : decode cX0_hasHeard 14 = .ok (.if_icmp .ne 7, 3) := by decide +kernel
theorem dX0_hasHeard_17 : decode cX0_hasHeard 17 = .ok (.iconst 1, 1) := by decide +kernel
theorem dX0_hasHeard_18 : decode cX0_hasHeard 18 = .ok (.goto 4, 3) := by decide +kernel
theorem dX0_hasHeard_21 : decode cX0_hasHeard 21 = .ok (.iconst 0, 1) := by decide +kernel
theorem dX0_hasHeard_22 : decode cX0_hasHeard 22 = .ok (.ireturn, 1) := by decide +kernel
set_option maxRecDepth 20000 in
theorem ggX0_verdicts_J6_bitCount_0f7a4 : GoodIn wsX0_verdicts wsJ6_bitCount_0f7a4 := goodIn_r _ [6, 7, 8, 9] (by decide +kernel) (by decide +kernel)
set_option maxRecDepth 20000 in
theorem gX0_verdicts_J6_bitCount_0f7a4 : GoodIn wsX0_verdicts (va_wsS RX0 72 yJ6_bitCount_0f7a4 wsJ6_bitCount_0f7a4) := goodIn_app (goodIn_of _ (by decide +kernel)) ggX0_verdicts_J6_bitCount_0f7a4
theorem dX0_verdicts_0 : decode cX0_verdicts 0 = .ok (.aload_n 0, 1) := by decide +kernel
theorem dX0_verdicts_1 : decode cX0_verdicts 1 = .ok (.getfield 66, 3) := by decide +kernel
theorem dX0_verdicts_4 : decode cX0_verdicts 4 = .ok (.aload_n 0, 1) := by decide +kernel
theorem dX0_verdicts_5 : decode cX0_verdicts 5 = .ok (.getfield 69, 3) := by decide +kernel
theorem dX0_verdicts_8 : decode cX0_verdicts 8 = .ok (.ior, 1) := by decide +kernel
theorem dX0_verdicts_9 : decode cX0_verdicts 9 = .ok (.invokestatic 72, 3) := by decide +kernel
theorem dX0_verdicts_12 : decode cX0_verdicts 12 = .ok (.ireturn, 1) := by decide +kernel
theorem dX0_nodeFor_0 : decode cX0_nodeFor 0 = .ok (.aload_n 0, 1) := by decide +kernel
theorem dX0_nodeFor_1 : decode cX0_nodeFor 1 = .ok (.getfield 33, 3) := by decide +kernel
theorem dX0_nodeFor_4 : decode cX0_nodeFor 4 = .ok (.astore_n 2, 1) := by decide +kernel
theorem dX0_nodeFor_5 : decode cX0_nodeFor 5 = .ok (.aload_n 2, 1) := by decide +kernel
theorem dX0_nodeFor_6 : decode cX0_nodeFor 6 = .ok (.getfield 78, 3) := by decide +kernel
theorem dX0_nodeFor_9 : decode cX0_nodeFor 9 = .ok (.iload_n 1, 1) := by decide +kernel
theorem dX0_nodeFor_10 : decode cX0_nodeFor 10 = .ok (.if_icmp .ge 18, 3) := by decide +kernel
theorem dX0_nodeFor_13 : decode cX0_nodeFor 13 = .ok (.aload_n 2, 1) := by decide +kernel
theorem dX0_nodeFor_14 : decode cX0_nodeFor 14 = .ok (.getfield 83, 3) := by decide +kernel
theorem dX0_nodeFor_17 : decode cX0_nodeFor 17 = .ok (.ifnull 11, 3) := by decide +kernel
theorem dX0_nodeFor_20 : decode cX0_nodeFor 20 = .ok (.aload_n 2, 1) := by decide +kernel
theorem dX0_nodeFor_21 : decode cX0_nodeFor 21 = .ok (.getfield 83, 3) := by decide +kernel
theorem dX0_nodeFor_24 : decode cX0_nodeFor 24 = .ok (.astore_n 2, 1) := by decide +kernel
theorem dX0_nodeFor_25 : decode cX0_nodeFor 25 = .ok (.goto (-20), 3) := by decide +kernel
theorem dX0_nodeFor_28 : decode cX0_nodeFor 28 = .ok (.aload_n 2, 1) := by decide +kernel
theorem dX0_nodeFor_29 : decode cX0_nodeFor 29 = .ok (.areturn, 1) := by decide +kernel
set_option maxRecDepth 20000 in
theorem ggX0_score_X0_nodeFor : GoodIn wsX0_score wsX0_nodeFor := goodIn_r _ [6, 7, 8, 9, 21, 22, 23, 24, 25, 26, 27, 28, 29, 30, 31, 32, 33, 34, 35, 36, 37, 38, 39, 40, 41, 42, 43, 44, 45] (by decide +kernel) (by decide +kernel)
set_option maxRecDepth 20000 in
theorem gX0_score_X0_nodeFor : GoodIn wsX0_score (wsV RX0 86 RX0 yX0_nodeFor wsX0_nodeFor) := goodIn_app (goodIn_of _ (by decide +kernel)) ggX0_score_X0_nodeFor
set_option maxRecDepth 20000 in
theorem ggX0_score_X3_oddsLower : GoodIn wsX0_score wsX3_oddsLower := goodIn_r _ [14, 15, 38, 39, 40, 41, 42, 43, 44, 45] (by decide +kernel) (by decide +kernel)
set_option maxRecDepth 20000 in
theorem gX0_score_X3_oddsLower : GoodIn wsX0_score (wsV RX0 90 RX3 yX3_oddsLower wsX3_oddsLower) := goodIn_app (goodIn_of _ (by decide +kernel)) ggX0_score_X3_oddsLower
set_option maxRecDepth 20000 in
theorem ggX0_score_X3_oddsUpper : GoodIn wsX0_score wsX3_oddsUpper := goodIn_r _ [19, 15, 20, 38, 39, 40, 41, 42, 43, 44, 45] (by decide +kernel) (by decide +kernel)
set_option maxRecDepth 20000 in
theorem gX0_score_X3_oddsUpper : GoodIn wsX0_score (wsV RX0 94 RX3 yX3_oddsUpper wsX3_oddsUpper) := goodIn_app (goodIn_of _ (by decide +kernel)) ggX0_score_X3_oddsUpper
theorem dX0_score_0 : decode cX0_score 0 = .ok (.aload_n 0, 1) := by decide +kernel
theorem dX0_score_1 : decode cX0_score 1 = .ok (.iload_n 1, 1) := by decide +kernel
theorem dX0_score_2 : decode cX0_score 2 = .ok (.invokevirtual 86, 3) := by decide +kernel
theorem dX0_score_5 : decode cX0_score 5 = .ok (.astore_n 2, 1) := by decide +kernel
theorem dX0_score_6 : decode cX0_score 6 = .ok (.aload_n 2, 1) := by decide +kernel
theorem dX0_score_7 : decode cX0_score 7 = .ok (.invokevirtual 90, 3) := by decide +kernel
theorem dX0_score_10 : decode cX0_score 10 = .ok (.istore_n 3, 1) := by decide +kernel
theorem dX0_score_11 : decode cX0_score 11 = .ok (.iload_n 3, 1) := by decide +kernel
theorem dX0_score_12 : decode cX0_score 12 = .ok (.iconst 1, 1) := by decide +kernel
theorem dX0_score_13 : decode cX0_score 13 = .ok (.if_icmp .ge 7, 3) := by decide +kernel
theorem dX0_score_16 : decode cX0_score 16 = .ok (.iconst 0, 1) := by decide +kernel
theorem dX0_score_17 : decode cX0_score 17 = .ok (.goto 18, 3) := by decide +kernel
theorem dX0_score_20 : decode cX0_score 20 = .ok (.sipush 1000, 3) := by decide +kernel
theorem dX0_score_23 : decode cX0_score 23 = .ok (.aload_n 0, 1) := by decide +kernel
theorem dX0_score_24 : decode cX0_score 24 = .ok (.getfield 30, 3) := by decide +kernel
theorem dX0_score_27 : decode cX0_score 27 = .ok (.imul, 1) := by decide +kernel
theorem dX0_score_28 : decode cX0_score 28 = .ok (.aload_n 2, 1) := by decide +kernel
theorem dX0_score_29 : decode cX0_score 29 = .ok (.invokevirtual 94, 3) := by decide +kernel
theorem dX0_score_32 : decode cX0_score 32 = .ok (.imul, 1) := by decide +kernel
theorem dX0_score_33 : decode cX0_score 33 = .ok (.iload_n 3, 1) := by decide +kernel
theorem dX0_score_34 : decode cX0_score 34 = .ok (.idiv, 1) := by decide +kernel
theorem dX0_score_35 : decode cX0_score 35 = .ok (.ireturn, 1) := by decide +kernel
theorem dX0_head_0 : decode cX0_head 0 = .ok (.aload_n 0, 1) := by decide +kernel
theorem dX0_head_1 : decode cX0_head 1 = .ok (.astore_n 1, 1) := by decide +kernel
theorem dX0_head_2 : decode cX0_head 2 = .ok (.aload_n 1, 1) := by decide +kernel
theorem dX0_head_3 : decode cX0_head 3 = .ok (.getfield 97, 3) := by decide +kernel
theorem dX0_head_6 : decode cX0_head 6 = .ok (.ifnull 11, 3) := by decide +kernel
theorem dX0_head_9 : decode cX0_head 9 = .ok (.aload_n 1, 1) := by decide +kernel
theorem dX0_head_10 : decode cX0_head 10 = .ok (.getfield 97, 3) := by decide +kernel
theorem dX0_head_13 : decode cX0_head 13 = .ok (.astore_n 1, 1) := by decide +kernel
theorem dX0_head_14 : decode cX0_head 14 = .ok (.goto (-12), 3) := by decide +kernel
theorem dX0_head_17 : decode cX0_head 17 = .ok (.aload_n 1, 1) := by decide +kernel
theorem dX0_head_18 : decode cX0_head 18 = .ok (.areturn, 1) := by decide +kernel
theorem dX1_minutes_0 : decode cX1_minutes 0 = .ok (.iconst 5, 1) := by decide +kernel
theorem dX1_minutes_1 : decode cX1_minutes 1 = .ok (.iconst 2, 1) := by decide +kernel
theorem dX1_minutes_2 : decode cX1_minutes 2 = .ok (.aload_n 0, 1) := by decide +kernel
theorem dX1_minutes_3 : decode cX1_minutes 3 = .ok (.getfield 13, 3) := by decide +kernel
theorem dX1_minutes_6 : decode cX1_minutes 6 = .ok (.imul, 1) := by decide +kernel
theorem dX1_minutes_7 : decode cX1_minutes 7 = .ok (.iadd, 1) := by decide +kernel
theorem dX1_minutes_8 : decode cX1_minutes 8 = .ok (.ireturn, 1) := by decide +kernel
theorem dX1_isAheadOf_0 : decode cX1_isAheadOf 0 = .ok (.aload_n 0, 1) := by decide +kernel
theorem dX1_isAheadOf_1 : decode cX1_isAheadOf 1 = .ok (.getfield 16, 3) := by decide +kernel
theorem dX1_isAheadOf_4 : decode cX1_isAheadOf 4 = .ok (.aload_n 1, 1) := by decide +kernel
theorem dX1_isAheadOf_5 : decode cX1_isAheadOf 5 = .ok (.getfield 16, 3) := by decide +kernel
theorem dX1_isAheadOf_8 : decode cX1_isAheadOf 8 = .ok (.if_icmp .gt 25, 3) := by decide +kernel
theorem dX1_isAheadOf_11 : decode cX1_isAheadOf 11 = .ok (.aload_n 0, 1) := by decide +kernel
theorem dX1_isAheadOf_12 : decode cX1_isAheadOf 12 = .ok (.getfield 16, 3) := by decide +kernel
theorem dX1_isAheadOf_15 : decode cX1_isAheadOf 15 = .ok (.aload_n 1, 1) := by decide +kernel
theorem dX1_isAheadOf_16 : decode cX1_isAheadOf 16 = .ok (.getfield 16, 3) := by decide +kernel
theorem dX1_isAheadOf_19 : decode cX1_isAheadOf 19 = .ok (.if_icmp .ne 18, 3) := by decide +kernel
theorem dX1_isAheadOf_22 : decode cX1_isAheadOf 22 = .ok (.aload_n 0, 1) := by decide +kernel
theorem dX1_isAheadOf_23 : decode cX1_isAheadOf 23 = .ok (.getfield 7, 3) := by decide +kernel
theorem dX1_isAheadOf_26 : decode cX1_isAheadOf 26 = .ok (.aload_n 1, 1) := by decide +kernel
theorem dX1_isAheadOf_27 : decode cX1_isAheadOf 27 = .ok (.getfield 7, 3) := by decide +kernel
theorem dX1_isAheadOf_30 : decode cX1_isAheadOf 30 = .ok (.if_icmp .ge 7, 3) := by decide +kernel
theorem dX1_isAheadOf_33 : decode cX1_isAheadOf 33 = .ok (.iconst 1, 1) := by decide +kernel
theorem dX1_isAheadOf_34 : decode cX1_isAheadOf 34 = .ok (.goto 4, 3) := by decide +kernel
theorem dX1_isAheadOf_37 : decode cX1_isAheadOf 37 = .ok (.iconst 0, 1) := by decide +kernel
theorem dX1_isAheadOf_38 : decode cX1_isAheadOf 38 = .ok (.ireturn, 1) := by decide +kernel
theorem dX3_markAt_0 : decode cX3_markAt 0 = .ok (.iload_n 0, 1) := by decide +kernel
theorem dX3_markAt_1 : decode cX3_markAt 1 = .ok (.iconst 3, 1) := by decide +kernel
theorem dX3_markAt_2 : decode cX3_markAt 2 = .ok (.iconst 3, 1) := by decide +kernel
theorem dX3_markAt_3 : decode cX3_markAt 3 = .ok (.iload_n 1, 1) := by decide +kernel
theorem dX3_markAt_4 : decode cX3_markAt 4 = .ok (.isub, 1) := by decide +kernel
theorem dX3_markAt_5 : decode cX3_markAt 5 = .ok (.imul, 1) := by decide +kernel
theorem dX3_markAt_6 : decode cX3_markAt 6 = .ok (.ishr, 1) := by decide +kernel
theorem dX3_markAt_7 : decode cX3_markAt 7 = .ok (.bipush 7, 2) := by decide +kernel
theorem dX3_markAt_9 : decode cX3_markAt 9 = .ok (.iand, 1) := by decide +kernel
theorem dX3_markAt_10 : decode cX3_markAt 10 = .ok (.ireturn, 1) := by decide +kernel
theorem dX3_child_0 : decode cX3_child 0 = .ok (.aload_n 0, 1) := by decide +kernel
theorem dX3_child_1 : decode cX3_child 1 = .ok (.getfield 25, 3) := by decide +kernel
theorem dX3_child_4 : decode cX3_child 4 = .ok (.astore_n 2, 1) := by decide +kernel
theorem dX3_child_5 : decode cX3_child 5 = .ok (.aload_n 2, 1) := by decide +kernel
theorem dX3_child_6 : decode cX3_child 6 = .ok (.ifnull 19, 3) := by decide +kernel
theorem dX3_child_9 : decode cX3_child 9 = .ok (.aload_n 2, 1) := by decide +kernel
theorem dX3_child_10 : decode cX3_child 10 = .ok (.getfield 19, 3) := by decide +kernel
theorem dX3_child_13 : decode cX3_child 13 = .ok (.iload_n 1, 1) := by decide +kernel
theorem dX3_child_14 : decode cX3_child 14 = .ok (.if_icmp .eq 11, 3) := by decide +kernel
theorem dX3_child_17 : decode cX3_child 17 = .ok (.aload_n 2, 1) := by decide +kernel
theorem dX3_child_18 : decode cX3_child 18 = .ok (.getfield 22, 3) := by decide +kernel
theorem dX3_child_21 : decode cX3_child 21 = .ok (.astore_n 2, 1) := by decide +kernel
theorem dX3_child_22 : decode cX3_child 22 = .ok (.goto (-17), 3) := by decide +kernel
theorem dX3_child_25 : decode cX3_child 25 = .ok (.aload_n 2, 1) := by decide +kernel
theorem dX3_child_26 : decode cX3_child 26 = .ok (.areturn, 1) := by decide +kernel
set_option maxRecDepth 20000 in
theorem ggX3_find_X3_markAt : GoodIn wsX3_find wsX3_markAt := goodIn_r _ [4] (by decide +kernel) (by decide +kernel)
set_option maxRecDepth 20000 in
theorem gX3_find_X3_markAt : GoodIn wsX3_find (va_wsS RX3 28 yX3_markAt wsX3_markAt) := goodIn_app (goodIn_of _ (by decide +kernel)) ggX3_find_X3_markAt
set_option maxRecDepth 20000 in
theorem ggX3_find_X3_child : GoodIn wsX3_find wsX3_child := goodIn_r _ [8, 9, 10, 11, 12, 13, 14, 15, 16, 17, 18, 19] (by decide +kernel) (by decide +kernel)
set_option maxRecDepth 20000 in
theorem gX3_find_X3_child : GoodIn wsX3_find (wsV RX3 32 RX3 yX3_child wsX3_child) := goodIn_app (goodIn_of _ (by decide +kernel)) ggX3_find_X3_child
theorem dX3_find_0 : decode cX3_find 0 = .ok (.aload_n 0, 1) := by decide +kernel
theorem dX3_find_1 : decode cX3_find 1 = .ok (.astore_n 3, 1) := by decide +kernel
theorem dX3_find_2 : decode cX3_find 2 = .ok (.iconst 0, 1) := by decide +kernel
theorem dX3_find_3 : decode cX3_find 3 = .ok (.istore 4, 2) := by decide +kernel
theorem dX3_find_5 : decode cX3_find 5 = .ok (.iload 4, 2) := by decide +kernel
theorem dX3_find_7 : decode cX3_find 7 = .ok (.iload_n 1, 1) := by decide +kernel
theorem dX3_find_8 : decode cX3_find 8 = .ok (.if_icmp .ge 24, 3) := by decide +kernel
theorem dX3_find_11 : decode cX3_find 11 = .ok (.aload_n 3, 1) := by decide +kernel
theorem dX3_find_12 : decode cX3_find 12 = .ok (.ifnull 20, 3) := by decide +kernel
theorem dX3_find_15 : decode cX3_find 15 = .ok (.aload_n 3, 1) := by decide +kernel
theorem dX3_find_16 : decode cX3_find 16 = .ok (.iload_n 2, 1) := by decide +kernel
theorem dX3_find_17 : decode cX3_find 17 = .ok (.iload 4, 2) := by decide +kernel
theorem dX3_find_19 : decode cX3_find 19 = .ok (.invokestatic 28, 3) := by decide +kernel
theorem dX3_find_22 : decode cX3_find 22 = .ok (.invokevirtual 32, 3) := by decide +kernel
theorem dX3_find_25 : decode cX3_find 25 = .ok (.astore_n 3, 1) := by decide +kernel
theorem dX3_find_26 : decode cX3_find 26 = .ok (.iinc 4 1, 3) := by decide +kernel
theorem dX3_find_29 : decode cX3_find 29 = .ok (.goto (-24), 3) := by decide +kernel
theorem dX3_find_32 : decode cX3_find 32 = .ok (.aload_n 3, 1) := by decide +kernel
theorem dX3_find_33 : decode cX3_find 33 = .ok (.areturn, 1) := by decide +kernel
theorem dX3_oddsUpper_0 : decode cX3_oddsUpper 0 = .ok (.aload_n 0, 1) := by decide +kernel
theorem dX3_oddsUpper_1 : decode cX3_oddsUpper 1 = .ok (.getfield 42, 3) := by decide +kernel
theorem dX3_oddsUpper_4 : decode cX3_oddsUpper 4 = .ok (.ifCond .ne 7, 3) := by decide +kernel
theorem dX3_oddsUpper_7 : decode cX3_oddsUpper 7 = .ok (.iconst 1, 1) := by decide +kernel
theorem dX3_oddsUpper_8 : decode cX3_oddsUpper 8 = .ok (.goto 7, 3) := by decide +kernel
theorem dX3_oddsUpper_11 : decode cX3_oddsUpper 11 = .ok (.aload_n 0, 1) := by decide +kernel
theorem dX3_oddsUpper_12 : decode cX3_oddsUpper 12 = .ok (.getfield 45, 3) := by decide +kernel
theorem dX3_oddsUpper_15 : decode cX3_oddsUpper 15 = .ok (.ireturn, 1) := by decide +kernel
theorem dX3_oddsLower_0 : decode cX3_oddsLower 0 = .ok (.aload_n 0, 1) := by decide +kernel
theorem dX3_oddsLower_1 : decode cX3_oddsLower 1 = .ok (.getfield 42, 3) := by decide +kernel
theorem dX3_oddsLower_4 : decode cX3_oddsLower 4 = .ok (.ifCond .ne 7, 3) := by decide +kernel
theorem dX3_oddsLower_7 : decode cX3_oddsLower 7 = .ok (.iconst 2, 1) := by decide +kernel
theorem dX3_oddsLower_8 : decode cX3_oddsLower 8 = .ok (.goto 7, 3) := by decide +kernel
theorem dX3_oddsLower_11 : decode cX3_oddsLower 11 = .ok (.aload_n 0, 1) := by decide +kernel
theorem dX3_oddsLower_12 : decode cX3_oddsLower 12 = .ok (.getfield 42, 3) := by decide +kernel
theorem dX3_oddsLower_15 : decode cX3_oddsLower 15 = .ok (.ireturn, 1) := by decide +kernel
theorem dX6_covers_0 : decode cX6_covers 0 = .ok (.iload_n 1, 1) := by decide +kernel
theorem dX6_covers_1 : decode cX6_covers 1 = .ok (.aload_n 0, 1) := by decide +kernel
theorem dX6_covers_2 : decode cX6_covers 2 = .ok (.getfield 7, 3) := by decide +kernel
theorem dX6_covers_5 : decode cX6_covers 5 = .ok (.if_icmp .ne 23, 3) := by decide +kernel
theorem dX6_covers_8 : decode cX6_covers 8 = .ok (.aload_n 0, 1) := by decide +kernel
theorem dX6_covers_9 : decode cX6_covers 9 = .ok (.getfield 13, 3) := by decide +kernel
theorem dX6_covers_12 : decode cX6_covers 12 = .ok (.iload_n 2, 1) := by decide +kernel
theorem dX6_covers_13 : decode cX6_covers 13 = .ok (.if_icmp .gt 15, 3) := by decide +kernel
theorem dX6_covers_16 : decode cX6_covers 16 = .ok (.iload_n 2, 1) := by decide +kernel
theorem dX6_covers_17 : decode cX6_covers 17 = .ok (.aload_n 0, 1) := by decide +kernel
theorem dX6_covers_18 : decode cX6_covers 18 = .ok (.getfield 16, 3) := by decide +kernel
theorem dX6_covers_21 : decode cX6_covers 21 = .ok (.if_icmp .gt 7, 3) := by decide +kernel
theorem dX6_covers_24 : decode cX6_covers 24 = .ok (.iconst 1, 1) := by decide +kernel
theorem dX6_covers_25 : decode cX6_covers 25 = .ok (.goto 4, 3) := by decide +kernel
theorem dX6_covers_28 : decode cX6_covers 28 = .ok (.iconst 0, 1) := by decide +kernel
theorem dX6_covers_29 : decode cX6_covers 29 = .ok (.ireturn, 1) := by decide +kernel
theorem dX8_isBelow_0 : decode cX8_isBelow 0 = .ok (.iload_n 0, 1) := by decide +kernel
theorem dX8_isBelow_1 : decode cX8_isBelow 1 = .ok (.ifCond .lt 12, 3) := by decide +kernel
theorem dX8_isBelow_4 : decode cX8_isBelow 4 = .ok (.iload_n 0, 1) := by decide +kernel
theorem dX8_isBelow_5 : decode cX8_isBelow 5 = .ok (.iload_n 1, 1) := by decide +kernel
theorem dX8_isBelow_6 : decode cX8_isBelow 6 = .ok (.if_icmp .ge 7, 3) := by decide +kernel
theorem dX8_isBelow_9 : decode cX8_isBelow 9 = .ok (.iconst 1, 1) := by decide +kernel
theorem dX8_isBelow_10 : decode cX8_isBelow 10 = .ok (.goto 4, 3) := by decide +kernel
theorem dX8_isBelow_13 : decode cX8_isBelow 13 = .ok (.iconst 0, 1) := by decide +kernel
theorem dX8_isBelow_14 : decode cX8_isBelow 14 = .ok (.ireturn, 1) := by decide +kernel
theorem dX8_oneIf_0 : decode cX8_oneIf 0 = .ok (.iload_n 0, 1) := by decide +kernel
theorem dX8_oneIf_1 : decode cX8_oneIf 1 = .ok (.ifCond .eq 7, 3) := by decide +kernel
theorem dX8_oneIf_4 : decode cX8_oneIf 4 = .ok (.iconst 1, 1) := by decide +kernel
theorem dX8_oneIf_5 : decode cX8_oneIf 5 = .ok (.goto 4, 3) := by decide +kernel
theorem dX8_oneIf_8 : decode cX8_oneIf 8 = .ok (.iconst 0, 1) := by decide +kernel
theorem dX8_oneIf_9 : decode cX8_oneIf 9 = .ok (.ireturn, 1) := by decide +kernel
theorem dX8_inLowestTerms_0 : decode cX8_inLowestTerms 0 = .ok (.iload_n 1, 1) := by decide +kernel
theorem dX8_inLowestTerms_1 : decode cX8_inLowestTerms 1 = .ok (.istore_n 3, 1) := by decide +kernel
theorem dX8_inLowestTerms_2 : decode cX8_inLowestTerms 2 = .ok (.iload_n 0, 1) := by decide +kernel
theorem dX8_inLowestTerms_3 : decode cX8_inLowestTerms 3 = .ok (.istore 4, 2) := by decide +kernel
theorem dX8_inLowestTerms_5 : decode cX8_inLowestTerms 5 = .ok (.iconst 0, 1) := by decide +kernel
theorem dX8_inLowestTerms_6 : decode cX8_inLowestTerms 6 = .ok (.istore 5, 2) := by decide +kernel
theorem dX8_inLowestTerms_8 : decode cX8_inLowestTerms 8 = .ok (.iload 5, 2) := by decide +kernel
theorem dX8_inLowestTerms_10 : decode cX8_inLowestTerms 10 = .ok (.bipush 100, 2) := by decide +kernel
theorem dX8_inLowestTerms_12 : decode cX8_inLowestTerms 12 = .ok (.if_icmp .ge 27, 3) := by decide +kernel
theorem dX8_inLowestTerms_15 : decode cX8_inLowestTerms 15 = .ok (.iload 4, 2) := by decide +kernel
theorem dX8_inLowestTerms_17 : decode cX8_inLowestTerms 17 = .ok (.ifCond .le 22, 3) := by decide +kernel
theorem dX8_inLowestTerms_20 : decode cX8_inLowestTerms 20 = .ok (.iload_n 3, 1) := by decide +kernel
theorem dX8_inLowestTerms_21 : decode cX8_inLowestTerms 21 = .ok (.iload 4, 2) := by decide +kernel
theorem dX8_inLowestTerms_23 : decode cX8_inLowestTerms 23 = .ok (.irem, 1) := by decide +kernel
theorem dX8_inLowestTerms_24 : decode cX8_inLowestTerms 24 = .ok (.istore 6, 2) := by decide +kernel
theorem dX8_inLowestTerms_26 : decode cX8_inLowestTerms 26 = .ok (.iload 4, 2) := by decide +kernel
theorem dX8_inLowestTerms_28 : decode cX8_inLowestTerms 28 = .ok (.istore_n 3, 1) := by decide +kernel
theorem dX8_inLowestTerms_29 : decode cX8_inLowestTerms 29 = .ok (.iload 6, 2) := by decide +kernel
theorem dX8_inLowestTerms_31 : decode cX8_inLowestTerms 31 = .ok (.istore 4, 2) := by decide +kernel
theorem dX8_inLowestTerms_33 : decode cX8_inLowestTerms 33 = .ok (.iinc 5 1, 3) := by decide +kernel
theorem dX8_inLowestTerms_36 : decode cX8_inLowestTerms 36 = .ok (.goto (-28), 3) := by decide +kernel
theorem dX8_inLowestTerms_39 : decode cX8_inLowestTerms 39 = .ok (.iload_n 3, 1) := by decide +kernel
theorem dX8_inLowestTerms_40 : decode cX8_inLowestTerms 40 = .ok (.iconst 1, 1) := by decide +kernel
theorem dX8_inLowestTerms_41 : decode cX8_inLowestTerms 41 = .ok (.if_icmp .ge 5, 3) := by decide +kernel
theorem dX8_inLowestTerms_44 : decode cX8_inLowestTerms 44 = .ok (.iconst (-1), 1) := by decide +kernel
theorem dX8_inLowestTerms_45 : decode cX8_inLowestTerms 45 = .ok (.ireturn, 1) := by decide +kernel
theorem dX8_inLowestTerms_46 : decode cX8_inLowestTerms 46 = .ok (.iload_n 2, 1) := by decide +kernel
theorem dX8_inLowestTerms_47 : decode cX8_inLowestTerms 47 = .ok (.ifCond .eq 7, 3) := by decide +kernel
theorem dX8_inLowestTerms_50 : decode cX8_inLowestTerms 50 = .ok (.iload_n 0, 1) := by decide +kernel
theorem dX8_inLowestTerms_51 : decode cX8_inLowestTerms 51 = .ok (.goto 4, 3) := by decide +kernel
theorem dX8_inLowestTerms_54 : decode cX8_inLowestTerms 54 = .ok (.iload_n 1, 1) := by decide +kernel
theorem dX8_inLowestTerms_55 : decode cX8_inLowestTerms 55 = .ok (.iload_n 3, 1) := by decide +kernel
theorem dX8_inLowestTerms_56 : decode cX8_inLowestTerms 56 = .ok (.idiv, 1) := by decide +kernel
theorem dX8_inLowestTerms_57 : decode cX8_inLowestTerms 57 = .ok (.ireturn, 1) := by decide +kernel
set_option maxRecDepth 20000 in
theorem ggX8_isOfKind_X0_isHushed : GoodIn wsX8_isOfKind wsX0_isHushed := goodIn_r _ [9, 10, 11, 12, 13, 14, 15, 16, 17, 18, 19, 20, 21, 22, 23, 24, 25, 26, 27, 28] (by decide +kernel) (by decide +kernel)
set_option maxRecDepth 20000 in
theorem gX8_isOfKind_X0_isHushed : GoodIn wsX8_isOfKind (wsV RX8 273 RX0 yX0_isHushed wsX0_isHushed) := goodIn_app (goodIn_of _ (by decide +kernel)) ggX8_isOfKind_X0_isHushed
theorem dX8_isOfKind_0 : decode cX8_isOfKind 0 = .ok (.iload_n 1, 1) := by decide +kernel
theorem dX8_isOfKind_1 : decode cX8_isOfKind 1 = .ok (.tableswitch 117 0 6 #[43, 45, 58, 63, 68, 82, 96], 43) := by decide +kernel
theorem dX8_isOfKind_44 : decode cX8_isOfKind 44 = .ok (.iconst 1, 1) := by decide +kernel
theorem dX8_isOfKind_45 : decode cX8_isOfKind 45 = .ok (.ireturn, 1) := by decide +kernel
theorem dX8_isOfKind_46 : decode cX8_isOfKind 46 = .ok (.aload_n 0, 1) := by decide +kernel
theorem dX8_isOfKind_47 : decode cX8_isOfKind 47 = .ok (.getfield 163, 3) := by decide +kernel
theorem dX8_isOfKind_50 : decode cX8_isOfKind 50 = .ok (.ifCond .le 7, 3) := by decide +kernel
theorem dX8_isOfKind_53 : decode cX8_isOfKind 53 = .ok (.iconst 1, 1) := by decide +kernel
theorem dX8_isOfKind_54 : decode cX8_isOfKind 54 = .ok (.goto 4, 3) := by decide +kernel
theorem dX8_isOfKind_57 : decode cX8_isOfKind 57 = .ok (.iconst 0, 1) := by decide +kernel
theorem dX8_isOfKind_58 : decode cX8_isOfKind 58 = .ok (.ireturn, 1) := by decide +kernel
theorem dX8_isOfKind_59 : decode cX8_isOfKind 59 = .ok (.aload_n 0, 1) := by decide +kernel
theorem dX8_isOfKind_60 : decode cX8_isOfKind 60 = .ok (.getfield 93, 3) := by decide +kernel
theorem dX8_isOfKind_63 : decode cX8_isOfKind 63 = .ok (.ireturn, 1) := by decide +kernel
theorem dX8_isOfKind_64 : decode cX8_isOfKind 64 = .ok (.aload_n 0, 1) := by decide +kernel
theorem dX8_isOfKind_65 : decode cX8_isOfKind 65 = .ok (.getfield 100, 3) := by decide +kernel
theorem dX8_isOfKind_68 : decode cX8_isOfKind 68 = .ok (.ireturn, 1) := by decide +kernel
theorem dX8_isOfKind_69 : decode cX8_isOfKind 69 = .ok (.aload_n 0, 1) := by decide +kernel
theorem dX8_isOfKind_70 : decode cX8_isOfKind 70 = .ok (.getfield 166, 3) := by decide +kernel
theorem dX8_isOfKind_73 : decode cX8_isOfKind 73 = .ok (.iconst 1, 1) := by decide +kernel
theorem dX8_isOfKind_74 : decode cX8_isOfKind 74 = .ok (.if_icmp .ne 7, 3) := by decide +kernel
theorem dX8_isOfKind_77 : decode cX8_isOfKind 77 = .ok (.iconst 1, 1) := by decide +kernel
theorem dX8_isOfKind_78 : decode cX8_isOfKind 78 = .ok (.goto 4, 3) := by decide +kernel
theorem dX8_isOfKind_81 : decode cX8_isOfKind 81 = .ok (.iconst 0, 1) := by decide +kernel
theorem dX8_isOfKind_82 : decode cX8_isOfKind 82 = .ok (.ireturn, 1) := by decide +kernel
theorem dX8_isOfKind_83 : decode cX8_isOfKind 83 = .ok (.aload_n 0, 1) := by decide +kernel
theorem dX8_isOfKind_84 : decode cX8_isOfKind 84 = .ok (.getfield 166, 3) := by decide +kernel
theorem dX8_isOfKind_87 : decode cX8_isOfKind 87 = .ok (.iconst 2, 1) := by decide +kernel
theorem dX8_isOfKind_88 : decode cX8_isOfKind 88 = .ok (.if_icmp .ne 7, 3) := by decide +kernel
theorem dX8_isOfKind_91 : decode cX8_isOfKind 91 = .ok (.iconst 1, 1) := by decide +kernel
theorem dX8_isOfKind_92 : decode cX8_isOfKind 92 = .ok (.goto 4, 3) := by decide +kernel
theorem dX8_isOfKind_95 : decode cX8_isOfKind 95 = .ok (.iconst 0, 1) := by decide +kernel
theorem dX8_isOfKind_96 : decode cX8_isOfKind 96 = .ok (.ireturn, 1) := by decide +kernel
theorem dX8_isOfKind_97 : decode cX8_isOfKind 97 = .ok (.aload_n 0, 1) := by decide +kernel
theorem dX8_isOfKind_98 : decode cX8_isOfKind 98 = .ok (.getfield 166, 3) := by decide +kernel
theorem dX8_isOfKind_101 : decode cX8_isOfKind 101 = .ok (.iconst 1, 1) := by decide +kernel
theorem dX8_isOfKind_102 : decode cX8_isOfKind 102 = .ok (.if_icmp .ne 14, 3) := by decide +kernel
theorem dX8_isOfKind_105 : decode cX8_isOfKind 105 = .ok (.aload_n 0, 1) := by decide +kernel
theorem dX8_isOfKind_106 : decode cX8_isOfKind 106 = .ok (.invokevirtual 273, 3) := by decide +kernel
theorem dX8_isOfKind_109 : decode cX8_isOfKind 109 = .ok (.ifCond .eq 7, 3) := by decide +kernel
theorem dX8_isOfKind_112 : decode cX8_isOfKind 112 = .ok (.iconst 1, 1) := by decide +kernel
theorem dX8_isOfKind_113 : decode cX8_isOfKind 113 = .ok (.goto 4, 3) := by decide +kernel
theorem dX8_isOfKind_116 : decode cX8_isOfKind 116 = .ok (.iconst 0, 1) := by decide +kernel
theorem dX8_isOfKind_117 : decode cX8_isOfKind 117 = .ok (.ireturn, 1) := by decide +kernel
theorem dX8_isOfKind_118 : decode cX8_isOfKind 118 = .ok (.iconst 0, 1) := by decide +kernel
theorem dX8_isOfKind_119 : decode cX8_isOfKind 119 = .ok (.ireturn, 1) := by decide +kernel
theorem dJ6_bitCount_0f7a4_0 : decode cJ6_bitCount_0f7a4 0 = .ok (.iload_n 0, 1) := by decide +kernel
theorem dJ6_bitCount_0f7a4_1 : decode cJ6_bitCount_0f7a4 1 = .ok (.iload_n 0, 1) := by decide +kernel
theorem dJ6_bitCount_0f7a4_2 : decode cJ6_bitCount_0f7a4 2 = .ok (.iconst 1, 1) := by decide +kernel
theorem dJ6_bitCount_0f7a4_3 : decode cJ6_bitCount_0f7a4 3 = .ok (.iushr, 1) := by decide +kernel
theorem dJ6_bitCount_0f7a4_4 : decode cJ6_bitCount_0f7a4 4 = .ok (.ldc_w 265, 3) := by decide +kernel
theorem dJ6_bitCount_0f7a4_7 : decode cJ6_bitCount_0f7a4 7 = .ok (.iand, 1) := by decide +kernel
theorem dJ6_bitCount_0f7a4_8 : decode cJ6_bitCount_0f7a4 8 = .ok (.isub, 1) := by decide +kernel
theorem dJ6_bitCount_0f7a4_9 : decode cJ6_bitCount_0f7a4 9 = .ok (.istore_n 0, 1) := by decide +kernel
theorem dJ6_bitCount_0f7a4_10 : decode cJ6_bitCount_0f7a4 10 = .ok (.iload_n 0, 1) := by decide +kernel
theorem dJ6_bitCount_0f7a4_11 : decode cJ6_bitCount_0f7a4 11 = .ok (.ldc_w 266, 3) := by decide +kernel
theorem dJ6_bitCount_0f7a4_14 : decode cJ6_bitCount_0f7a4 14 = .ok (.iand, 1) := by decide +kernel
theorem dJ6_bitCount_0f7a4_15 : decode cJ6_bitCount_0f7a4 15 = .ok (.iload_n 0, 1) := by decide +kernel
theorem dJ6_bitCount_0f7a4_16 : decode cJ6_bitCount_0f7a4 16 = .ok (.iconst 2, 1) := by decide +kernel
theorem dJ6_bitCount_0f7a4_17 : decode cJ6_bitCount_0f7a4 17 = .ok (.iushr, 1) := by decide +kernel
theorem dJ6_bitCount_0f7a4_18 : decode cJ6_bitCount_0f7a4 18 = .ok (.ldc_w 266, 3) := by decide +kernel
theorem dJ6_bitCount_0f7a4_21 : decode cJ6_bitCount_0f7a4 21 = .ok (.iand, 1) := by decide +kernel
theorem dJ6_bitCount_0f7a4_22 : decode cJ6_bitCount_0f7a4 22 = .ok (.iadd, 1) := by decide +kernel
theorem dJ6_bitCount_0f7a4_23 : decode cJ6_bitCount_0f7a4 23 = .ok (.istore_n 0, 1) := by decide +kernel
theorem dJ6_bitCount_0f7a4_24 : decode cJ6_bitCount_0f7a4 24 = .ok (.iload_n 0, 1) := by decide +kernel
theorem dJ6_bitCount_0f7a4_25 : decode cJ6_bitCount_0f7a4 25 = .ok (.iload_n 0, 1) := by decide +kernel
theorem dJ6_bitCount_0f7a4_26 : decode cJ6_bitCount_0f7a4 26 = .ok (.iconst 4, 1) := by decide +kernel
theorem dJ6_bitCount_0f7a4_27 : decode cJ6_bitCount_0f7a4 27 = .ok (.iushr, 1) := by decide +kernel
theorem dJ6_bitCount_0f7a4_28 : decode cJ6_bitCount_0f7a4 28 = .ok (.iadd, 1) := by decide +kernel
theorem dJ6_bitCount_0f7a4_29 : decode cJ6_bitCount_0f7a4 29 = .ok (.ldc_w 267, 3) := by decide +kernel
theorem dJ6_bitCount_0f7a4_32 : decode cJ6_bitCount_0f7a4 32 = .ok (.iand, 1) := by decide +kernel
theorem dJ6_bitCount_0f7a4_33 : decode cJ6_bitCount_0f7a4 33 = .ok (.istore_n 0, 1) := by decide +kernel
theorem dJ6_bitCount_0f7a4_34 : decode cJ6_bitCount_0f7a4 34 = .ok (.iload_n 0, 1) := by decide +kernel
theorem dJ6_bitCount_0f7a4_35 : decode cJ6_bitCount_0f7a4 35 = .ok (.iload_n 0, 1) := by decide +kernel
theorem dJ6_bitCount_0f7a4_36 : decode cJ6_bitCount_0f7a4 36 = .ok (.bipush 8, 2) := by decide +kernel
theorem dJ6_bitCount_0f7a4_38 : decode cJ6_bitCount_0f7a4 38 = .ok (.iushr, 1) := by decide +kernel
theorem dJ6_bitCount_0f7a4_39 : decode cJ6_bitCount_0f7a4 39 = .ok (.iadd, 1) := by decide +kernel
theorem dJ6_bitCount_0f7a4_40 : decode cJ6_bitCount_0f7a4 40 = .ok (.istore_n 0, 1) := by decide +kernel
theorem dJ6_bitCount_0f7a4_41 : decode cJ6_bitCount_0f7a4 41 = .ok (.iload_n 0, 1) := by decide +kernel
theorem dJ6_bitCount_0f7a4_42 : decode cJ6_bitCount_0f7a4 42 = .ok (.iload_n 0, 1) := by decide +kernel
theorem dJ6_bitCount_0f7a4_43 : decode cJ6_bitCount_0f7a4 43 = .ok (.bipush 16, 2) := by decide +kernel
theorem dJ6_bitCount_0f7a4_45 : decode cJ6_bitCount_0f7a4 45 = .ok (.iushr, 1) := by decide +kernel
theorem dJ6_bitCount_0f7a4_46 : decode cJ6_bitCount_0f7a4 46 = .ok (.iadd, 1) := by decide +kernel
theorem dJ6_bitCount_0f7a4_47 : decode cJ6_bitCount_0f7a4 47 = .ok (.istore_n 0, 1) := by decide +kernel
theorem dJ6_bitCount_0f7a4_48 : decode cJ6_bitCount_0f7a4 48 = .ok (.iload_n 0, 1) := by decide +kernel
theorem dJ6_bitCount_0f7a4_49 : decode cJ6_bitCount_0f7a4 49 = .ok (.bipush 63, 2) := by decide +kernel
theorem dJ6_bitCount_0f7a4_51 : decode cJ6_bitCount_0f7a4 51 = .ok (.iand, 1) := by decide +kernel
theorem dJ6_bitCount_0f7a4_52 : decode cJ6_bitCount_0f7a4 52 = .ok (.ireturn, 1) := by decide +kernel
