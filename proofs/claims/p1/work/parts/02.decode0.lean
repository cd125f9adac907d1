theorem dX0_init_0 : decode cX0_init 0 = .ok (.aload_n 0, 1) := by decide +kernel
theorem dX0_init_1 : decode cX0_init 1 = .ok (.invokespecial 3, 3) := by decide +kernel
theorem dX0_init_4 : decode cX0_init 4 = .ok (.aload_n 0, 1) := by decide +kernel
theorem dX0_init_5 : decode cX0_init 5 = .ok (.iconst 0, 1) := by decide +kernel
theorem dX0_init_6 : decode cX0_init 6 = .ok (.putfield 9, 3) := by decide +kernel
theorem dX0_init_9 : decode cX0_init 9 = .ok (.aload_n 0, 1) := by decide +kernel
theorem dX0_init_10 : decode cX0_init 10 = .ok (.iload_n 1, 1) := by decide +kernel
theorem dX0_init_11 : decode cX0_init 11 = .ok (.putfield 15, 3) := by decide +kernel
theorem dX0_init_14 : decode cX0_init 14 = .ok (.aload_n 0, 1) := by decide +kernel
theorem dX0_init_15 : decode cX0_init 15 = .ok (.iload_n 2, 1) := by decide +kernel
theorem dX0_init_16 : decode cX0_init 16 = .ok (.putfield 18, 3) := by decide +kernel
theorem dX0_init_19 : decode cX0_init 19 = .ok (.aload_n 0, 1) := by decide +kernel
theorem dX0_init_20 : decode cX0_init 20 = .ok (.iload_n 3, 1) := by decide +kernel
theorem dX0_init_21 : decode cX0_init 21 = .ok (.putfield 21, 3) := by decide +kernel
theorem dX0_init_24 : decode cX0_init 24 = .ok (.aload_n 0, 1) := by decide +kernel
theorem dX0_init_25 : decode cX0_init 25 = .ok (.iload 4, 2) := by decide +kernel
theorem dX0_init_27 : decode cX0_init 27 = .ok (.putfield 24, 3) := by decide +kernel
theorem dX0_init_30 : decode cX0_init 30 = .ok (.aload_n 0, 1) := by decide +kernel
theorem dX0_init_31 : decode cX0_init 31 = .ok (.iload 5, 2) := by decide +kernel
theorem dX0_init_33 : decode cX0_init 33 = .ok (.putfield 27, 3) := by decide +kernel
theorem dX0_init_36 : decode cX0_init 36 = .ok (.aload_n 0, 1) := by decide +kernel
theorem dX0_init_37 : decode cX0_init 37 = .ok (.iload 6, 2) := by decide +kernel
theorem dX0_init_39 : decode cX0_init 39 = .ok (.putfield 30, 3) := by decide +kernel
theorem dX0_init_42 : decode cX0_init 42 = .ok (.aload_n 0, 1) := by decide +kernel
theorem dX0_init_43 : decode cX0_init 43 = .ok (.aload 7, 2) := by decide +kernel
theorem dX0_init_45 : decode cX0_init 45 = .ok (.putfield 33, 3) := by decide +kernel
theorem dX0_init_48 : decode cX0_init 48 = .ok (.aload_n 0, 1) := by decide +kernel
theorem dX0_init_49 : decode cX0_init 49 = .ok (.new 37, 3) := by decide +kernel
theorem dX0_init_52 : decode cX0_init 52 = .ok (.dup, 1) := by decide +kernel
theorem dX0_init_53 : decode cX0_init 53 = .ok (.iload_n 1, 1) := by decide +kernel
theorem dX0_init_54 : decode cX0_init 54 = .ok (.invokespecial 39, 3) := by decide +kernel
theorem dX0_init_57 : decode cX0_init 57 = .ok (.putfield 42, 3) := by decide +kernel
theorem dX0_init_60 : decode cX0_init 60 = .ok (.aload_n 0, 1) := by decide +kernel
theorem dX0_init_61 : decode cX0_init 61 = .ok (.iload_n 2, 1) := by decide +kernel
theorem dX0_init_62 : decode cX0_init 62 = .ok (.putfield 46, 3) := by decide +kernel
theorem dX0_init_65 : decode cX0_init 65 = .ok (.return_, 1) := by decide +kernel
theorem dX0_isOpen_0 : decode cX0_isOpen 0 = .ok (.aload_n 0, 1) := by decide +kernel
theorem dX0_isOpen_1 : decode cX0_isOpen 1 = .ok (.getfield 9, 3) := by decide +kernel
theorem dX0_isOpen_4 : decode cX0_isOpen 4 = .ok (.ifCond .ne 7, 3) := by decide +kernel
theorem dX0_isOpen_7 : decode cX0_isOpen 7 = .ok (.iconst 1, 1) := by decide +kernel
theorem dX0_isOpen_8 : decode cX0_isOpen 8 = .ok (.goto 4, 3) := by decide +kernel
theorem dX0_isOpen_11 : decode cX0_isOpen 11 = .ok (.iconst 0, 1) := by decide +kernel
theorem dX0_isOpen_12 : decode cX0_isOpen 12 = .ok (.ireturn, 1) := by decide +kernel
theorem dX0_isHushed_0 : decode cX0_isHushed 0 = .ok (.aload_n 0, 1) := by decide +kernel
theorem dX0_isHushed_1 : decode cX0_isHushed 1 = .ok (.getfield 49, 3) := by decide +kernel
theorem dX0_isHushed_4 : decode cX0_isHushed 4 = .ok (.ifCond .ne 10, 3) := by decide +kernel
theorem dX0_isHushed_7 : decode cX0_isHushed 7 = .ok (.aload_n 0, 1) := by decide +kernel
theorem dX0_isHushed_8 : decode cX0_isHushed 8 = .ok (.getfield 53, 3) := by decide +kernel
theorem dX0_isHushed_11 : decode cX0_isHushed 11 = .ok (.ifCond .eq 7, 3) := by decide +kernel
theorem dX0_isHushed_14 : decode cX0_isHushed 14 = .ok (.iconst 1, 1) := by decide +kernel
theorem dX0_isHushed_15 : decode cX0_isHushed 15 = .ok (.goto 4, 3) := by decide +kernel
theorem dX0_isHushed_18 : decode cX0_isHushed 18 = .ok (.iconst 0, 1) := by decide +kernel
theorem dX0_isHushed_19 : decode cX0_isHushed 19 = .ok (.ireturn, 1) := by decide +kernel
theorem dX0_isLive_0 : decode cX0_isLive 0 = .ok (.aload_n 0, 1) := by decide +kernel
theorem dX0_isLive_1 : decode cX0_isLive 1 = .ok (.invokevirtual 56, 3) := by decide +kernel
theorem dX0_isLive_4 : decode cX0_isLive 4 = .ok (.ifCond .eq 14, 3) := by decide +kernel
theorem dX0_isLive_7 : decode cX0_isLive 7 = .ok (.aload_n 0, 1) := by decide +kernel
theorem dX0_isLive_8 : decode cX0_isLive 8 = .ok (.invokevirtual 60, 3) := by decide +kernel
theorem dX0_isLive_11 : decode cX0_isLive 11 = .ok (.ifCond .ne 7, 3) := by decide +kernel
theorem dX0_isLive_14 : decode cX0_isLive 14 = .ok (.iconst 1, 1) := by decide +kernel
theorem dX0_isLive_15 : decode cX0_isLive 15 = .ok (.goto 4, 3) := by decide +kernel
theorem dX0_isLive_18 : decode cX0_isLive 18 = .ok (.iconst 0, 1) := by decide +kernel
theorem dX0_isLive_19 : decode cX0_isLive 19 = .ok (.ireturn, 1) := by decide +kernel
theorem dX0_repeat_0 : decode cX0_repeat 0 = .ok (.aload_n 0, 1) := by decide +kernel
theorem dX0_repeat_1 : decode cX0_repeat 1 = .ok (.dup, 1) := by decide +kernel
theorem dX0_repeat_2 : decode cX0_repeat 2 = .ok (.getfield 63, 3) := by decide +kernel
theorem dX0_repeat_5 : decode cX0_repeat 5 = .ok (.iconst 1, 1) := by decide +kernel
theorem dX0_repeat_6 : decode cX0_repeat 6 = .ok (.iadd, 1) := by decide +kernel
theorem dX0_repeat_7 : decode cX0_repeat 7 = .ok (.putfield 63, 3) := by decide +kernel
theorem dX0_repeat_10 : decode cX0_repeat 10 = .ok (.aload_n 0, 1) := by decide +kernel
theorem dX0_repeat_11 : decode cX0_repeat 11 = .ok (.iload_n 1, 1) := by decide +kernel
theorem dX0_repeat_12 : decode cX0_repeat 12 = .ok (.putfield 46, 3) := by decide +kernel
theorem dX0_repeat_15 : decode cX0_repeat 15 = .ok (.return_, 1) := by decide +kernel
theorem dX0_hasHeard_0 : decode cX0_hasHeard 0 = .ok (.aload_n 0, 1) := by decide +kernel
theorem dX0_hasHeard_1 : decode cX0_hasHeard 1 = .ok (.getfield 66, 3) := by decide +kernel
theorem dX0_hasHeard_4 : decode cX0_hasHeard 4 = .ok (.aload_n 0, 1) := by decide +kernel
theorem dX0_hasHeard_5 : decode cX0_hasHeard 5 = .ok (.getfield 69, 3) := by decide +kernel
theorem dX0_hasHeard_8 : decode cX0_hasHeard 8 = .ok (.ior, 1) := by decide +kernel
theorem dX0_hasHeard_9 : decode cX0_hasHeard 9 = .ok (.iload_n 1, 1) := by decide +kernel
theorem dX0_hasHeard_10 : decode cX0_hasHeard 10 = .ok (.ishr, 1) := by decide +kernel
theorem dX0_hasHeard_11 : decode cX0_hasHeard 11 = .ok (.iconst 1, 1) := by decide +kernel
theorem dX0_hasHeard_12 : decode cX0_hasHeard 12 = .ok (.iand, 1) := by decide +kernel
theorem dX0_hasHeard_13 : decode cX0_hasHeard 13 = .ok (.iconst 1, 1) := by decide +kernel
theorem dX0_hasHeard_14 : decode cX0_hasHeard 14 = .ok (.if_icmp .ne 7, 3) := by decide +kernel
theorem dX0_hasHeard_17 : decode cX0_hasHeard 17 = .ok (.iconst 1, 1) := by decide +kernel
theorem dX0_hasHeard_18 : decode cX0_hasHeard 18 = .ok (.goto 4, 3) := by decide +kernel
theorem dX0_hasHeard_21 : decode cX0_hasHeard 21 = .ok (.iconst 0, 1) := by decide +kernel
theorem dX0_hasHeard_22 : decode cX0_hasHeard 22 = .ok (.ireturn, 1) := by decide +kernel
theorem dX0_hear_0 : decode cX0_hear 0 = .ok (.iload_n 2, 1) := by decide +kernel
theorem dX0_hear_1 : decode cX0_hear 1 = .ok (.ifCond .eq 18, 3) := by decide +kernel
theorem dX0_hear_4 : decode cX0_hear 4 = .ok (.aload_n 0, 1) := by decide +kernel
theorem dX0_hear_5 : decode cX0_hear 5 = .ok (.dup, 1) := by decide +kernel
theorem dX0_hear_6 : decode cX0_hear 6 = .ok (.getfield 66, 3) := by decide +kernel
theorem dX0_hear_9 : decode cX0_hear 9 = .ok (.iconst 1, 1) := by decide +kernel
theorem dX0_hear_10 : decode cX0_hear 10 = .ok (.iload_n 1, 1) := by decide +kernel
theorem dX0_hear_11 : decode cX0_hear 11 = .ok (.ishl, 1) := by decide +kernel
theorem dX0_hear_12 : decode cX0_hear 12 = .ok (.ior, 1) := by decide +kernel
theorem dX0_hear_13 : decode cX0_hear 13 = .ok (.putfield 66, 3) := by decide +kernel
theorem dX0_hear_16 : decode cX0_hear 16 = .ok (.goto 15, 3) := by decide +kernel
theorem dX0_hear_19 : decode cX0_hear 19 = .ok (.aload_n 0, 1) := by decide +kernel
theorem dX0_hear_20 : decode cX0_hear 20 = .ok (.dup, 1) := by decide +kernel
theorem dX0_hear_21 : decode cX0_hear 21 = .ok (.getfield 69, 3) := by decide +kernel
theorem dX0_hear_24 : decode cX0_hear 24 = .ok (.iconst 1, 1) := by decide +kernel
theorem dX0_hear_25 : decode cX0_hear 25 = .ok (.iload_n 1, 1) := by decide +kernel
theorem dX0_hear_26 : decode cX0_hear 26 = .ok (.ishl, 1) := by decide +kernel
theorem dX0_hear_27 : decode cX0_hear 27 = .ok (.ior, 1) := by decide +kernel
theorem dX0_hear_28 : decode cX0_hear 28 = .ok (.putfield 69, 3) := by decide +kernel
theorem dX0_hear_31 : decode cX0_hear 31 = .ok (.aload_n 0, 1) := by decide +kernel
theorem dX0_hear_32 : decode cX0_hear 32 = .ok (.getfield 66, 3) := by decide +kernel
theorem dX0_hear_35 : decode cX0_hear 35 = .ok (.invokestatic 72, 3) := by decide +kernel
theorem dX0_hear_38 : decode cX0_hear 38 = .ok (.iconst 2, 1) := by decide +kernel
theorem dX0_hear_39 : decode cX0_hear 39 = .ok (.if_icmp .lt 11, 3) := by decide +kernel
theorem dX0_hear_42 : decode cX0_hear 42 = .ok (.aload_n 0, 1) := by decide +kernel
theorem dX0_hear_43 : decode cX0_hear 43 = .ok (.iconst 1, 1) := by decide +kernel
theorem dX0_hear_44 : decode cX0_hear 44 = .ok (.putfield 9, 3) := by decide +kernel
theorem dX0_hear_47 : decode cX0_hear 47 = .ok (.goto 19, 3) := by decide +kernel
theorem dX0_hear_50 : decode cX0_hear 50 = .ok (.aload_n 0, 1) := by decide +kernel
theorem dX0_hear_51 : decode cX0_hear 51 = .ok (.getfield 69, 3) := by decide +kernel
theorem dX0_hear_54 : decode cX0_hear 54 = .ok (.invokestatic 72, 3) := by decide +kernel
theorem dX0_hear_57 : decode cX0_hear 57 = .ok (.iconst 2, 1) := by decide +kernel
theorem dX0_hear_58 : decode cX0_hear 58 = .ok (.if_icmp .lt 8, 3) := by decide +kernel
theorem dX0_hear_61 : decode cX0_hear 61 = .ok (.aload_n 0, 1) := by decide +kernel
theorem dX0_hear_62 : decode cX0_hear 62 = .ok (.iconst 2, 1) := by decide +kernel
theorem dX0_hear_63 : decode cX0_hear 63 = .ok (.putfield 9, 3) := by decide +kernel
theorem dX0_hear_66 : decode cX0_hear 66 = .ok (.return_, 1) := by decide +kernel
theorem dX0_verdicts_0 : decode cX0_verdicts 0 = .ok (.aload_n 0, 1) := by decide +kernel
theorem dX0_verdicts_1 : decode cX0_verdicts 1 = .ok (.getfield 66, 3) := by decide +kernel
theorem dX0_verdicts_4 : decode cX0_verdicts 4 = .ok (.aload_n 0, 1) := by decide +kernel
theorem dX0_verdicts_5 : decode cX0_verdicts 5 = .ok (.getfield 69, 3) := by decide +kernel
theorem dX0_verdicts_8 : decode cX0_verdicts 8 = .ok (.ior, 1) := by decide +kernel
theorem dX0_verdicts_9 : decode cX0_verdicts 9 = .ok (.invokestatic 72, 3) := by decide +kernel
theorem dX0_verdicts_12 : decode cX0_verdicts 12 = .ok (.ireturn, 1) := by decide +kernel
theorem dX0_nodeFor_0 : decode cX0_nodeFor 0 = .ok (.aload_n 0, 1) := by decide +kernel
theorem dX0_nodeFor_1 : decode cX0_nodeFor 1 = .ok (.getfield 33, 3) := by decide +kernel
theorem dX0_nodeFor_4 : decode cX0_nodeFor 4 = .ok (.astore_n 2, 1) := by decide +kernel
theorem dX0_nodeFor_5 : decode cX0_nodeFor 5 = .ok (.aload_n 2, 1) := by decide +kernel
theorem dX0_nodeFor_6 : decode cX0_nodeFor 6 = .ok (.getfield 78, 3) := by decide +kernel
theorem dX0_nodeFor_9 : decode cX0_nodeFor 9 = .ok (.iload_n 1, 1) := by decide +kernel
theorem dX0_nodeFor_10 : decode cX0_nodeFor 10 = .ok (.if_icmp .ge 18, 3) := by decide +kernel
theorem dX0_nodeFor_13 : decode cX0_nodeFor 13 = .ok (.aload_n 2, 1) := by decide +kernel
theorem dX0_nodeFor_14 : decode cX0_nodeFor 14 = .ok (.getfield 83, 3) := by decide +kernel
theorem dX0_nodeFor_17 : decode cX0_nodeFor 17 = .ok (.ifnull 11, 3) := by decide +kernel
theorem dX0_nodeFor_20 : decode cX0_nodeFor 20 = .ok (.aload_n 2, 1) := by decide +kernel
theorem dX0_nodeFor_21 : decode cX0_nodeFor 21 = .ok (.getfield 83, 3) := by decide +kernel
theorem dX0_nodeFor_24 : decode cX0_nodeFor 24 = .ok (.astore_n 2, 1) := by decide +kernel
theorem dX0_nodeFor_25 : decode cX0_nodeFor 25 = .ok (.goto (-20), 3) := by decide +kernel
theorem dX0_nodeFor_28 : decode cX0_nodeFor 28 = .ok (.aload_n 2, 1) := by decide +kernel
theorem dX0_nodeFor_29 : decode cX0_nodeFor 29 = .ok (.areturn, 1) := by decide +kernel
theorem dX0_score_0 : decode cX0_score 0 = .ok (.aload_n 0, 1) := by decide +kernel
theorem dX0_score_1 : decode cX0_score 1 = .ok (.iload_n 1, 1) := by decide +kernel
theorem dX0_score_2 : decode cX0_score 2 = .ok (.invokevirtual 86, 3) := by decide +kernel
theorem dX0_score_5 : decode cX0_score 5 = .ok (.astore_n 2, 1) := by decide +kernel
theorem dX0_score_6 : decode cX0_score 6 = .ok (.aload_n 2, 1) := by decide +kernel
theorem dX0_score_7 : decode cX0_score 7 = .ok (.invokevirtual 90, 3) := by decide +kernel
theorem dX0_score_10 : decode cX0_score 10 = .ok (.istore_n 3, 1) := by decide +kernel
theorem dX0_score_11 : decode cX0_score 11 = .ok (.iload_n 3, 1) := by decide +kernel
theorem dX0_score_12 : decode cX0_score 12 = .ok (.iconst 1, 1) := by decide +kernel
theorem dX0_score_13 : decode cX0_score 13 = .ok (.if_icmp .ge 7, 3) := by decide +kernel
theorem dX0_score_16 : decode cX0_score 16 = .ok (.iconst 0, 1) := by decide +kernel
theorem dX0_score_17 : decode cX0_score 17 = .ok (.goto 18, 3) := by decide +kernel
theorem dX0_score_20 : decode cX0_score 20 = .ok (.sipush 1000, 3) := by decide +kernel
theorem dX0_score_23 : decode cX0_score 23 = .ok (.aload_n 0, 1) := by decide +kernel
theorem dX0_score_24 : decode cX0_score 24 = .ok (.getfield 30, 3) := by decide +kernel
theorem dX0_score_27 : decode cX0_score 27 = .ok (.imul, 1) := by decide +kernel
theorem dX0_score_28 : decode cX0_score 28 = .ok (.aload_n 2, 1) := by decide +kernel
theorem dX0_score_29 : decode cX0_score 29 = .ok (.invokevirtual 94, 3) := by decide +kernel
theorem dX0_score_32 : decode cX0_score 32 = .ok (.imul, 1) := by decide +kernel
theorem dX0_score_33 : decode cX0_score 33 = .ok (.iload_n 3, 1) := by decide +kernel
theorem dX0_score_34 : decode cX0_score 34 = .ok (.idiv, 1) := by decide +kernel
theorem dX0_score_35 : decode cX0_score 35 = .ok (.ireturn, 1) := by decide +kernel
theorem dX0_head_0 : decode cX0_head 0 = .ok (.aload_n 0, 1) := by decide +kernel
theorem dX0_head_1 : decode cX0_head 1 = .ok (.astore_n 1, 1) := by decide +kernel
theorem dX0_head_2 : decode cX0_head 2 = .ok (.aload_n 1, 1) := by decide +kernel
theorem dX0_head_3 : decode cX0_head 3 = .ok (.getfield 97, 3) := by decide +kernel
theorem dX0_head_6 : decode cX0_head 6 = .ok (.ifnull 11, 3) := by decide +kernel
theorem dX0_head_9 : decode cX0_head 9 = .ok (.aload_n 1, 1) := by decide +kernel
theorem dX0_head_10 : decode cX0_head 10 = .ok (.getfield 97, 3) := by decide +kernel
theorem dX0_head_13 : decode cX0_head 13 = .ok (.astore_n 1, 1) := by decide +kernel
theorem dX0_head_14 : decode cX0_head 14 = .ok (.goto (-12), 3) := by decide +kernel
theorem dX0_head_17 : decode cX0_head 17 = .ok (.aload_n 1, 1) := by decide +kernel
theorem dX0_head_18 : decode cX0_head 18 = .ok (.areturn, 1) := by decide +kernel
theorem dX0_joinCaseOf_0 : decode cX0_joinCaseOf 0 = .ok (.aload_n 0, 1) := by decide +kernel
theorem dX0_joinCaseOf_1 : decode cX0_joinCaseOf 1 = .ok (.invokevirtual 101, 3) := by decide +kernel
theorem dX0_joinCaseOf_4 : decode cX0_joinCaseOf 4 = .ok (.astore_n 2, 1) := by decide +kernel
theorem dX0_joinCaseOf_5 : decode cX0_joinCaseOf 5 = .ok (.aload_n 1, 1) := by decide +kernel
theorem dX0_joinCaseOf_6 : decode cX0_joinCaseOf 6 = .ok (.invokevirtual 101, 3) := by decide +kernel
theorem dX0_joinCaseOf_9 : decode cX0_joinCaseOf 9 = .ok (.astore_n 3, 1) := by decide +kernel
theorem dX0_joinCaseOf_10 : decode cX0_joinCaseOf 10 = .ok (.aload_n 2, 1) := by decide +kernel
theorem dX0_joinCaseOf_11 : decode cX0_joinCaseOf 11 = .ok (.getfield 15, 3) := by decide +kernel
theorem dX0_joinCaseOf_14 : decode cX0_joinCaseOf 14 = .ok (.aload_n 3, 1) := by decide +kernel
theorem dX0_joinCaseOf_15 : decode cX0_joinCaseOf 15 = .ok (.getfield 15, 3) := by decide +kernel
theorem dX0_joinCaseOf_18 : decode cX0_joinCaseOf 18 = .ok (.if_icmp .ge 11, 3) := by decide +kernel
theorem dX0_joinCaseOf_21 : decode cX0_joinCaseOf 21 = .ok (.aload_n 3, 1) := by decide +kernel
theorem dX0_joinCaseOf_22 : decode cX0_joinCaseOf 22 = .ok (.aload_n 2, 1) := by decide +kernel
theorem dX0_joinCaseOf_23 : decode cX0_joinCaseOf 23 = .ok (.putfield 97, 3) := by decide +kernel
theorem dX0_joinCaseOf_26 : decode cX0_joinCaseOf 26 = .ok (.goto 19, 3) := by decide +kernel
theorem dX0_joinCaseOf_29 : decode cX0_joinCaseOf 29 = .ok (.aload_n 3, 1) := by decide +kernel
theorem dX0_joinCaseOf_30 : decode cX0_joinCaseOf 30 = .ok (.getfield 15, 3) := by decide +kernel
theorem dX0_joinCaseOf_33 : decode cX0_joinCaseOf 33 = .ok (.aload_n 2, 1) := by decide +kernel
theorem dX0_joinCaseOf_34 : decode cX0_joinCaseOf 34 = .ok (.getfield 15, 3) := by decide +kernel
theorem dX0_joinCaseOf_37 : decode cX0_joinCaseOf 37 = .ok (.if_icmp .ge 8, 3) := by decide +kernel
theorem dX0_joinCaseOf_40 : decode cX0_joinCaseOf 40 = .ok (.aload_n 2, 1) := by decide +kernel
theorem dX0_joinCaseOf_41 : decode cX0_joinCaseOf 41 = .ok (.aload_n 3, 1) := by decide +kernel
theorem dX0_joinCaseOf_42 : decode cX0_joinCaseOf 42 = .ok (.putfield 97, 3) := by decide +kernel
theorem dX0_joinCaseOf_45 : decode cX0_joinCaseOf 45 = .ok (.return_, 1) := by decide +kernel
theorem dX1_init_0 : decode cX1_init 0 = .ok (.aload_n 0, 1) := by decide +kernel
theorem dX1_init_1 : decode cX1_init 1 = .ok (.invokespecial 1, 3) := by decide +kernel
theorem dX1_init_4 : decode cX1_init 4 = .ok (.aload_n 0, 1) := by decide +kernel
theorem dX1_init_5 : decode cX1_init 5 = .ok (.iload_n 1, 1) := by decide +kernel
theorem dX1_init_6 : decode cX1_init 6 = .ok (.putfield 7, 3) := by decide +kernel
theorem dX1_init_9 : decode cX1_init 9 = .ok (.return_, 1) := by decide +kernel
theorem dX1_clear_0 : decode cX1_clear 0 = .ok (.aload_n 0, 1) := by decide +kernel
theorem dX1_clear_1 : decode cX1_clear 1 = .ok (.iconst 0, 1) := by decide +kernel
theorem dX1_clear_2 : decode cX1_clear 2 = .ok (.putfield 13, 3) := by decide +kernel
theorem dX1_clear_5 : decode cX1_clear 5 = .ok (.aload_n 0, 1) := by decide +kernel
theorem dX1_clear_6 : decode cX1_clear 6 = .ok (.iconst 0, 1) := by decide +kernel
theorem dX1_clear_7 : decode cX1_clear 7 = .ok (.putfield 16, 3) := by decide +kernel
theorem dX1_clear_10 : decode cX1_clear 10 = .ok (.aload_n 0, 1) := by decide +kernel
theorem dX1_clear_11 : decode cX1_clear 11 = .ok (.iconst 0, 1) := by decide +kernel
theorem dX1_clear_12 : decode cX1_clear 12 = .ok (.putfield 19, 3) := by decide +kernel
theorem dX1_clear_15 : decode cX1_clear 15 = .ok (.return_, 1) := by decide +kernel
theorem dX1_add_0 : decode cX1_add 0 = .ok (.aload_n 0, 1) := by decide +kernel
theorem dX1_add_1 : decode cX1_add 1 = .ok (.dup, 1) := by decide +kernel
theorem dX1_add_2 : decode cX1_add 2 = .ok (.getfield 13, 3) := by decide +kernel
theorem dX1_add_5 : decode cX1_add 5 = .ok (.iconst 1, 1) := by decide +kernel
theorem dX1_add_6 : decode cX1_add 6 = .ok (.iadd, 1) := by decide +kernel
theorem dX1_add_7 : decode cX1_add 7 = .ok (.putfield 13, 3) := by decide +kernel
theorem dX1_add_10 : decode cX1_add 10 = .ok (.aload_n 0, 1) := by decide +kernel
theorem dX1_add_11 : decode cX1_add 11 = .ok (.aload_n 0, 1) := by decide +kernel
theorem dX1_add_12 : decode cX1_add 12 = .ok (.getfield 16, 3) := by decide +kernel
theorem dX1_add_15 : decode cX1_add 15 = .ok (.iload_n 1, 1) := by decide +kernel
theorem dX1_add_16 : decode cX1_add 16 = .ok (.invokestatic 23, 3) := by decide +kernel
theorem dX1_add_19 : decode cX1_add 19 = .ok (.putfield 16, 3) := by decide +kernel
theorem dX1_add_22 : decode cX1_add 22 = .ok (.aload_n 0, 1) := by decide +kernel
theorem dX1_add_23 : decode cX1_add 23 = .ok (.aload_n 0, 1) := by decide +kernel
theorem dX1_add_24 : decode cX1_add 24 = .ok (.getfield 19, 3) := by decide +kernel
theorem dX1_add_27 : decode cX1_add 27 = .ok (.ifCond .ne 7, 3) := by decide +kernel
theorem dX1_add_30 : decode cX1_add 30 = .ok (.iload_n 2, 1) := by decide +kernel
theorem dX1_add_31 : decode cX1_add 31 = .ok (.ifCond .ne 7, 3) := by decide +kernel
theorem dX1_add_34 : decode cX1_add 34 = .ok (.iconst 1, 1) := by decide +kernel
theorem dX1_add_35 : decode cX1_add 35 = .ok (.goto 4, 3) := by decide +kernel
theorem dX1_add_38 : decode cX1_add 38 = .ok (.iconst 0, 1) := by decide +kernel
theorem dX1_add_39 : decode cX1_add 39 = .ok (.putfield 19, 3) := by decide +kernel
theorem dX1_add_42 : decode cX1_add 42 = .ok (.return_, 1) := by decide +kernel
theorem dX1_minutes_0 : decode cX1_minutes 0 = .ok (.iconst 5, 1) := by decide +kernel
theorem dX1_minutes_1 : decode cX1_minutes 1 = .ok (.iconst 2, 1) := by decide +kernel
theorem dX1_minutes_2 : decode cX1_minutes 2 = .ok (.aload_n 0, 1) := by decide +kernel
theorem dX1_minutes_3 : decode cX1_minutes 3 = .ok (.getfield 13, 3) := by decide +kernel
theorem dX1_minutes_6 : decode cX1_minutes 6 = .ok (.imul, 1) := by decide +kernel
theorem dX1_minutes_7 : decode cX1_minutes 7 = .ok (.iadd, 1) := by decide +kernel
theorem dX1_minutes_8 : decode cX1_minutes 8 = .ok (.ireturn, 1) := by decide +kernel
theorem dX1_isAheadOf_0 : decode cX1_isAheadOf 0 = .ok (.aload_n 0, 1) := by decide +kernel
theorem dX1_isAheadOf_1 : decode cX1_isAheadOf 1 = .ok (.getfield 16, 3) := by decide +kernel
theorem dX1_isAheadOf_4 : decode cX1_isAheadOf 4 = .ok (.aload_n 1, 1) := by decide +kernel
theorem dX1_isAheadOf_5 : decode cX1_isAheadOf 5 = .ok (.getfield 16, 3) := by decide +kernel
theorem dX1_isAheadOf_8 : decode cX1_isAheadOf 8 = .ok (.if_icmp .gt 25, 3) := by decide +kernel
theorem dX1_isAheadOf_11 : decode cX1_isAheadOf 11 = .ok (.aload_n 0, 1) := by decide +kernel
theorem dX1_isAheadOf_12 : decode cX1_isAheadOf 12 = .ok (.getfield 16, 3) := by decide +kernel
theorem dX1_isAheadOf_15 : decode cX1_isAheadOf 15 = .ok (.aload_n 1, 1) := by decide +kernel
theorem dX1_isAheadOf_16 : decode cX1_isAheadOf 16 = .ok (.getfield 16, 3) := by decide +kernel
theorem dX1_isAheadOf_19 : decode cX1_isAheadOf 19 = .ok (.if_icmp .ne 18, 3) := by decide +kernel
theorem dX1_isAheadOf_22 : decode cX1_isAheadOf 22 = .ok (.aload_n 0, 1) := by decide +kernel
theorem dX1_isAheadOf_23 : decode cX1_isAheadOf 23 = .ok (.getfield 7, 3) := by decide +kernel
theorem dX1_isAheadOf_26 : decode cX1_isAheadOf 26 = .ok (.aload_n 1, 1) := by decide +kernel
theorem dX1_isAheadOf_27 : decode cX1_isAheadOf 27 = .ok (.getfield 7, 3) := by decide +kernel
theorem dX1_isAheadOf_30 : decode cX1_isAheadOf 30 = .ok (.if_icmp .ge 7, 3) := by decide +kernel
theorem dX1_isAheadOf_33 : decode cX1_isAheadOf 33 = .ok (.iconst 1, 1) := by decide +kernel
theorem dX1_isAheadOf_34 : decode cX1_isAheadOf 34 = .ok (.goto 4, 3) := by decide +kernel
theorem dX1_isAheadOf_37 : decode cX1_isAheadOf 37 = .ok (.iconst 0, 1) := by decide +kernel
theorem dX1_isAheadOf_38 : decode cX1_isAheadOf 38 = .ok (.ireturn, 1) := by decide +kernel
theorem dX2_init_0 : decode cX2_init 0 = .ok (.aload_n 0, 1) := by decide +kernel
theorem dX2_init_1 : decode cX2_init 1 = .ok (.invokespecial 3, 3) := by decide +kernel
theorem dX2_init_4 : decode cX2_init 4 = .ok (.aload_n 0, 1) := by decide +kernel
theorem dX2_init_5 : decode cX2_init 5 = .ok (.sipush 200, 3) := by decide +kernel
theorem dX2_init_8 : decode cX2_init 8 = .ok (.anewarray 9, 3) := by decide +kernel
theorem dX2_init_11 : decode cX2_init 11 = .ok (.putfield 11, 3) := by decide +kernel
theorem dX2_init_14 : decode cX2_init 14 = .ok (.return_, 1) := by decide +kernel
theorem dX2_gather_0 : decode cX2_gather 0 = .ok (.iconst 0, 1) := by decide +kernel
theorem dX2_gather_1 : decode cX2_gather 1 = .ok (.istore 5, 2) := by decide +kernel
theorem dX2_gather_3 : decode cX2_gather 3 = .ok (.iload 5, 2) := by decide +kernel
theorem dX2_gather_5 : decode cX2_gather 5 = .ok (.iload_n 2, 1) := by decide +kernel
theorem dX2_gather_6 : decode cX2_gather 6 = .ok (.if_icmp .ge 27, 3) := by decide +kernel
theorem dX2_gather_9 : decode cX2_gather 9 = .ok (.aload_n 1, 1) := by decide +kernel
theorem dX2_gather_10 : decode cX2_gather 10 = .ok (.iload 5, 2) := by decide +kernel
theorem dX2_gather_12 : decode cX2_gather 12 = .ok (.aaload, 1) := by decide +kernel
theorem dX2_gather_13 : decode cX2_gather 13 = .ok (.aconst_null, 1) := by decide +kernel
theorem dX2_gather_14 : decode cX2_gather 14 = .ok (.putfield 17, 3) := by decide +kernel
theorem dX2_gather_17 : decode cX2_gather 17 = .ok (.aload_n 1, 1) := by decide +kernel
theorem dX2_gather_18 : decode cX2_gather 18 = .ok (.iload 5, 2) := by decide +kernel
theorem dX2_gather_20 : decode cX2_gather 20 = .ok (.aaload, 1) := by decide +kernel
theorem dX2_gather_21 : decode cX2_gather 21 = .ok (.getfield 23, 3) := by decide +kernel
theorem dX2_gather_24 : decode cX2_gather 24 = .ok (.invokevirtual 27, 3) := by decide +kernel
theorem dX2_gather_27 : decode cX2_gather 27 = .ok (.iinc 5 1, 3) := by decide +kernel
theorem dX2_gather_30 : decode cX2_gather 30 = .ok (.goto (-27), 3) := by decide +kernel
theorem dX2_gather_33 : decode cX2_gather 33 = .ok (.iconst 0, 1) := by decide +kernel
theorem dX2_gather_34 : decode cX2_gather 34 = .ok (.istore 5, 2) := by decide +kernel
theorem dX2_gather_36 : decode cX2_gather 36 = .ok (.iload 5, 2) := by decide +kernel
theorem dX2_gather_38 : decode cX2_gather 38 = .ok (.iload_n 2, 1) := by decide +kernel
theorem dX2_gather_39 : decode cX2_gather 39 = .ok (.if_icmp .ge 27, 3) := by decide +kernel
theorem dX2_gather_42 : decode cX2_gather 42 = .ok (.aload_n 1, 1) := by decide +kernel
theorem dX2_gather_43 : decode cX2_gather 43 = .ok (.iload 5, 2) := by decide +kernel
theorem dX2_gather_45 : decode cX2_gather 45 = .ok (.aaload, 1) := by decide +kernel
theorem dX2_gather_46 : decode cX2_gather 46 = .ok (.invokevirtual 30, 3) := by decide +kernel
theorem dX2_gather_49 : decode cX2_gather 49 = .ok (.ifCond .eq 11, 3) := by decide +kernel
theorem dX2_gather_52 : decode cX2_gather 52 = .ok (.aload_n 1, 1) := by decide +kernel
theorem dX2_gather_53 : decode cX2_gather 53 = .ok (.iload 5, 2) := by decide +kernel
theorem dX2_gather_55 : decode cX2_gather 55 = .ok (.aaload, 1) := by decide +kernel
theorem dX2_gather_56 : decode cX2_gather 56 = .ok (.aload_n 3, 1) := by decide +kernel
theorem dX2_gather_57 : decode cX2_gather 57 = .ok (.invokestatic 34, 3) := by decide +kernel
theorem dX2_gather_60 : decode cX2_gather 60 = .ok (.iinc 5 1, 3) := by decide +kernel
theorem dX2_gather_63 : decode cX2_gather 63 = .ok (.goto (-27), 3) := by decide +kernel
theorem dX2_gather_66 : decode cX2_gather 66 = .ok (.aload_n 1, 1) := by decide +kernel
theorem dX2_gather_67 : decode cX2_gather 67 = .ok (.iload_n 2, 1) := by decide +kernel
theorem dX2_gather_68 : decode cX2_gather 68 = .ok (.aload_n 3, 1) := by decide +kernel
theorem dX2_gather_69 : decode cX2_gather 69 = .ok (.invokestatic 38, 3) := by decide +kernel
theorem dX2_gather_72 : decode cX2_gather 72 = .ok (.aload_n 1, 1) := by decide +kernel
theorem dX2_gather_73 : decode cX2_gather 73 = .ok (.iload_n 2, 1) := by decide +kernel
theorem dX2_gather_74 : decode cX2_gather 74 = .ok (.iload 4, 2) := by decide +kernel
theorem dX2_gather_76 : decode cX2_gather 76 = .ok (.invokestatic 42, 3) := by decide +kernel
theorem dX2_gather_79 : decode cX2_gather 79 = .ok (.aload_n 0, 1) := by decide +kernel
theorem dX2_gather_80 : decode cX2_gather 80 = .ok (.aload_n 1, 1) := by decide +kernel
theorem dX2_gather_81 : decode cX2_gather 81 = .ok (.iload_n 2, 1) := by decide +kernel
theorem dX2_gather_82 : decode cX2_gather 82 = .ok (.invokevirtual 46, 3) := by decide +kernel
theorem dX2_gather_85 : decode cX2_gather 85 = .ok (.return_, 1) := by decide +kernel
theorem dX2_at_0 : decode cX2_at 0 = .ok (.iload_n 1, 1) := by decide +kernel
theorem dX2_at_1 : decode cX2_at 1 = .ok (.aload_n 0, 1) := by decide +kernel
theorem dX2_at_2 : decode cX2_at 2 = .ok (.getfield 50, 3) := by decide +kernel
theorem dX2_at_5 : decode cX2_at 5 = .ok (.invokestatic 54, 3) := by decide +kernel
theorem dX2_at_8 : decode cX2_at 8 = .ok (.ifCond .eq 12, 3) := by decide +kernel
theorem dX2_at_11 : decode cX2_at 11 = .ok (.aload_n 0, 1) := by decide +kernel
theorem dX2_at_12 : decode cX2_at 12 = .ok (.getfield 11, 3) := by decide +kernel
theorem dX2_at_15 : decode cX2_at 15 = .ok (.iload_n 1, 1) := by decide +kernel
theorem dX2_at_16 : decode cX2_at 16 = .ok (.aaload, 1) := by decide +kernel
theorem dX2_at_17 : decode cX2_at 17 = .ok (.goto 4, 3) := by decide +kernel
theorem dX2_at_20 : decode cX2_at 20 = .ok (.aconst_null, 1) := by decide +kernel
theorem dX2_at_21 : decode cX2_at 21 = .ok (.areturn, 1) := by decide +kernel
theorem dX2_scoreOfAll_0 : decode cX2_scoreOfAll 0 = .ok (.iconst 0, 1) := by decide +kernel
theorem dX2_scoreOfAll_1 : decode cX2_scoreOfAll 1 = .ok (.istore_n 1, 1) := by decide +kernel
theorem dX2_scoreOfAll_2 : decode cX2_scoreOfAll 2 = .ok (.iconst 0, 1) := by decide +kernel
theorem dX2_scoreOfAll_3 : decode cX2_scoreOfAll 3 = .ok (.istore_n 2, 1) := by decide +kernel
theorem dX2_scoreOfAll_4 : decode cX2_scoreOfAll 4 = .ok (.iload_n 2, 1) := by decide +kernel
theorem dX2_scoreOfAll_5 : decode cX2_scoreOfAll 5 = .ok (.aload_n 0, 1) := by decide +kernel
theorem dX2_scoreOfAll_6 : decode cX2_scoreOfAll 6 = .ok (.getfield 50, 3) := by decide +kernel
theorem dX2_scoreOfAll_9 : decode cX2_scoreOfAll 9 = .ok (.if_icmp .ge 21, 3) := by decide +kernel
theorem dX2_scoreOfAll_12 : decode cX2_scoreOfAll 12 = .ok (.iload_n 1, 1) := by decide +kernel
theorem dX2_scoreOfAll_13 : decode cX2_scoreOfAll 13 = .ok (.aload_n 0, 1) := by decide +kernel
theorem dX2_scoreOfAll_14 : decode cX2_scoreOfAll 14 = .ok (.getfield 11, 3) := by decide +kernel
theorem dX2_scoreOfAll_17 : decode cX2_scoreOfAll 17 = .ok (.iload_n 2, 1) := by decide +kernel
theorem dX2_scoreOfAll_18 : decode cX2_scoreOfAll 18 = .ok (.aaload, 1) := by decide +kernel
theorem dX2_scoreOfAll_19 : decode cX2_scoreOfAll 19 = .ok (.getfield 58, 3) := by decide +kernel
theorem dX2_scoreOfAll_22 : decode cX2_scoreOfAll 22 = .ok (.iadd, 1) := by decide +kernel
theorem dX2_scoreOfAll_23 : decode cX2_scoreOfAll 23 = .ok (.istore_n 1, 1) := by decide +kernel
theorem dX2_scoreOfAll_24 : decode cX2_scoreOfAll 24 = .ok (.iinc 2 1, 3) := by decide +kernel
theorem dX2_scoreOfAll_27 : decode cX2_scoreOfAll 27 = .ok (.goto (-23), 3) := by decide +kernel
theorem dX2_scoreOfAll_30 : decode cX2_scoreOfAll 30 = .ok (.iload_n 1, 1) := by decide +kernel
theorem dX2_scoreOfAll_31 : decode cX2_scoreOfAll 31 = .ok (.ireturn, 1) := by decide +kernel
theorem dX2_joinWithSoonerOnes_0 : decode cX2_joinWithSoonerOnes 0 = .ok (.aload_n 0, 1) := by decide +kernel
theorem dX2_joinWithSoonerOnes_1 : decode cX2_joinWithSoonerOnes 1 = .ok (.getfield 61, 3) := by decide +kernel
theorem dX2_joinWithSoonerOnes_4 : decode cX2_joinWithSoonerOnes 4 = .ok (.astore_n 2, 1) := by decide +kernel
theorem dX2_joinWithSoonerOnes_5 : decode cX2_joinWithSoonerOnes 5 = .ok (.aload_n 2, 1) := by decide +kernel
theorem dX2_joinWithSoonerOnes_6 : decode cX2_joinWithSoonerOnes 6 = .ok (.ifnull 63, 3) := by decide +kernel
theorem dX2_joinWithSoonerOnes_9 : decode cX2_joinWithSoonerOnes 9 = .ok (.aload_n 0, 1) := by decide +kernel
theorem dX2_joinWithSoonerOnes_10 : decode cX2_joinWithSoonerOnes 10 = .ok (.getfield 64, 3) := by decide +kernel
theorem dX2_joinWithSoonerOnes_13 : decode cX2_joinWithSoonerOnes 13 = .ok (.aload_n 2, 1) := by decide +kernel
theorem dX2_joinWithSoonerOnes_14 : decode cX2_joinWithSoonerOnes 14 = .ok (.getfield 64, 3) := by decide +kernel
theorem dX2_joinWithSoonerOnes_17 : decode cX2_joinWithSoonerOnes 17 = .ok (.isub, 1) := by decide +kernel
theorem dX2_joinWithSoonerOnes_18 : decode cX2_joinWithSoonerOnes 18 = .ok (.bipush 20, 2) := by decide +kernel
theorem dX2_joinWithSoonerOnes_20 : decode cX2_joinWithSoonerOnes 20 = .ok (.if_icmp .gt 49, 3) := by decide +kernel
theorem dX2_joinWithSoonerOnes_23 : decode cX2_joinWithSoonerOnes 23 = .ok (.aload_n 2, 1) := by decide +kernel
theorem dX2_joinWithSoonerOnes_24 : decode cX2_joinWithSoonerOnes 24 = .ok (.invokevirtual 30, 3) := by decide +kernel
theorem dX2_joinWithSoonerOnes_27 : decode cX2_joinWithSoonerOnes 27 = .ok (.ifCond .eq 34, 3) := by decide +kernel
theorem dX2_joinWithSoonerOnes_30 : decode cX2_joinWithSoonerOnes 30 = .ok (.aload_n 2, 1) := by decide +kernel
theorem dX2_joinWithSoonerOnes_31 : decode cX2_joinWithSoonerOnes 31 = .ok (.invokevirtual 67, 3) := by decide +kernel
theorem dX2_joinWithSoonerOnes_34 : decode cX2_joinWithSoonerOnes 34 = .ok (.aload_n 0, 1) := by decide +kernel
theorem dX2_joinWithSoonerOnes_35 : decode cX2_joinWithSoonerOnes 35 = .ok (.invokevirtual 67, 3) := by decide +kernel
theorem dX2_joinWithSoonerOnes_38 : decode cX2_joinWithSoonerOnes 38 = .ok (.if_acmp .eq 23, 3) := by decide +kernel
theorem dX2_joinWithSoonerOnes_41 : decode cX2_joinWithSoonerOnes 41 = .ok (.aload_n 1, 1) := by decide +kernel
theorem dX2_joinWithSoonerOnes_42 : decode cX2_joinWithSoonerOnes 42 = .ok (.aload_n 2, 1) := by decide +kernel
theorem dX2_joinWithSoonerOnes_43 : decode cX2_joinWithSoonerOnes 43 = .ok (.getfield 71, 3) := by decide +kernel
theorem dX2_joinWithSoonerOnes_46 : decode cX2_joinWithSoonerOnes 46 = .ok (.aload_n 0, 1) := by decide +kernel
theorem dX2_joinWithSoonerOnes_47 : decode cX2_joinWithSoonerOnes 47 = .ok (.getfield 71, 3) := by decide +kernel
theorem dX2_joinWithSoonerOnes_50 : decode cX2_joinWithSoonerOnes 50 = .ok (.invokevirtual 74, 3) := by decide +kernel
theorem dX2_joinWithSoonerOnes_53 : decode cX2_joinWithSoonerOnes 53 = .ok (.ifCond .ne 8, 3) := by decide +kernel
theorem dX2_joinWithSoonerOnes_56 : decode cX2_joinWithSoonerOnes 56 = .ok (.aload_n 0, 1) := by decide +kernel
theorem dX2_joinWithSoonerOnes_57 : decode cX2_joinWithSoonerOnes 57 = .ok (.aload_n 2, 1) := by decide +kernel
theorem dX2_joinWithSoonerOnes_58 : decode cX2_joinWithSoonerOnes 58 = .ok (.invokevirtual 79, 3) := by decide +kernel
theorem dX2_joinWithSoonerOnes_61 : decode cX2_joinWithSoonerOnes 61 = .ok (.aload_n 2, 1) := by decide +kernel
theorem dX2_joinWithSoonerOnes_62 : decode cX2_joinWithSoonerOnes 62 = .ok (.getfield 61, 3) := by decide +kernel
theorem dX2_joinWithSoonerOnes_65 : decode cX2_joinWithSoonerOnes 65 = .ok (.astore_n 2, 1) := by decide +kernel
theorem dX2_joinWithSoonerOnes_66 : decode cX2_joinWithSoonerOnes 66 = .ok (.goto (-61), 3) := by decide +kernel
theorem dX2_joinWithSoonerOnes_69 : decode cX2_joinWithSoonerOnes 69 = .ok (.return_, 1) := by decide +kernel
theorem dX2_joinToldOnes_0 : decode cX2_joinToldOnes 0 = .ok (.iconst 0, 1) := by decide +kernel
theorem dX2_joinToldOnes_1 : decode cX2_joinToldOnes 1 = .ok (.istore_n 3, 1) := by decide +kernel
theorem dX2_joinToldOnes_2 : decode cX2_joinToldOnes 2 = .ok (.iload_n 3, 1) := by decide +kernel
theorem dX2_joinToldOnes_3 : decode cX2_joinToldOnes 3 = .ok (.aload_n 2, 1) := by decide +kernel
theorem dX2_joinToldOnes_4 : decode cX2_joinToldOnes 4 = .ok (.getfield 83, 3) := by decide +kernel
theorem dX2_joinToldOnes_7 : decode cX2_joinToldOnes 7 = .ok (.if_icmp .ge 92, 3) := by decide +kernel
theorem dX2_joinToldOnes_10 : decode cX2_joinToldOnes 10 = .ok (.aload_n 2, 1) := by decide +kernel
theorem dX2_joinToldOnes_11 : decode cX2_joinToldOnes 11 = .ok (.getfield 84, 3) := by decide +kernel
theorem dX2_joinToldOnes_14 : decode cX2_joinToldOnes 14 = .ok (.iload_n 3, 1) := by decide +kernel
theorem dX2_joinToldOnes_15 : decode cX2_joinToldOnes 15 = .ok (.aaload, 1) := by decide +kernel
theorem dX2_joinToldOnes_16 : decode cX2_joinToldOnes 16 = .ok (.astore 4, 2) := by decide +kernel
theorem dX2_joinToldOnes_18 : decode cX2_joinToldOnes 18 = .ok (.aload 4, 2) := by decide +kernel
theorem dX2_joinToldOnes_20 : decode cX2_joinToldOnes 20 = .ok (.getfield 88, 3) := by decide +kernel
theorem dX2_joinToldOnes_23 : decode cX2_joinToldOnes 23 = .ok (.ifCond .eq 70, 3) := by decide +kernel
theorem dX2_joinToldOnes_26 : decode cX2_joinToldOnes 26 = .ok (.aload 4, 2) := by decide +kernel
theorem dX2_joinToldOnes_28 : decode cX2_joinToldOnes 28 = .ok (.getfield 94, 3) := by decide +kernel
theorem dX2_joinToldOnes_31 : decode cX2_joinToldOnes 31 = .ok (.iload_n 1, 1) := by decide +kernel
theorem dX2_joinToldOnes_32 : decode cX2_joinToldOnes 32 = .ok (.invokestatic 54, 3) := by decide +kernel
theorem dX2_joinToldOnes_35 : decode cX2_joinToldOnes 35 = .ok (.ifCond .eq 58, 3) := by decide +kernel
theorem dX2_joinToldOnes_38 : decode cX2_joinToldOnes 38 = .ok (.aload 4, 2) := by decide +kernel
theorem dX2_joinToldOnes_40 : decode cX2_joinToldOnes 40 = .ok (.getfield 97, 3) := by decide +kernel
theorem dX2_joinToldOnes_43 : decode cX2_joinToldOnes 43 = .ok (.iload_n 1, 1) := by decide +kernel
theorem dX2_joinToldOnes_44 : decode cX2_joinToldOnes 44 = .ok (.invokestatic 54, 3) := by decide +kernel
theorem dX2_joinToldOnes_47 : decode cX2_joinToldOnes 47 = .ok (.ifCond .eq 46, 3) := by decide +kernel
theorem dX2_joinToldOnes_50 : decode cX2_joinToldOnes 50 = .ok (.aload_n 0, 1) := by decide +kernel
theorem dX2_joinToldOnes_51 : decode cX2_joinToldOnes 51 = .ok (.aload 4, 2) := by decide +kernel
theorem dX2_joinToldOnes_53 : decode cX2_joinToldOnes 53 = .ok (.getfield 94, 3) := by decide +kernel
theorem dX2_joinToldOnes_56 : decode cX2_joinToldOnes 56 = .ok (.aaload, 1) := by decide +kernel
theorem dX2_joinToldOnes_57 : decode cX2_joinToldOnes 57 = .ok (.invokevirtual 30, 3) := by decide +kernel
theorem dX2_joinToldOnes_60 : decode cX2_joinToldOnes 60 = .ok (.ifCond .eq 33, 3) := by decide +kernel
theorem dX2_joinToldOnes_63 : decode cX2_joinToldOnes 63 = .ok (.aload_n 0, 1) := by decide +kernel
theorem dX2_joinToldOnes_64 : decode cX2_joinToldOnes 64 = .ok (.aload 4, 2) := by decide +kernel
theorem dX2_joinToldOnes_66 : decode cX2_joinToldOnes 66 = .ok (.getfield 97, 3) := by decide +kernel
theorem dX2_joinToldOnes_69 : decode cX2_joinToldOnes 69 = .ok (.aaload, 1) := by decide +kernel
theorem dX2_joinToldOnes_70 : decode cX2_joinToldOnes 70 = .ok (.invokevirtual 30, 3) := by decide +kernel
theorem dX2_joinToldOnes_73 : decode cX2_joinToldOnes 73 = .ok (.ifCond .eq 20, 3) := by decide +kernel
theorem dX2_joinToldOnes_76 : decode cX2_joinToldOnes 76 = .ok (.aload_n 0, 1) := by decide +kernel
theorem dX2_joinToldOnes_77 : decode cX2_joinToldOnes 77 = .ok (.aload 4, 2) := by decide +kernel
theorem dX2_joinToldOnes_79 : decode cX2_joinToldOnes 79 = .ok (.getfield 94, 3) := by decide +kernel
theorem dX2_joinToldOnes_82 : decode cX2_joinToldOnes 82 = .ok (.aaload, 1) := by decide +kernel
theorem dX2_joinToldOnes_83 : decode cX2_joinToldOnes 83 = .ok (.aload_n 0, 1) := by decide +kernel
theorem dX2_joinToldOnes_84 : decode cX2_joinToldOnes 84 = .ok (.aload 4, 2) := by decide +kernel
theorem dX2_joinToldOnes_86 : decode cX2_joinToldOnes 86 = .ok (.getfield 97, 3) := by decide +kernel
theorem dX2_joinToldOnes_89 : decode cX2_joinToldOnes 89 = .ok (.aaload, 1) := by decide +kernel
theorem dX2_joinToldOnes_90 : decode cX2_joinToldOnes 90 = .ok (.invokevirtual 79, 3) := by decide +kernel
theorem dX2_joinToldOnes_93 : decode cX2_joinToldOnes 93 = .ok (.iinc 3 1, 3) := by decide +kernel
theorem dX2_joinToldOnes_96 : decode cX2_joinToldOnes 96 = .ok (.goto (-94), 3) := by decide +kernel
theorem dX2_joinToldOnes_99 : decode cX2_joinToldOnes 99 = .ok (.return_, 1) := by decide +kernel
theorem dX2_fillCases_0 : decode cX2_fillCases 0 = .ok (.iconst 0, 1) := by decide +kernel
theorem dX2_fillCases_1 : decode cX2_fillCases 1 = .ok (.istore_n 3, 1) := by decide +kernel
theorem dX2_fillCases_2 : decode cX2_fillCases 2 = .ok (.iload_n 3, 1) := by decide +kernel
theorem dX2_fillCases_3 : decode cX2_fillCases 3 = .ok (.iload_n 1, 1) := by decide +kernel
theorem dX2_fillCases_4 : decode cX2_fillCases 4 = .ok (.if_icmp .ge 48, 3) := by decide +kernel
theorem dX2_fillCases_7 : decode cX2_fillCases 7 = .ok (.aload_n 0, 1) := by decide +kernel
theorem dX2_fillCases_8 : decode cX2_fillCases 8 = .ok (.iload_n 3, 1) := by decide +kernel
theorem dX2_fillCases_9 : decode cX2_fillCases 9 = .ok (.aaload, 1) := by decide +kernel
theorem dX2_fillCases_10 : decode cX2_fillCases 10 = .ok (.astore 4, 2) := by decide +kernel
theorem dX2_fillCases_12 : decode cX2_fillCases 12 = .ok (.aload 4, 2) := by decide +kernel
theorem dX2_fillCases_14 : decode cX2_fillCases 14 = .ok (.invokevirtual 30, 3) := by decide +kernel
theorem dX2_fillCases_17 : decode cX2_fillCases 17 = .ok (.ifCond .eq 29, 3) := by decide +kernel
theorem dX2_fillCases_20 : decode cX2_fillCases 20 = .ok (.aload 4, 2) := by decide +kernel
theorem dX2_fillCases_22 : decode cX2_fillCases 22 = .ok (.invokevirtual 67, 3) := by decide +kernel
theorem dX2_fillCases_25 : decode cX2_fillCases 25 = .ok (.getfield 23, 3) := by decide +kernel
theorem dX2_fillCases_28 : decode cX2_fillCases 28 = .ok (.aload 4, 2) := by decide +kernel
theorem dX2_fillCases_30 : decode cX2_fillCases 30 = .ok (.iload_n 2, 1) := by decide +kernel
theorem dX2_fillCases_31 : decode cX2_fillCases 31 = .ok (.invokevirtual 100, 3) := by decide +kernel
theorem dX2_fillCases_34 : decode cX2_fillCases 34 = .ok (.aload 4, 2) := by decide +kernel
theorem dX2_fillCases_36 : decode cX2_fillCases 36 = .ok (.iload_n 2, 1) := by decide +kernel
theorem dX2_fillCases_37 : decode cX2_fillCases 37 = .ok (.invokevirtual 103, 3) := by decide +kernel
theorem dX2_fillCases_40 : decode cX2_fillCases 40 = .ok (.getfield 107, 3) := by decide +kernel
theorem dX2_fillCases_43 : decode cX2_fillCases 43 = .ok (.invokevirtual 112, 3) := by decide +kernel
theorem dX2_fillCases_46 : decode cX2_fillCases 46 = .ok (.iinc 3 1, 3) := by decide +kernel
theorem dX2_fillCases_49 : decode cX2_fillCases 49 = .ok (.goto (-47), 3) := by decide +kernel
theorem dX2_fillCases_52 : decode cX2_fillCases 52 = .ok (.return_, 1) := by decide +kernel
theorem dX2_putInOrder_0 : decode cX2_putInOrder 0 = .ok (.aload_n 0, 1) := by decide +kernel
theorem dX2_putInOrder_1 : decode cX2_putInOrder 1 = .ok (.iconst 0, 1) := by decide +kernel
theorem dX2_putInOrder_2 : decode cX2_putInOrder 2 = .ok (.putfield 50, 3) := by decide +kernel
theorem dX2_putInOrder_5 : decode cX2_putInOrder 5 = .ok (.iconst 0, 1) := by decide +kernel
theorem dX2_putInOrder_6 : decode cX2_putInOrder 6 = .ok (.istore_n 3, 1) := by decide +kernel
theorem dX2_putInOrder_7 : decode cX2_putInOrder 7 = .ok (.iload_n 3, 1) := by decide +kernel
theorem dX2_putInOrder_8 : decode cX2_putInOrder 8 = .ok (.iload_n 2, 1) := by decide +kernel
theorem dX2_putInOrder_9 : decode cX2_putInOrder 9 = .ok (.if_icmp .ge 31, 3) := by decide +kernel
theorem dX2_putInOrder_12 : decode cX2_putInOrder 12 = .ok (.aload_n 1, 1) := by decide +kernel
theorem dX2_putInOrder_13 : decode cX2_putInOrder 13 = .ok (.iload_n 3, 1) := by decide +kernel
theorem dX2_putInOrder_14 : decode cX2_putInOrder 14 = .ok (.aaload, 1) := by decide +kernel
theorem dX2_putInOrder_15 : decode cX2_putInOrder 15 = .ok (.getfield 23, 3) := by decide +kernel
theorem dX2_putInOrder_18 : decode cX2_putInOrder 18 = .ok (.getfield 116, 3) := by decide +kernel
theorem dX2_putInOrder_21 : decode cX2_putInOrder 21 = .ok (.ifCond .le 13, 3) := by decide +kernel
theorem dX2_putInOrder_24 : decode cX2_putInOrder 24 = .ok (.aload_n 0, 1) := by decide +kernel
theorem dX2_putInOrder_25 : decode cX2_putInOrder 25 = .ok (.aload_n 1, 1) := by decide +kernel
theorem dX2_putInOrder_26 : decode cX2_putInOrder 26 = .ok (.iload_n 3, 1) := by decide +kernel
theorem dX2_putInOrder_27 : decode cX2_putInOrder 27 = .ok (.aaload, 1) := by decide +kernel
theorem dX2_putInOrder_28 : decode cX2_putInOrder 28 = .ok (.getfield 23, 3) := by decide +kernel
theorem dX2_putInOrder_31 : decode cX2_putInOrder 31 = .ok (.invokevirtual 117, 3) := by decide +kernel
theorem dX2_putInOrder_34 : decode cX2_putInOrder 34 = .ok (.iinc 3 1, 3) := by decide +kernel
theorem dX2_putInOrder_37 : decode cX2_putInOrder 37 = .ok (.goto (-30), 3) := by decide +kernel
theorem dX2_putInOrder_40 : decode cX2_putInOrder 40 = .ok (.return_, 1) := by decide +kernel
theorem dX2_putInPlace_0 : decode cX2_putInPlace 0 = .ok (.aload_n 0, 1) := by decide +kernel
theorem dX2_putInPlace_1 : decode cX2_putInPlace 1 = .ok (.getfield 50, 3) := by decide +kernel
theorem dX2_putInPlace_4 : decode cX2_putInPlace 4 = .ok (.aload_n 0, 1) := by decide +kernel
theorem dX2_putInPlace_5 : decode cX2_putInPlace 5 = .ok (.getfield 11, 3) := by decide +kernel
theorem dX2_putInPlace_8 : decode cX2_putInPlace 8 = .ok (.arraylength, 1) := by decide +kernel
theorem dX2_putInPlace_9 : decode cX2_putInPlace 9 = .ok (.if_icmp .lt 4, 3) := by decide +kernel
theorem dX2_putInPlace_12 : decode cX2_putInPlace 12 = .ok (.return_, 1) := by decide +kernel
theorem dX2_putInPlace_13 : decode cX2_putInPlace 13 = .ok (.aload_n 0, 1) := by decide +kernel
theorem dX2_putInPlace_14 : decode cX2_putInPlace 14 = .ok (.getfield 50, 3) := by decide +kernel
theorem dX2_putInPlace_17 : decode cX2_putInPlace 17 = .ok (.istore_n 2, 1) := by decide +kernel
theorem dX2_putInPlace_18 : decode cX2_putInPlace 18 = .ok (.iload_n 2, 1) := by decide +kernel
theorem dX2_putInPlace_19 : decode cX2_putInPlace 19 = .ok (.ifCond .le 38, 3) := by decide +kernel
theorem dX2_putInPlace_22 : decode cX2_putInPlace 22 = .ok (.aload_n 1, 1) := by decide +kernel
theorem dX2_putInPlace_23 : decode cX2_putInPlace 23 = .ok (.aload_n 0, 1) := by decide +kernel
theorem dX2_putInPlace_24 : decode cX2_putInPlace 24 = .ok (.getfield 11, 3) := by decide +kernel
theorem dX2_putInPlace_27 : decode cX2_putInPlace 27 = .ok (.iload_n 2, 1) := by decide +kernel
theorem dX2_putInPlace_28 : decode cX2_putInPlace 28 = .ok (.iconst 1, 1) := by decide +kernel
theorem dX2_putInPlace_29 : decode cX2_putInPlace 29 = .ok (.isub, 1) := by decide +kernel
theorem dX2_putInPlace_30 : decode cX2_putInPlace 30 = .ok (.aaload, 1) := by decide +kernel
theorem dX2_putInPlace_31 : decode cX2_putInPlace 31 = .ok (.invokevirtual 121, 3) := by decide +kernel
theorem dX2_putInPlace_34 : decode cX2_putInPlace 34 = .ok (.ifCond .eq 23, 3) := by decide +kernel
theorem dX2_putInPlace_37 : decode cX2_putInPlace 37 = .ok (.aload_n 0, 1) := by decide +kernel
theorem dX2_putInPlace_38 : decode cX2_putInPlace 38 = .ok (.getfield 11, 3) := by decide +kernel
theorem dX2_putInPlace_41 : decode cX2_putInPlace 41 = .ok (.iload_n 2, 1) := by decide +kernel
theorem dX2_putInPlace_42 : decode cX2_putInPlace 42 = .ok (.aload_n 0, 1) := by decide +kernel
theorem dX2_putInPlace_43 : decode cX2_putInPlace 43 = .ok (.getfield 11, 3) := by decide +kernel
theorem dX2_putInPlace_46 : decode cX2_putInPlace 46 = .ok (.iload_n 2, 1) := by decide +kernel
theorem dX2_putInPlace_47 : decode cX2_putInPlace 47 = .ok (.iconst 1, 1) := by decide +kernel
theorem dX2_putInPlace_48 : decode cX2_putInPlace 48 = .ok (.isub, 1) := by decide +kernel
theorem dX2_putInPlace_49 : decode cX2_putInPlace 49 = .ok (.aaload, 1) := by decide +kernel
theorem dX2_putInPlace_50 : decode cX2_putInPlace 50 = .ok (.aastore, 1) := by decide +kernel
theorem dX2_putInPlace_51 : decode cX2_putInPlace 51 = .ok (.iinc 2 (-1), 3) := by decide +kernel
theorem dX2_putInPlace_54 : decode cX2_putInPlace 54 = .ok (.goto (-36), 3) := by decide +kernel
theorem dX2_putInPlace_57 : decode cX2_putInPlace 57 = .ok (.aload_n 0, 1) := by decide +kernel
theorem dX2_putInPlace_58 : decode cX2_putInPlace 58 = .ok (.getfield 11, 3) := by decide +kernel
theorem dX2_putInPlace_61 : decode cX2_putInPlace 61 = .ok (.iload_n 2, 1) := by decide +kernel
theorem dX2_putInPlace_62 : decode cX2_putInPlace 62 = .ok (.aload_n 1, 1) := by decide +kernel
theorem dX2_putInPlace_63 : decode cX2_putInPlace 63 = .ok (.aastore, 1) := by decide +kernel
theorem dX2_putInPlace_64 : decode cX2_putInPlace 64 = .ok (.aload_n 0, 1) := by decide +kernel
theorem dX2_putInPlace_65 : decode cX2_putInPlace 65 = .ok (.dup, 1) := by decide +kernel
theorem dX2_putInPlace_66 : decode cX2_putInPlace 66 = .ok (.getfield 50, 3) := by decide +kernel
theorem dX2_putInPlace_69 : decode cX2_putInPlace 69 = .ok (.iconst 1, 1) := by decide +kernel
theorem dX2_putInPlace_70 : decode cX2_putInPlace 70 = .ok (.iadd, 1) := by decide +kernel
theorem dX2_putInPlace_71 : decode cX2_putInPlace 71 = .ok (.putfield 50, 3) := by decide +kernel
theorem dX2_putInPlace_74 : decode cX2_putInPlace 74 = .ok (.return_, 1) := by decide +kernel
theorem dX3_init_0 : decode cX3_init 0 = .ok (.aload_n 0, 1) := by decide +kernel
theorem dX3_init_1 : decode cX3_init 1 = .ok (.invokespecial 3, 3) := by decide +kernel
theorem dX3_init_4 : decode cX3_init 4 = .ok (.aload_n 0, 1) := by decide +kernel
theorem dX3_init_5 : decode cX3_init 5 = .ok (.aload_n 1, 1) := by decide +kernel
theorem dX3_init_6 : decode cX3_init 6 = .ok (.putfield 9, 3) := by decide +kernel
theorem dX3_init_9 : decode cX3_init 9 = .ok (.aload_n 0, 1) := by decide +kernel
theorem dX3_init_10 : decode cX3_init 10 = .ok (.aload_n 1, 1) := by decide +kernel
theorem dX3_init_11 : decode cX3_init 11 = .ok (.ifnonnull 7, 3) := by decide +kernel
theorem dX3_init_14 : decode cX3_init 14 = .ok (.iconst 0, 1) := by decide +kernel
theorem dX3_init_15 : decode cX3_init 15 = .ok (.goto 9, 3) := by decide +kernel
theorem dX3_init_18 : decode cX3_init 18 = .ok (.aload_n 1, 1) := by decide +kernel
theorem dX3_init_19 : decode cX3_init 19 = .ok (.getfield 15, 3) := by decide +kernel
theorem dX3_init_22 : decode cX3_init 22 = .ok (.iconst 1, 1) := by decide +kernel
theorem dX3_init_23 : decode cX3_init 23 = .ok (.iadd, 1) := by decide +kernel
theorem dX3_init_24 : decode cX3_init 24 = .ok (.putfield 15, 3) := by decide +kernel
theorem dX3_init_27 : decode cX3_init 27 = .ok (.aload_n 0, 1) := by decide +kernel
theorem dX3_init_28 : decode cX3_init 28 = .ok (.iload_n 2, 1) := by decide +kernel
theorem dX3_init_29 : decode cX3_init 29 = .ok (.putfield 19, 3) := by decide +kernel
theorem dX3_init_32 : decode cX3_init 32 = .ok (.aload_n 0, 1) := by decide +kernel
theorem dX3_init_33 : decode cX3_init 33 = .ok (.aload_n 3, 1) := by decide +kernel
theorem dX3_init_34 : decode cX3_init 34 = .ok (.putfield 22, 3) := by decide +kernel
theorem dX3_init_37 : decode cX3_init 37 = .ok (.return_, 1) := by decide +kernel
theorem dX3_markAt_0 : decode cX3_markAt 0 = .ok (.iload_n 0, 1) := by decide +kernel
theorem dX3_markAt_1 : decode cX3_markAt 1 = .ok (.iconst 3, 1) := by decide +kernel
theorem dX3_markAt_2 : decode cX3_markAt 2 = .ok (.iconst 3, 1) := by decide +kernel
theorem dX3_markAt_3 : decode cX3_markAt 3 = .ok (.iload_n 1, 1) := by decide +kernel
theorem dX3_markAt_4 : decode cX3_markAt 4 = .ok (.isub, 1) := by decide +kernel
theorem dX3_markAt_5 : decode cX3_markAt 5 = .ok (.imul, 1) := by decide +kernel
theorem dX3_markAt_6 : decode cX3_markAt 6 = .ok (.ishr, 1) := by decide +kernel
theorem dX3_markAt_7 : decode cX3_markAt 7 = .ok (.bipush 7, 2) := by decide +kernel
theorem dX3_markAt_9 : decode cX3_markAt 9 = .ok (.iand, 1) := by decide +kernel
theorem dX3_markAt_10 : decode cX3_markAt 10 = .ok (.ireturn, 1) := by decide +kernel
theorem dX3_child_0 : decode cX3_child 0 = .ok (.aload_n 0, 1) := by decide +kernel
theorem dX3_child_1 : decode cX3_child 1 = .ok (.getfield 25, 3) := by decide +kernel
theorem dX3_child_4 : decode cX3_child 4 = .ok (.astore_n 2, 1) := by decide +kernel
theorem dX3_child_5 : decode cX3_child 5 = .ok (.aload_n 2, 1) := by decide +kernel
theorem dX3_child_6 : decode cX3_child 6 = .ok (.ifnull 19, 3) := by decide +kernel
theorem dX3_child_9 : decode cX3_child 9 = .ok (.aload_n 2, 1) := by decide +kernel
theorem dX3_child_10 : decode cX3_child 10 = .ok (.getfield 19, 3) := by decide +kernel
theorem dX3_child_13 : decode cX3_child 13 = .ok (.iload_n 1, 1) := by decide +kernel
theorem dX3_child_14 : decode cX3_child 14 = .ok (.if_icmp .eq 11, 3) := by decide +kernel
theorem dX3_child_17 : decode cX3_child 17 = .ok (.aload_n 2, 1) := by decide +kernel
theorem dX3_child_18 : decode cX3_child 18 = .ok (.getfield 22, 3) := by decide +kernel
theorem dX3_child_21 : decode cX3_child 21 = .ok (.astore_n 2, 1) := by decide +kernel
theorem dX3_child_22 : decode cX3_child 22 = .ok (.goto (-17), 3) := by decide +kernel
theorem dX3_child_25 : decode cX3_child 25 = .ok (.aload_n 2, 1) := by decide +kernel
theorem dX3_child_26 : decode cX3_child 26 = .ok (.areturn, 1) := by decide +kernel
theorem dX3_find_0 : decode cX3_find 0 = .ok (.aload_n 0, 1) := by decide +kernel
theorem dX3_find_1 : decode cX3_find 1 = .ok (.astore_n 3, 1) := by decide +kernel
theorem dX3_find_2 : decode cX3_find 2 = .ok (.iconst 0, 1) := by decide +kernel
theorem dX3_find_3 : decode cX3_find 3 = .ok (.istore 4, 2) := by decide +kernel
theorem dX3_find_5 : decode cX3_find 5 = .ok (.iload 4, 2) := by decide +kernel
theorem dX3_find_7 : decode cX3_find 7 = .ok (.iload_n 1, 1) := by decide +kernel
theorem dX3_find_8 : decode cX3_find 8 = .ok (.if_icmp .ge 24, 3) := by decide +kernel
theorem dX3_find_11 : decode cX3_find 11 = .ok (.aload_n 3, 1) := by decide +kernel
theorem dX3_find_12 : decode cX3_find 12 = .ok (.ifnull 20, 3) := by decide +kernel
theorem dX3_find_15 : decode cX3_find 15 = .ok (.aload_n 3, 1) := by decide +kernel
theorem dX3_find_16 : decode cX3_find 16 = .ok (.iload_n 2, 1) := by decide +kernel
theorem dX3_find_17 : decode cX3_find 17 = .ok (.iload 4, 2) := by decide +kernel
theorem dX3_find_19 : decode cX3_find 19 = .ok (.invokestatic 28, 3) := by decide +kernel
theorem dX3_find_22 : decode cX3_find 22 = .ok (.invokevirtual 32, 3) := by decide +kernel
theorem dX3_find_25 : decode cX3_find 25 = .ok (.astore_n 3, 1) := by decide +kernel
theorem dX3_find_26 : decode cX3_find 26 = .ok (.iinc 4 1, 3) := by decide +kernel
theorem dX3_find_29 : decode cX3_find 29 = .ok (.goto (-24), 3) := by decide +kernel
theorem dX3_find_32 : decode cX3_find 32 = .ok (.aload_n 3, 1) := by decide +kernel
theorem dX3_find_33 : decode cX3_find 33 = .ok (.areturn, 1) := by decide +kernel
theorem dX3_grow_0 : decode cX3_grow 0 = .ok (.aload_n 0, 1) := by decide +kernel
theorem dX3_grow_1 : decode cX3_grow 1 = .ok (.astore_n 2, 1) := by decide +kernel
theorem dX3_grow_2 : decode cX3_grow 2 = .ok (.iconst 0, 1) := by decide +kernel
theorem dX3_grow_3 : decode cX3_grow 3 = .ok (.istore_n 3, 1) := by decide +kernel
theorem dX3_grow_4 : decode cX3_grow 4 = .ok (.iload_n 3, 1) := by decide +kernel
theorem dX3_grow_5 : decode cX3_grow 5 = .ok (.iconst 4, 1) := by decide +kernel
theorem dX3_grow_6 : decode cX3_grow 6 = .ok (.if_icmp .ge 54, 3) := by decide +kernel
theorem dX3_grow_9 : decode cX3_grow 9 = .ok (.iload_n 1, 1) := by decide +kernel
theorem dX3_grow_10 : decode cX3_grow 10 = .ok (.iload_n 3, 1) := by decide +kernel
theorem dX3_grow_11 : decode cX3_grow 11 = .ok (.invokestatic 28, 3) := by decide +kernel
theorem dX3_grow_14 : decode cX3_grow 14 = .ok (.istore 4, 2) := by decide +kernel
theorem dX3_grow_16 : decode cX3_grow 16 = .ok (.aload_n 2, 1) := by decide +kernel
theorem dX3_grow_17 : decode cX3_grow 17 = .ok (.iload 4, 2) := by decide +kernel
theorem dX3_grow_19 : decode cX3_grow 19 = .ok (.invokevirtual 32, 3) := by decide +kernel
theorem dX3_grow_22 : decode cX3_grow 22 = .ok (.astore 5, 2) := by decide +kernel
theorem dX3_grow_24 : decode cX3_grow 24 = .ok (.aload 5, 2) := by decide +kernel
theorem dX3_grow_26 : decode cX3_grow 26 = .ok (.ifnonnull 25, 3) := by decide +kernel
theorem dX3_grow_29 : decode cX3_grow 29 = .ok (.new 10, 3) := by decide +kernel
theorem dX3_grow_32 : decode cX3_grow 32 = .ok (.dup, 1) := by decide +kernel
theorem dX3_grow_33 : decode cX3_grow 33 = .ok (.aload_n 2, 1) := by decide +kernel
theorem dX3_grow_34 : decode cX3_grow 34 = .ok (.iload 4, 2) := by decide +kernel
theorem dX3_grow_36 : decode cX3_grow 36 = .ok (.aload_n 2, 1) := by decide +kernel
theorem dX3_grow_37 : decode cX3_grow 37 = .ok (.getfield 25, 3) := by decide +kernel
theorem dX3_grow_40 : decode cX3_grow 40 = .ok (.invokespecial 36, 3) := by decide +kernel
theorem dX3_grow_43 : decode cX3_grow 43 = .ok (.astore 5, 2) := by decide +kernel
theorem dX3_grow_45 : decode cX3_grow 45 = .ok (.aload_n 2, 1) := by decide +kernel
theorem dX3_grow_46 : decode cX3_grow 46 = .ok (.aload 5, 2) := by decide +kernel
theorem dX3_grow_48 : decode cX3_grow 48 = .ok (.putfield 25, 3) := by decide +kernel
theorem dX3_grow_51 : decode cX3_grow 51 = .ok (.aload 5, 2) := by decide +kernel
theorem dX3_grow_53 : decode cX3_grow 53 = .ok (.astore_n 2, 1) := by decide +kernel
theorem dX3_grow_54 : decode cX3_grow 54 = .ok (.iinc 3 1, 3) := by decide +kernel
theorem dX3_grow_57 : decode cX3_grow 57 = .ok (.goto (-53), 3) := by decide +kernel
theorem dX3_grow_60 : decode cX3_grow 60 = .ok (.aload_n 2, 1) := by decide +kernel
theorem dX3_grow_61 : decode cX3_grow 61 = .ok (.areturn, 1) := by decide +kernel
theorem dX3_addOpen_0 : decode cX3_addOpen 0 = .ok (.aload_n 0, 1) := by decide +kernel
theorem dX3_addOpen_1 : decode cX3_addOpen 1 = .ok (.astore_n 1, 1) := by decide +kernel
theorem dX3_addOpen_2 : decode cX3_addOpen 2 = .ok (.aload_n 1, 1) := by decide +kernel
theorem dX3_addOpen_3 : decode cX3_addOpen 3 = .ok (.ifnull 21, 3) := by decide +kernel
theorem dX3_addOpen_6 : decode cX3_addOpen 6 = .ok (.aload_n 1, 1) := by decide +kernel
theorem dX3_addOpen_7 : decode cX3_addOpen 7 = .ok (.dup, 1) := by decide +kernel
theorem dX3_addOpen_8 : decode cX3_addOpen 8 = .ok (.getfield 39, 3) := by decide +kernel
theorem dX3_addOpen_11 : decode cX3_addOpen 11 = .ok (.iconst 1, 1) := by decide +kernel
theorem dX3_addOpen_12 : decode cX3_addOpen 12 = .ok (.iadd, 1) := by decide +kernel
theorem dX3_addOpen_13 : decode cX3_addOpen 13 = .ok (.putfield 39, 3) := by decide +kernel
theorem dX3_addOpen_16 : decode cX3_addOpen 16 = .ok (.aload_n 1, 1) := by decide +kernel
theorem dX3_addOpen_17 : decode cX3_addOpen 17 = .ok (.getfield 9, 3) := by decide +kernel
theorem dX3_addOpen_20 : decode cX3_addOpen 20 = .ok (.astore_n 1, 1) := by decide +kernel
theorem dX3_addOpen_21 : decode cX3_addOpen 21 = .ok (.goto (-19), 3) := by decide +kernel
theorem dX3_addOpen_24 : decode cX3_addOpen 24 = .ok (.return_, 1) := by decide +kernel
theorem dX3_settle_0 : decode cX3_settle 0 = .ok (.aload_n 0, 1) := by decide +kernel
theorem dX3_settle_1 : decode cX3_settle 1 = .ok (.astore_n 2, 1) := by decide +kernel
theorem dX3_settle_2 : decode cX3_settle 2 = .ok (.aload_n 2, 1) := by decide +kernel
theorem dX3_settle_3 : decode cX3_settle 3 = .ok (.ifnull 44, 3) := by decide +kernel
theorem dX3_settle_6 : decode cX3_settle 6 = .ok (.aload_n 2, 1) := by decide +kernel
theorem dX3_settle_7 : decode cX3_settle 7 = .ok (.dup, 1) := by decide +kernel
theorem dX3_settle_8 : decode cX3_settle 8 = .ok (.getfield 39, 3) := by decide +kernel
theorem dX3_settle_11 : decode cX3_settle 11 = .ok (.iconst 1, 1) := by decide +kernel
theorem dX3_settle_12 : decode cX3_settle 12 = .ok (.isub, 1) := by decide +kernel
theorem dX3_settle_13 : decode cX3_settle 13 = .ok (.putfield 39, 3) := by decide +kernel
theorem dX3_settle_16 : decode cX3_settle 16 = .ok (.aload_n 2, 1) := by decide +kernel
theorem dX3_settle_17 : decode cX3_settle 17 = .ok (.dup, 1) := by decide +kernel
theorem dX3_settle_18 : decode cX3_settle 18 = .ok (.getfield 42, 3) := by decide +kernel
theorem dX3_settle_21 : decode cX3_settle 21 = .ok (.iconst 1, 1) := by decide +kernel
theorem dX3_settle_22 : decode cX3_settle 22 = .ok (.iadd, 1) := by decide +kernel
theorem dX3_settle_23 : decode cX3_settle 23 = .ok (.putfield 42, 3) := by decide +kernel
theorem dX3_settle_26 : decode cX3_settle 26 = .ok (.aload_n 2, 1) := by decide +kernel
theorem dX3_settle_27 : decode cX3_settle 27 = .ok (.dup, 1) := by decide +kernel
theorem dX3_settle_28 : decode cX3_settle 28 = .ok (.getfield 45, 3) := by decide +kernel
theorem dX3_settle_31 : decode cX3_settle 31 = .ok (.iload_n 1, 1) := by decide +kernel
theorem dX3_settle_32 : decode cX3_settle 32 = .ok (.invokestatic 48, 3) := by decide +kernel
theorem dX3_settle_35 : decode cX3_settle 35 = .ok (.iadd, 1) := by decide +kernel
theorem dX3_settle_36 : decode cX3_settle 36 = .ok (.putfield 45, 3) := by decide +kernel
theorem dX3_settle_39 : decode cX3_settle 39 = .ok (.aload_n 2, 1) := by decide +kernel
theorem dX3_settle_40 : decode cX3_settle 40 = .ok (.getfield 9, 3) := by decide +kernel
theorem dX3_settle_43 : decode cX3_settle 43 = .ok (.astore_n 2, 1) := by decide +kernel
theorem dX3_settle_44 : decode cX3_settle 44 = .ok (.goto (-42), 3) := by decide +kernel
theorem dX3_settle_47 : decode cX3_settle 47 = .ok (.return_, 1) := by decide +kernel
theorem dX3_oddsUpper_0 : decode cX3_oddsUpper 0 = .ok (.aload_n 0, 1) := by decide +kernel
theorem dX3_oddsUpper_1 : decode cX3_oddsUpper 1 = .ok (.getfield 42, 3) := by decide +kernel
theorem dX3_oddsUpper_4 : decode cX3_oddsUpper 4 = .ok (.ifCond .ne 7, 3) := by decide +kernel
theorem dX3_oddsUpper_7 : decode cX3_oddsUpper 7 = .ok (.iconst 1, 1) := by decide +kernel
theorem dX3_oddsUpper_8 : decode cX3_oddsUpper 8 = .ok (.goto 7, 3) := by decide +kernel
theorem dX3_oddsUpper_11 : decode cX3_oddsUpper 11 = .ok (.aload_n 0, 1) := by decide +kernel
theorem dX3_oddsUpper_12 : decode cX3_oddsUpper 12 = .ok (.getfield 45, 3) := by decide +kernel
theorem dX3_oddsUpper_15 : decode cX3_oddsUpper 15 = .ok (.ireturn, 1) := by decide +kernel
theorem dX3_oddsLower_0 : decode cX3_oddsLower 0 = .ok (.aload_n 0, 1) := by decide +kernel
theorem dX3_oddsLower_1 : decode cX3_oddsLower 1 = .ok (.getfield 42, 3) := by decide +kernel
theorem dX3_oddsLower_4 : decode cX3_oddsLower 4 = .ok (.ifCond .ne 7, 3) := by decide +kernel
theorem dX3_oddsLower_7 : decode cX3_oddsLower 7 = .ok (.iconst 2, 1) := by decide +kernel
theorem dX3_oddsLower_8 : decode cX3_oddsLower 8 = .ok (.goto 7, 3) := by decide +kernel
theorem dX3_oddsLower_11 : decode cX3_oddsLower 11 = .ok (.aload_n 0, 1) := by decide +kernel
theorem dX3_oddsLower_12 : decode cX3_oddsLower 12 = .ok (.getfield 42, 3) := by decide +kernel
theorem dX3_oddsLower_15 : decode cX3_oddsLower 15 = .ok (.ireturn, 1) := by decide +kernel
theorem dX4_init_0 : decode cX4_init 0 = .ok (.aload_n 0, 1) := by decide +kernel
theorem dX4_init_1 : decode cX4_init 1 = .ok (.invokespecial 1, 3) := by decide +kernel
theorem dX4_init_4 : decode cX4_init 4 = .ok (.aload_n 0, 1) := by decide +kernel
theorem dX4_init_5 : decode cX4_init 5 = .ok (.iload_n 1, 1) := by decide +kernel
theorem dX4_init_6 : decode cX4_init 6 = .ok (.putfield 7, 3) := by decide +kernel
theorem dX4_init_9 : decode cX4_init 9 = .ok (.aload_n 0, 1) := by decide +kernel
theorem dX4_init_10 : decode cX4_init 10 = .ok (.iload_n 2, 1) := by decide +kernel
theorem dX4_init_11 : decode cX4_init 11 = .ok (.putfield 13, 3) := by decide +kernel
theorem dX4_init_14 : decode cX4_init 14 = .ok (.aload_n 0, 1) := by decide +kernel
theorem dX4_init_15 : decode cX4_init 15 = .ok (.iload_n 3, 1) := by decide +kernel
theorem dX4_init_16 : decode cX4_init 16 = .ok (.putfield 16, 3) := by decide +kernel
theorem dX4_init_19 : decode cX4_init 19 = .ok (.return_, 1) := by decide +kernel
theorem dX5_init_0 : decode cX5_init 0 = .ok (.aload_n 0, 1) := by decide +kernel
theorem dX5_init_1 : decode cX5_init 1 = .ok (.invokespecial 3, 3) := by decide +kernel
theorem dX5_init_4 : decode cX5_init 4 = .ok (.aload_n 0, 1) := by decide +kernel
theorem dX5_init_5 : decode cX5_init 5 = .ok (.bipush 17, 2) := by decide +kernel
theorem dX5_init_7 : decode cX5_init 7 = .ok (.anewarray 9, 3) := by decide +kernel
theorem dX5_init_10 : decode cX5_init 10 = .ok (.putfield 11, 3) := by decide +kernel
theorem dX5_init_13 : decode cX5_init 13 = .ok (.aload_n 0, 1) := by decide +kernel
theorem dX5_init_14 : decode cX5_init 14 = .ok (.bipush 12, 2) := by decide +kernel
theorem dX5_init_16 : decode cX5_init 16 = .ok (.anewarray 9, 3) := by decide +kernel
theorem dX5_init_19 : decode cX5_init 19 = .ok (.putfield 17, 3) := by decide +kernel
theorem dX5_init_22 : decode cX5_init 22 = .ok (.aload_n 0, 1) := by decide +kernel
theorem dX5_init_23 : decode cX5_init 23 = .ok (.sipush 301, 3) := by decide +kernel
theorem dX5_init_26 : decode cX5_init 26 = .ok (.newarray .int, 2) := by decide +kernel
theorem dX5_init_28 : decode cX5_init 28 = .ok (.putfield 20, 3) := by decide +kernel
theorem dX5_init_31 : decode cX5_init 31 = .ok (.aload_n 0, 1) := by decide +kernel
theorem dX5_init_32 : decode cX5_init 32 = .ok (.sipush 301, 3) := by decide +kernel
theorem dX5_init_35 : decode cX5_init 35 = .ok (.newarray .int, 2) := by decide +kernel
theorem dX5_init_37 : decode cX5_init 37 = .ok (.putfield 24, 3) := by decide +kernel
theorem dX5_init_40 : decode cX5_init 40 = .ok (.return_, 1) := by decide +kernel
theorem dX5_make_0 : decode cX5_make 0 = .ok (.aload_n 0, 1) := by decide +kernel
theorem dX5_make_1 : decode cX5_make 1 = .ok (.iconst 0, 1) := by decide +kernel
theorem dX5_make_2 : decode cX5_make 2 = .ok (.putfield 27, 3) := by decide +kernel
theorem dX5_make_5 : decode cX5_make 5 = .ok (.aload_n 0, 1) := by decide +kernel
theorem dX5_make_6 : decode cX5_make 6 = .ok (.iconst 0, 1) := by decide +kernel
theorem dX5_make_7 : decode cX5_make 7 = .ok (.putfield 31, 3) := by decide +kernel
theorem dX5_make_10 : decode cX5_make 10 = .ok (.aload_n 0, 1) := by decide +kernel
theorem dX5_make_11 : decode cX5_make 11 = .ok (.iconst 0, 1) := by decide +kernel
theorem dX5_make_12 : decode cX5_make 12 = .ok (.putfield 34, 3) := by decide +kernel
theorem dX5_make_15 : decode cX5_make 15 = .ok (.aload_n 0, 1) := by decide +kernel
theorem dX5_make_16 : decode cX5_make 16 = .ok (.iconst 0, 1) := by decide +kernel
theorem dX5_make_17 : decode cX5_make 17 = .ok (.iload_n 2, 1) := by decide +kernel
theorem dX5_make_18 : decode cX5_make 18 = .ok (.sipush 300, 3) := by decide +kernel
theorem dX5_make_21 : decode cX5_make 21 = .ok (.invokestatic 37, 3) := by decide +kernel
theorem dX5_make_24 : decode cX5_make 24 = .ok (.invokestatic 43, 3) := by decide +kernel
theorem dX5_make_27 : decode cX5_make 27 = .ok (.putfield 46, 3) := by decide +kernel
theorem dX5_make_30 : decode cX5_make 30 = .ok (.aload_n 0, 1) := by decide +kernel
theorem dX5_make_31 : decode cX5_make 31 = .ok (.aload_n 1, 1) := by decide +kernel
theorem dX5_make_32 : decode cX5_make 32 = .ok (.iload_n 3, 1) := by decide +kernel
theorem dX5_make_33 : decode cX5_make 33 = .ok (.invokevirtual 49, 3) := by decide +kernel
theorem dX5_make_36 : decode cX5_make 36 = .ok (.aload_n 0, 1) := by decide +kernel
theorem dX5_make_37 : decode cX5_make 37 = .ok (.aload_n 1, 1) := by decide +kernel
theorem dX5_make_38 : decode cX5_make 38 = .ok (.invokevirtual 53, 3) := by decide +kernel
theorem dX5_make_41 : decode cX5_make 41 = .ok (.aload_n 0, 1) := by decide +kernel
theorem dX5_make_42 : decode cX5_make 42 = .ok (.invokevirtual 57, 3) := by decide +kernel
theorem dX5_make_45 : decode cX5_make 45 = .ok (.aload_n 0, 1) := by decide +kernel
theorem dX5_make_46 : decode cX5_make 46 = .ok (.invokevirtual 60, 3) := by decide +kernel
theorem dX5_make_49 : decode cX5_make 49 = .ok (.return_, 1) := by decide +kernel
theorem dX5_at_0 : decode cX5_at 0 = .ok (.iload_n 1, 1) := by decide +kernel
theorem dX5_at_1 : decode cX5_at 1 = .ok (.aload_n 0, 1) := by decide +kernel
theorem dX5_at_2 : decode cX5_at 2 = .ok (.getfield 27, 3) := by decide +kernel
theorem dX5_at_5 : decode cX5_at 5 = .ok (.invokestatic 63, 3) := by decide +kernel
theorem dX5_at_8 : decode cX5_at 8 = .ok (.ifCond .eq 12, 3) := by decide +kernel
theorem dX5_at_11 : decode cX5_at 11 = .ok (.aload_n 0, 1) := by decide +kernel
theorem dX5_at_12 : decode cX5_at 12 = .ok (.getfield 11, 3) := by decide +kernel
theorem dX5_at_15 : decode cX5_at 15 = .ok (.iload_n 1, 1) := by decide +kernel
theorem dX5_at_16 : decode cX5_at 16 = .ok (.aaload, 1) := by decide +kernel
theorem dX5_at_17 : decode cX5_at 17 = .ok (.goto 4, 3) := by decide +kernel
theorem dX5_at_20 : decode cX5_at 20 = .ok (.aconst_null, 1) := by decide +kernel
theorem dX5_at_21 : decode cX5_at 21 = .ok (.areturn, 1) := by decide +kernel
theorem dX5_take_0 : decode cX5_take 0 = .ok (.aload_n 0, 1) := by decide +kernel
theorem dX5_take_1 : decode cX5_take 1 = .ok (.getfield 27, 3) := by decide +kernel
theorem dX5_take_4 : decode cX5_take 4 = .ok (.aload_n 0, 1) := by decide +kernel
theorem dX5_take_5 : decode cX5_take 5 = .ok (.getfield 11, 3) := by decide +kernel
theorem dX5_take_8 : decode cX5_take 8 = .ok (.arraylength, 1) := by decide +kernel
theorem dX5_take_9 : decode cX5_take 9 = .ok (.if_icmp .ge 49, 3) := by decide +kernel
theorem dX5_take_12 : decode cX5_take 12 = .ok (.aload_n 0, 1) := by decide +kernel
theorem dX5_take_13 : decode cX5_take 13 = .ok (.getfield 11, 3) := by decide +kernel
theorem dX5_take_16 : decode cX5_take 16 = .ok (.aload_n 0, 1) := by decide +kernel
theorem dX5_take_17 : decode cX5_take 17 = .ok (.getfield 27, 3) := by decide +kernel
theorem dX5_take_20 : decode cX5_take 20 = .ok (.aload_n 1, 1) := by decide +kernel
theorem dX5_take_21 : decode cX5_take 21 = .ok (.aastore, 1) := by decide +kernel
theorem dX5_take_22 : decode cX5_take 22 = .ok (.aload_n 0, 1) := by decide +kernel
theorem dX5_take_23 : decode cX5_take 23 = .ok (.dup, 1) := by decide +kernel
theorem dX5_take_24 : decode cX5_take 24 = .ok (.getfield 27, 3) := by decide +kernel
theorem dX5_take_27 : decode cX5_take 27 = .ok (.iconst 1, 1) := by decide +kernel
theorem dX5_take_28 : decode cX5_take 28 = .ok (.iadd, 1) := by decide +kernel
theorem dX5_take_29 : decode cX5_take 29 = .ok (.putfield 27, 3) := by decide +kernel
theorem dX5_take_32 : decode cX5_take 32 = .ok (.aload_n 0, 1) := by decide +kernel
theorem dX5_take_33 : decode cX5_take 33 = .ok (.dup, 1) := by decide +kernel
theorem dX5_take_34 : decode cX5_take 34 = .ok (.getfield 34, 3) := by decide +kernel
theorem dX5_take_37 : decode cX5_take 37 = .ok (.aload_n 1, 1) := by decide +kernel
theorem dX5_take_38 : decode cX5_take 38 = .ok (.getfield 67, 3) := by decide +kernel
theorem dX5_take_41 : decode cX5_take 41 = .ok (.iadd, 1) := by decide +kernel
theorem dX5_take_42 : decode cX5_take 42 = .ok (.putfield 34, 3) := by decide +kernel
theorem dX5_take_45 : decode cX5_take 45 = .ok (.aload_n 0, 1) := by decide +kernel
theorem dX5_take_46 : decode cX5_take 46 = .ok (.dup, 1) := by decide +kernel
theorem dX5_take_47 : decode cX5_take 47 = .ok (.getfield 46, 3) := by decide +kernel
theorem dX5_take_50 : decode cX5_take 50 = .ok (.aload_n 1, 1) := by decide +kernel
theorem dX5_take_51 : decode cX5_take 51 = .ok (.invokevirtual 70, 3) := by decide +kernel
theorem dX5_take_54 : decode cX5_take 54 = .ok (.isub, 1) := by decide +kernel
theorem dX5_take_55 : decode cX5_take 55 = .ok (.putfield 46, 3) := by decide +kernel
theorem dX5_take_58 : decode cX5_take 58 = .ok (.return_, 1) := by decide +kernel
theorem dX5_isTaken_0 : decode cX5_isTaken 0 = .ok (.iconst 0, 1) := by decide +kernel
theorem dX5_isTaken_1 : decode cX5_isTaken 1 = .ok (.istore_n 2, 1) := by decide +kernel
theorem dX5_isTaken_2 : decode cX5_isTaken 2 = .ok (.iload_n 2, 1) := by decide +kernel
theorem dX5_isTaken_3 : decode cX5_isTaken 3 = .ok (.aload_n 0, 1) := by decide +kernel
theorem dX5_isTaken_4 : decode cX5_isTaken 4 = .ok (.getfield 27, 3) := by decide +kernel
theorem dX5_isTaken_7 : decode cX5_isTaken 7 = .ok (.if_icmp .ge 21, 3) := by decide +kernel
theorem dX5_isTaken_10 : decode cX5_isTaken 10 = .ok (.aload_n 0, 1) := by decide +kernel
theorem dX5_isTaken_11 : decode cX5_isTaken 11 = .ok (.getfield 11, 3) := by decide +kernel
theorem dX5_isTaken_14 : decode cX5_isTaken 14 = .ok (.iload_n 2, 1) := by decide +kernel
theorem dX5_isTaken_15 : decode cX5_isTaken 15 = .ok (.aaload, 1) := by decide +kernel
theorem dX5_isTaken_16 : decode cX5_isTaken 16 = .ok (.aload_n 1, 1) := by decide +kernel
theorem dX5_isTaken_17 : decode cX5_isTaken 17 = .ok (.if_acmp .ne 5, 3) := by decide +kernel
theorem dX5_isTaken_20 : decode cX5_isTaken 20 = .ok (.iconst 1, 1) := by decide +kernel
theorem dX5_isTaken_21 : decode cX5_isTaken 21 = .ok (.ireturn, 1) := by decide +kernel
theorem dX5_isTaken_22 : decode cX5_isTaken 22 = .ok (.iinc 2 1, 3) := by decide +kernel
theorem dX5_isTaken_25 : decode cX5_isTaken 25 = .ok (.goto (-23), 3) := by decide +kernel
theorem dX5_isTaken_28 : decode cX5_isTaken 28 = .ok (.iconst 0, 1) := by decide +kernel
theorem dX5_isTaken_29 : decode cX5_isTaken 29 = .ok (.ireturn, 1) := by decide +kernel
theorem dX5_takeTries_0 : decode cX5_takeTries 0 = .ok (.iconst 0, 1) := by decide +kernel
theorem dX5_takeTries_1 : decode cX5_takeTries 1 = .ok (.istore_n 3, 1) := by decide +kernel
theorem dX5_takeTries_2 : decode cX5_takeTries 2 = .ok (.iload_n 3, 1) := by decide +kernel
theorem dX5_takeTries_3 : decode cX5_takeTries 3 = .ok (.aload_n 1, 1) := by decide +kernel
theorem dX5_takeTries_4 : decode cX5_takeTries 4 = .ok (.getfield 74, 3) := by decide +kernel
theorem dX5_takeTries_7 : decode cX5_takeTries 7 = .ok (.if_icmp .ge 51, 3) := by decide +kernel
theorem dX5_takeTries_10 : decode cX5_takeTries 10 = .ok (.aload_n 0, 1) := by decide +kernel
theorem dX5_takeTries_11 : decode cX5_takeTries 11 = .ok (.getfield 27, 3) := by decide +kernel
theorem dX5_takeTries_14 : decode cX5_takeTries 14 = .ok (.iload_n 2, 1) := by decide +kernel
theorem dX5_takeTries_15 : decode cX5_takeTries 15 = .ok (.if_icmp .ge 43, 3) := by decide +kernel
theorem dX5_takeTries_18 : decode cX5_takeTries 18 = .ok (.aload_n 1, 1) := by decide +kernel
theorem dX5_takeTries_19 : decode cX5_takeTries 19 = .ok (.getfield 79, 3) := by decide +kernel
theorem dX5_takeTries_22 : decode cX5_takeTries 22 = .ok (.iload_n 3, 1) := by decide +kernel
theorem dX5_takeTries_23 : decode cX5_takeTries 23 = .ok (.aaload, 1) := by decide +kernel
theorem dX5_takeTries_24 : decode cX5_takeTries 24 = .ok (.astore 4, 2) := by decide +kernel
theorem dX5_takeTries_26 : decode cX5_takeTries 26 = .ok (.aload 4, 2) := by decide +kernel
theorem dX5_takeTries_28 : decode cX5_takeTries 28 = .ok (.getfield 82, 3) := by decide +kernel
theorem dX5_takeTries_31 : decode cX5_takeTries 31 = .ok (.ifCond .eq 21, 3) := by decide +kernel
theorem dX5_takeTries_34 : decode cX5_takeTries 34 = .ok (.aload 4, 2) := by decide +kernel
theorem dX5_takeTries_36 : decode cX5_takeTries 36 = .ok (.invokevirtual 70, 3) := by decide +kernel
theorem dX5_takeTries_39 : decode cX5_takeTries 39 = .ok (.aload_n 0, 1) := by decide +kernel
theorem dX5_takeTries_40 : decode cX5_takeTries 40 = .ok (.getfield 46, 3) := by decide +kernel
theorem dX5_takeTries_43 : decode cX5_takeTries 43 = .ok (.if_icmp .gt 9, 3) := by decide +kernel
theorem dX5_takeTries_46 : decode cX5_takeTries 46 = .ok (.aload_n 0, 1) := by decide +kernel
theorem dX5_takeTries_47 : decode cX5_takeTries 47 = .ok (.aload 4, 2) := by decide +kernel
theorem dX5_takeTries_49 : decode cX5_takeTries 49 = .ok (.invokevirtual 86, 3) := by decide +kernel
theorem dX5_takeTries_52 : decode cX5_takeTries 52 = .ok (.iinc 3 1, 3) := by decide +kernel
theorem dX5_takeTries_55 : decode cX5_takeTries 55 = .ok (.goto (-53), 3) := by decide +kernel
theorem dX5_takeTries_58 : decode cX5_takeTries 58 = .ok (.return_, 1) := by decide +kernel
theorem dX5_fillPool_0 : decode cX5_fillPool 0 = .ok (.iconst 0, 1) := by decide +kernel
theorem dX5_fillPool_1 : decode cX5_fillPool 1 = .ok (.istore_n 2, 1) := by decide +kernel
theorem dX5_fillPool_2 : decode cX5_fillPool 2 = .ok (.iload_n 2, 1) := by decide +kernel
theorem dX5_fillPool_3 : decode cX5_fillPool 3 = .ok (.aload_n 1, 1) := by decide +kernel
theorem dX5_fillPool_4 : decode cX5_fillPool 4 = .ok (.getfield 74, 3) := by decide +kernel
theorem dX5_fillPool_7 : decode cX5_fillPool 7 = .ok (.if_icmp .ge 56, 3) := by decide +kernel
theorem dX5_fillPool_10 : decode cX5_fillPool 10 = .ok (.aload_n 0, 1) := by decide +kernel
theorem dX5_fillPool_11 : decode cX5_fillPool 11 = .ok (.getfield 31, 3) := by decide +kernel
theorem dX5_fillPool_14 : decode cX5_fillPool 14 = .ok (.bipush 12, 2) := by decide +kernel
theorem dX5_fillPool_16 : decode cX5_fillPool 16 = .ok (.if_icmp .ge 47, 3) := by decide +kernel
theorem dX5_fillPool_19 : decode cX5_fillPool 19 = .ok (.aload_n 0, 1) := by decide +kernel
theorem dX5_fillPool_20 : decode cX5_fillPool 20 = .ok (.aload_n 1, 1) := by decide +kernel
theorem dX5_fillPool_21 : decode cX5_fillPool 21 = .ok (.getfield 79, 3) := by decide +kernel
theorem dX5_fillPool_24 : decode cX5_fillPool 24 = .ok (.iload_n 2, 1) := by decide +kernel
theorem dX5_fillPool_25 : decode cX5_fillPool 25 = .ok (.aaload, 1) := by decide +kernel
theorem dX5_fillPool_26 : decode cX5_fillPool 26 = .ok (.invokevirtual 90, 3) := by decide +kernel
theorem dX5_fillPool_29 : decode cX5_fillPool 29 = .ok (.ifCond .ne 28, 3) := by decide +kernel
theorem dX5_fillPool_32 : decode cX5_fillPool 32 = .ok (.aload_n 0, 1) := by decide +kernel
theorem dX5_fillPool_33 : decode cX5_fillPool 33 = .ok (.getfield 17, 3) := by decide +kernel
theorem dX5_fillPool_36 : decode cX5_fillPool 36 = .ok (.aload_n 0, 1) := by decide +kernel
theorem dX5_fillPool_37 : decode cX5_fillPool 37 = .ok (.getfield 31, 3) := by decide +kernel
theorem dX5_fillPool_40 : decode cX5_fillPool 40 = .ok (.aload_n 1, 1) := by decide +kernel
theorem dX5_fillPool_41 : decode cX5_fillPool 41 = .ok (.getfield 79, 3) := by decide +kernel
theorem dX5_fillPool_44 : decode cX5_fillPool 44 = .ok (.iload_n 2, 1) := by decide +kernel
theorem dX5_fillPool_45 : decode cX5_fillPool 45 = .ok (.aaload, 1) := by decide +kernel
theorem dX5_fillPool_46 : decode cX5_fillPool 46 = .ok (.aastore, 1) := by decide +kernel
theorem dX5_fillPool_47 : decode cX5_fillPool 47 = .ok (.aload_n 0, 1) := by decide +kernel
theorem dX5_fillPool_48 : decode cX5_fillPool 48 = .ok (.dup, 1) := by decide +kernel
theorem dX5_fillPool_49 : decode cX5_fillPool 49 = .ok (.getfield 31, 3) := by decide +kernel
theorem dX5_fillPool_52 : decode cX5_fillPool 52 = .ok (.iconst 1, 1) := by decide +kernel
theorem dX5_fillPool_53 : decode cX5_fillPool 53 = .ok (.iadd, 1) := by decide +kernel
theorem dX5_fillPool_54 : decode cX5_fillPool 54 = .ok (.putfield 31, 3) := by decide +kernel
theorem dX5_fillPool_57 : decode cX5_fillPool 57 = .ok (.iinc 2 1, 3) := by decide +kernel
theorem dX5_fillPool_60 : decode cX5_fillPool 60 = .ok (.goto (-58), 3) := by decide +kernel
theorem dX5_fillPool_63 : decode cX5_fillPool 63 = .ok (.return_, 1) := by decide +kernel
theorem dX5_weighPool_0 : decode cX5_weighPool 0 = .ok (.iconst 0, 1) := by decide +kernel
theorem dX5_weighPool_1 : decode cX5_weighPool 1 = .ok (.istore_n 1, 1) := by decide +kernel
theorem dX5_weighPool_2 : decode cX5_weighPool 2 = .ok (.iload_n 1, 1) := by decide +kernel
theorem dX5_weighPool_3 : decode cX5_weighPool 3 = .ok (.aload_n 0, 1) := by decide +kernel
theorem dX5_weighPool_4 : decode cX5_weighPool 4 = .ok (.getfield 46, 3) := by decide +kernel
theorem dX5_weighPool_7 : decode cX5_weighPool 7 = .ok (.if_icmp .gt 23, 3) := by decide +kernel
theorem dX5_weighPool_10 : decode cX5_weighPool 10 = .ok (.aload_n 0, 1) := by decide +kernel
theorem dX5_weighPool_11 : decode cX5_weighPool 11 = .ok (.getfield 20, 3) := by decide +kernel
theorem dX5_weighPool_14 : decode cX5_weighPool 14 = .ok (.iload_n 1, 1) := by decide +kernel
theorem dX5_weighPool_15 : decode cX5_weighPool 15 = .ok (.iconst 0, 1) := by decide +kernel
theorem dX5_weighPool_16 : decode cX5_weighPool 16 = .ok (.iastore, 1) := by decide +kernel
theorem dX5_weighPool_17 : decode cX5_weighPool 17 = .ok (.aload_n 0, 1) := by decide +kernel
theorem dX5_weighPool_18 : decode cX5_weighPool 18 = .ok (.getfield 24, 3) := by decide +kernel
theorem dX5_weighPool_21 : decode cX5_weighPool 21 = .ok (.iload_n 1, 1) := by decide +kernel
theorem dX5_weighPool_22 : decode cX5_weighPool 22 = .ok (.iconst 0, 1) := by decide +kernel
theorem dX5_weighPool_23 : decode cX5_weighPool 23 = .ok (.iastore, 1) := by decide +kernel
theorem dX5_weighPool_24 : decode cX5_weighPool 24 = .ok (.iinc 1 1, 3) := by decide +kernel
theorem dX5_weighPool_27 : decode cX5_weighPool 27 = .ok (.goto (-25), 3) := by decide +kernel
theorem dX5_weighPool_30 : decode cX5_weighPool 30 = .ok (.iconst 0, 1) := by decide +kernel
theorem dX5_weighPool_31 : decode cX5_weighPool 31 = .ok (.istore_n 1, 1) := by decide +kernel
theorem dX5_weighPool_32 : decode cX5_weighPool 32 = .ok (.iload_n 1, 1) := by decide +kernel
theorem dX5_weighPool_33 : decode cX5_weighPool 33 = .ok (.aload_n 0, 1) := by decide +kernel
theorem dX5_weighPool_34 : decode cX5_weighPool 34 = .ok (.getfield 31, 3) := by decide +kernel
theorem dX5_weighPool_37 : decode cX5_weighPool 37 = .ok (.if_icmp .ge 99, 3) := by decide +kernel
theorem dX5_weighPool_40 : decode cX5_weighPool 40 = .ok (.aload_n 0, 1) := by decide +kernel
theorem dX5_weighPool_41 : decode cX5_weighPool 41 = .ok (.getfield 17, 3) := by decide +kernel
theorem dX5_weighPool_44 : decode cX5_weighPool 44 = .ok (.iload_n 1, 1) := by decide +kernel
theorem dX5_weighPool_45 : decode cX5_weighPool 45 = .ok (.aaload, 1) := by decide +kernel
theorem dX5_weighPool_46 : decode cX5_weighPool 46 = .ok (.invokevirtual 70, 3) := by decide +kernel
theorem dX5_weighPool_49 : decode cX5_weighPool 49 = .ok (.istore_n 2, 1) := by decide +kernel
theorem dX5_weighPool_50 : decode cX5_weighPool 50 = .ok (.aload_n 0, 1) := by decide +kernel
theorem dX5_weighPool_51 : decode cX5_weighPool 51 = .ok (.getfield 17, 3) := by decide +kernel
theorem dX5_weighPool_54 : decode cX5_weighPool 54 = .ok (.iload_n 1, 1) := by decide +kernel
theorem dX5_weighPool_55 : decode cX5_weighPool 55 = .ok (.aaload, 1) := by decide +kernel
theorem dX5_weighPool_56 : decode cX5_weighPool 56 = .ok (.getfield 67, 3) := by decide +kernel
theorem dX5_weighPool_59 : decode cX5_weighPool 59 = .ok (.istore_n 3, 1) := by decide +kernel
theorem dX5_weighPool_60 : decode cX5_weighPool 60 = .ok (.aload_n 0, 1) := by decide +kernel
theorem dX5_weighPool_61 : decode cX5_weighPool 61 = .ok (.getfield 46, 3) := by decide +kernel
theorem dX5_weighPool_64 : decode cX5_weighPool 64 = .ok (.istore 4, 2) := by decide +kernel
theorem dX5_weighPool_66 : decode cX5_weighPool 66 = .ok (.iload 4, 2) := by decide +kernel
theorem dX5_weighPool_68 : decode cX5_weighPool 68 = .ok (.iload_n 2, 1) := by decide +kernel
theorem dX5_weighPool_69 : decode cX5_weighPool 69 = .ok (.if_icmp .lt 61, 3) := by decide +kernel
theorem dX5_weighPool_72 : decode cX5_weighPool 72 = .ok (.aload_n 0, 1) := by decide +kernel
theorem dX5_weighPool_73 : decode cX5_weighPool 73 = .ok (.getfield 20, 3) := by decide +kernel
theorem dX5_weighPool_76 : decode cX5_weighPool 76 = .ok (.iload 4, 2) := by decide +kernel
theorem dX5_weighPool_78 : decode cX5_weighPool 78 = .ok (.iload_n 2, 1) := by decide +kernel
theorem dX5_weighPool_79 : decode cX5_weighPool 79 = .ok (.isub, 1) := by decide +kernel
theorem dX5_weighPool_80 : decode cX5_weighPool 80 = .ok (.iaload, 1) := by decide +kernel
theorem dX5_weighPool_81 : decode cX5_weighPool 81 = .ok (.iload_n 3, 1) := by decide +kernel
theorem dX5_weighPool_82 : decode cX5_weighPool 82 = .ok (.iadd, 1) := by decide +kernel
theorem dX5_weighPool_83 : decode cX5_weighPool 83 = .ok (.aload_n 0, 1) := by decide +kernel
theorem dX5_weighPool_84 : decode cX5_weighPool 84 = .ok (.getfield 20, 3) := by decide +kernel
theorem dX5_weighPool_87 : decode cX5_weighPool 87 = .ok (.iload 4, 2) := by decide +kernel
theorem dX5_weighPool_89 : decode cX5_weighPool 89 = .ok (.iaload, 1) := by decide +kernel
theorem dX5_weighPool_90 : decode cX5_weighPool 90 = .ok (.if_icmp .le 34, 3) := by decide +kernel
theorem dX5_weighPool_93 : decode cX5_weighPool 93 = .ok (.aload_n 0, 1) := by decide +kernel
theorem dX5_weighPool_94 : decode cX5_weighPool 94 = .ok (.getfield 20, 3) := by decide +kernel
theorem dX5_weighPool_97 : decode cX5_weighPool 97 = .ok (.iload 4, 2) := by decide +kernel
theorem dX5_weighPool_99 : decode cX5_weighPool 99 = .ok (.aload_n 0, 1) := by decide +kernel
theorem dX5_weighPool_100 : decode cX5_weighPool 100 = .ok (.getfield 20, 3) := by decide +kernel
theorem dX5_weighPool_103 : decode cX5_weighPool 103 = .ok (.iload 4, 2) := by decide +kernel
theorem dX5_weighPool_105 : decode cX5_weighPool 105 = .ok (.iload_n 2, 1) := by decide +kernel
theorem dX5_weighPool_106 : decode cX5_weighPool 106 = .ok (.isub, 1) := by decide +kernel
theorem dX5_weighPool_107 : decode cX5_weighPool 107 = .ok (.iaload, 1) := by decide +kernel
theorem dX5_weighPool_108 : decode cX5_weighPool 108 = .ok (.iload_n 3, 1) := by decide +kernel
theorem dX5_weighPool_109 : decode cX5_weighPool 109 = .ok (.iadd, 1) := by decide +kernel
theorem dX5_weighPool_110 : decode cX5_weighPool 110 = .ok (.iastore, 1) := by decide +kernel
theorem dX5_weighPool_111 : decode cX5_weighPool 111 = .ok (.aload_n 0, 1) := by decide +kernel
theorem dX5_weighPool_112 : decode cX5_weighPool 112 = .ok (.getfield 24, 3) := by decide +kernel
theorem dX5_weighPool_115 : decode cX5_weighPool 115 = .ok (.iload 4, 2) := by decide +kernel
theorem dX5_weighPool_117 : decode cX5_weighPool 117 = .ok (.dup2, 1) := by decide +kernel
theorem dX5_weighPool_118 : decode cX5_weighPool 118 = .ok (.iaload, 1) := by decide +kernel
theorem dX5_weighPool_119 : decode cX5_weighPool 119 = .ok (.iconst 1, 1) := by decide +kernel
theorem dX5_weighPool_120 : decode cX5_weighPool 120 = .ok (.iload_n 1, 1) := by decide +kernel
theorem dX5_weighPool_121 : decode cX5_weighPool 121 = .ok (.ishl, 1) := by decide +kernel
theorem dX5_weighPool_122 : decode cX5_weighPool 122 = .ok (.ior, 1) := by decide +kernel
theorem dX5_weighPool_123 : decode cX5_weighPool 123 = .ok (.iastore, 1) := by decide +kernel
theorem dX5_weighPool_124 : decode cX5_weighPool 124 = .ok (.iinc 4 (-1), 3) := by decide +kernel
theorem dX5_weighPool_127 : decode cX5_weighPool 127 = .ok (.goto (-61), 3) := by decide +kernel
theorem dX5_weighPool_130 : decode cX5_weighPool 130 = .ok (.iinc 1 1, 3) := by decide +kernel
theorem dX5_weighPool_133 : decode cX5_weighPool 133 = .ok (.goto (-101), 3) := by decide +kernel
theorem dX5_weighPool_136 : decode cX5_weighPool 136 = .ok (.return_, 1) := by decide +kernel
theorem dX5_takeBestOfPool_0 : decode cX5_takeBestOfPool 0 = .ok (.iconst 0, 1) := by decide +kernel
theorem dX5_takeBestOfPool_1 : decode cX5_takeBestOfPool 1 = .ok (.istore_n 1, 1) := by decide +kernel
theorem dX5_takeBestOfPool_2 : decode cX5_takeBestOfPool 2 = .ok (.aload_n 0, 1) := by decide +kernel
theorem dX5_takeBestOfPool_3 : decode cX5_takeBestOfPool 3 = .ok (.getfield 46, 3) := by decide +kernel
theorem dX5_takeBestOfPool_6 : decode cX5_takeBestOfPool 6 = .ok (.istore_n 2, 1) := by decide +kernel
theorem dX5_takeBestOfPool_7 : decode cX5_takeBestOfPool 7 = .ok (.aload_n 0, 1) := by decide +kernel
theorem dX5_takeBestOfPool_8 : decode cX5_takeBestOfPool 8 = .ok (.getfield 31, 3) := by decide +kernel
theorem dX5_takeBestOfPool_11 : decode cX5_takeBestOfPool 11 = .ok (.iconst 1, 1) := by decide +kernel
theorem dX5_takeBestOfPool_12 : decode cX5_takeBestOfPool 12 = .ok (.isub, 1) := by decide +kernel
theorem dX5_takeBestOfPool_13 : decode cX5_takeBestOfPool 13 = .ok (.istore_n 3, 1) := by decide +kernel
theorem dX5_takeBestOfPool_14 : decode cX5_takeBestOfPool 14 = .ok (.iload_n 3, 1) := by decide +kernel
theorem dX5_takeBestOfPool_15 : decode cX5_takeBestOfPool 15 = .ok (.ifCond .lt 45, 3) := by decide +kernel
theorem dX5_takeBestOfPool_18 : decode cX5_takeBestOfPool 18 = .ok (.iload_n 2, 1) := by decide +kernel
theorem dX5_takeBestOfPool_19 : decode cX5_takeBestOfPool 19 = .ok (.ifCond .lt 35, 3) := by decide +kernel
theorem dX5_takeBestOfPool_22 : decode cX5_takeBestOfPool 22 = .ok (.aload_n 0, 1) := by decide +kernel
theorem dX5_takeBestOfPool_23 : decode cX5_takeBestOfPool 23 = .ok (.getfield 24, 3) := by decide +kernel
theorem dX5_takeBestOfPool_26 : decode cX5_takeBestOfPool 26 = .ok (.iload_n 2, 1) := by decide +kernel
theorem dX5_takeBestOfPool_27 : decode cX5_takeBestOfPool 27 = .ok (.iaload, 1) := by decide +kernel
theorem dX5_takeBestOfPool_28 : decode cX5_takeBestOfPool 28 = .ok (.iload_n 3, 1) := by decide +kernel
theorem dX5_takeBestOfPool_29 : decode cX5_takeBestOfPool 29 = .ok (.ishr, 1) := by decide +kernel
theorem dX5_takeBestOfPool_30 : decode cX5_takeBestOfPool 30 = .ok (.iconst 1, 1) := by decide +kernel
theorem dX5_takeBestOfPool_31 : decode cX5_takeBestOfPool 31 = .ok (.iand, 1) := by decide +kernel
theorem dX5_takeBestOfPool_32 : decode cX5_takeBestOfPool 32 = .ok (.iconst 1, 1) := by decide +kernel
theorem dX5_takeBestOfPool_33 : decode cX5_takeBestOfPool 33 = .ok (.if_icmp .ne 21, 3) := by decide +kernel
theorem dX5_takeBestOfPool_36 : decode cX5_takeBestOfPool 36 = .ok (.iload_n 1, 1) := by decide +kernel
theorem dX5_takeBestOfPool_37 : decode cX5_takeBestOfPool 37 = .ok (.iconst 1, 1) := by decide +kernel
theorem dX5_takeBestOfPool_38 : decode cX5_takeBestOfPool 38 = .ok (.iload_n 3, 1) := by decide +kernel
theorem dX5_takeBestOfPool_39 : decode cX5_takeBestOfPool 39 = .ok (.ishl, 1) := by decide +kernel
theorem dX5_takeBestOfPool_40 : decode cX5_takeBestOfPool 40 = .ok (.ior, 1) := by decide +kernel
theorem dX5_takeBestOfPool_41 : decode cX5_takeBestOfPool 41 = .ok (.istore_n 1, 1) := by decide +kernel
theorem dX5_takeBestOfPool_42 : decode cX5_takeBestOfPool 42 = .ok (.iload_n 2, 1) := by decide +kernel
theorem dX5_takeBestOfPool_43 : decode cX5_takeBestOfPool 43 = .ok (.aload_n 0, 1) := by decide +kernel
theorem dX5_takeBestOfPool_44 : decode cX5_takeBestOfPool 44 = .ok (.getfield 17, 3) := by decide +kernel
theorem dX5_takeBestOfPool_47 : decode cX5_takeBestOfPool 47 = .ok (.iload_n 3, 1) := by decide +kernel
theorem dX5_takeBestOfPool_48 : decode cX5_takeBestOfPool 48 = .ok (.aaload, 1) := by decide +kernel
theorem dX5_takeBestOfPool_49 : decode cX5_takeBestOfPool 49 = .ok (.invokevirtual 70, 3) := by decide +kernel
theorem dX5_takeBestOfPool_52 : decode cX5_takeBestOfPool 52 = .ok (.isub, 1) := by decide +kernel
theorem dX5_takeBestOfPool_53 : decode cX5_takeBestOfPool 53 = .ok (.istore_n 2, 1) := by decide +kernel
theorem dX5_takeBestOfPool_54 : decode cX5_takeBestOfPool 54 = .ok (.iinc 3 (-1), 3) := by decide +kernel
theorem dX5_takeBestOfPool_57 : decode cX5_takeBestOfPool 57 = .ok (.goto (-43), 3) := by decide +kernel
theorem dX5_takeBestOfPool_60 : decode cX5_takeBestOfPool 60 = .ok (.iconst 0, 1) := by decide +kernel
theorem dX5_takeBestOfPool_61 : decode cX5_takeBestOfPool 61 = .ok (.istore_n 3, 1) := by decide +kernel
theorem dX5_takeBestOfPool_62 : decode cX5_takeBestOfPool 62 = .ok (.iload_n 3, 1) := by decide +kernel
theorem dX5_takeBestOfPool_63 : decode cX5_takeBestOfPool 63 = .ok (.aload_n 0, 1) := by decide +kernel
theorem dX5_takeBestOfPool_64 : decode cX5_takeBestOfPool 64 = .ok (.getfield 31, 3) := by decide +kernel
theorem dX5_takeBestOfPool_67 : decode cX5_takeBestOfPool 67 = .ok (.if_icmp .ge 28, 3) := by decide +kernel
theorem dX5_takeBestOfPool_70 : decode cX5_takeBestOfPool 70 = .ok (.iload_n 1, 1) := by decide +kernel
theorem dX5_takeBestOfPool_71 : decode cX5_takeBestOfPool 71 = .ok (.iload_n 3, 1) := by decide +kernel
theorem dX5_takeBestOfPool_72 : decode cX5_takeBestOfPool 72 = .ok (.ishr, 1) := by decide +kernel
theorem dX5_takeBestOfPool_73 : decode cX5_takeBestOfPool 73 = .ok (.iconst 1, 1) := by decide +kernel
theorem dX5_takeBestOfPool_74 : decode cX5_takeBestOfPool 74 = .ok (.iand, 1) := by decide +kernel
theorem dX5_takeBestOfPool_75 : decode cX5_takeBestOfPool 75 = .ok (.iconst 1, 1) := by decide +kernel
theorem dX5_takeBestOfPool_76 : decode cX5_takeBestOfPool 76 = .ok (.if_icmp .ne 13, 3) := by decide +kernel
theorem dX5_takeBestOfPool_79 : decode cX5_takeBestOfPool 79 = .ok (.aload_n 0, 1) := by decide +kernel
theorem dX5_takeBestOfPool_80 : decode cX5_takeBestOfPool 80 = .ok (.aload_n 0, 1) := by decide +kernel
theorem dX5_takeBestOfPool_81 : decode cX5_takeBestOfPool 81 = .ok (.getfield 17, 3) := by decide +kernel
theorem dX5_takeBestOfPool_84 : decode cX5_takeBestOfPool 84 = .ok (.iload_n 3, 1) := by decide +kernel
theorem dX5_takeBestOfPool_85 : decode cX5_takeBestOfPool 85 = .ok (.aaload, 1) := by decide +kernel
theorem dX5_takeBestOfPool_86 : decode cX5_takeBestOfPool 86 = .ok (.invokevirtual 86, 3) := by decide +kernel
theorem dX5_takeBestOfPool_89 : decode cX5_takeBestOfPool 89 = .ok (.iinc 3 1, 3) := by decide +kernel
theorem dX5_takeBestOfPool_92 : decode cX5_takeBestOfPool 92 = .ok (.goto (-30), 3) := by decide +kernel
theorem dX5_takeBestOfPool_95 : decode cX5_takeBestOfPool 95 = .ok (.return_, 1) := by decide +kernel
theorem dX6_init_0 : decode cX6_init 0 = .ok (.aload_n 0, 1) := by decide +kernel
theorem dX6_init_1 : decode cX6_init 1 = .ok (.invokespecial 1, 3) := by decide +kernel
theorem dX6_init_4 : decode cX6_init 4 = .ok (.aload_n 0, 1) := by decide +kernel
theorem dX6_init_5 : decode cX6_init 5 = .ok (.iload_n 1, 1) := by decide +kernel
theorem dX6_init_6 : decode cX6_init 6 = .ok (.putfield 7, 3) := by decide +kernel
theorem dX6_init_9 : decode cX6_init 9 = .ok (.aload_n 0, 1) := by decide +kernel
theorem dX6_init_10 : decode cX6_init 10 = .ok (.iload_n 2, 1) := by decide +kernel
theorem dX6_init_11 : decode cX6_init 11 = .ok (.putfield 13, 3) := by decide +kernel
theorem dX6_init_14 : decode cX6_init 14 = .ok (.aload_n 0, 1) := by decide +kernel
theorem dX6_init_15 : decode cX6_init 15 = .ok (.iload_n 3, 1) := by decide +kernel
theorem dX6_init_16 : decode cX6_init 16 = .ok (.putfield 16, 3) := by decide +kernel
theorem dX6_init_19 : decode cX6_init 19 = .ok (.return_, 1) := by decide +kernel
theorem dX6_covers_0 : decode cX6_covers 0 = .ok (.iload_n 1, 1) := by decide +kernel
theorem dX6_covers_1 : decode cX6_covers 1 = .ok (.aload_n 0, 1) := by decide +kernel
theorem dX6_covers_2 : decode cX6_covers 2 = .ok (.getfield 7, 3) := by decide +kernel
theorem dX6_covers_5 : decode cX6_covers 5 = .ok (.if_icmp .ne 23, 3) := by decide +kernel
theorem dX6_covers_8 : decode cX6_covers 8 = .ok (.aload_n 0, 1) := by decide +kernel
theorem dX6_covers_9 : decode cX6_covers 9 = .ok (.getfield 13, 3) := by decide +kernel
theorem dX6_covers_12 : decode cX6_covers 12 = .ok (.iload_n 2, 1) := by decide +kernel
theorem dX6_covers_13 : decode cX6_covers 13 = .ok (.if_icmp .gt 15, 3) := by decide +kernel
theorem dX6_covers_16 : decode cX6_covers 16 = .ok (.iload_n 2, 1) := by decide +kernel
theorem dX6_covers_17 : decode cX6_covers 17 = .ok (.aload_n 0, 1) := by decide +kernel
theorem dX6_covers_18 : decode cX6_covers 18 = .ok (.getfield 16, 3) := by decide +kernel
theorem dX6_covers_21 : decode cX6_covers 21 = .ok (.if_icmp .gt 7, 3) := by decide +kernel
theorem dX6_covers_24 : decode cX6_covers 24 = .ok (.iconst 1, 1) := by decide +kernel
theorem dX6_covers_25 : decode cX6_covers 25 = .ok (.goto 4, 3) := by decide +kernel
theorem dX6_covers_28 : decode cX6_covers 28 = .ok (.iconst 0, 1) := by decide +kernel
theorem dX6_covers_29 : decode cX6_covers 29 = .ok (.ireturn, 1) := by decide +kernel
theorem dX7_init_0 : decode cX7_init 0 = .ok (.aload_n 0, 1) := by decide +kernel
theorem dX7_init_1 : decode cX7_init 1 = .ok (.invokespecial 3, 3) := by decide +kernel
theorem dX7_init_4 : decode cX7_init 4 = .ok (.aload_n 0, 1) := by decide +kernel
theorem dX7_init_5 : decode cX7_init 5 = .ok (.bipush 60, 2) := by decide +kernel
theorem dX7_init_7 : decode cX7_init 7 = .ok (.anewarray 9, 3) := by decide +kernel
theorem dX7_init_10 : decode cX7_init 10 = .ok (.putfield 11, 3) := by decide +kernel
theorem dX7_init_13 : decode cX7_init 13 = .ok (.return_, 1) := by decide +kernel
theorem dX7_find_0 : decode cX7_find 0 = .ok (.iload_n 1, 1) := by decide +kernel
theorem dX7_find_1 : decode cX7_find 1 = .ok (.iload_n 2, 1) := by decide +kernel
theorem dX7_find_2 : decode cX7_find 2 = .ok (.invokestatic 17, 3) := by decide +kernel
theorem dX7_find_5 : decode cX7_find 5 = .ok (.istore_n 3, 1) := by decide +kernel
theorem dX7_find_6 : decode cX7_find 6 = .ok (.iload_n 1, 1) := by decide +kernel
theorem dX7_find_7 : decode cX7_find 7 = .ok (.iload_n 2, 1) := by decide +kernel
theorem dX7_find_8 : decode cX7_find 8 = .ok (.invokestatic 23, 3) := by decide +kernel
theorem dX7_find_11 : decode cX7_find 11 = .ok (.istore 4, 2) := by decide +kernel
theorem dX7_find_13 : decode cX7_find 13 = .ok (.iconst 0, 1) := by decide +kernel
theorem dX7_find_14 : decode cX7_find 14 = .ok (.istore 5, 2) := by decide +kernel
theorem dX7_find_16 : decode cX7_find 16 = .ok (.iload 5, 2) := by decide +kernel
theorem dX7_find_18 : decode cX7_find 18 = .ok (.aload_n 0, 1) := by decide +kernel
theorem dX7_find_19 : decode cX7_find 19 = .ok (.getfield 26, 3) := by decide +kernel
theorem dX7_find_22 : decode cX7_find 22 = .ok (.if_icmp .ge 46, 3) := by decide +kernel
theorem dX7_find_25 : decode cX7_find 25 = .ok (.aload_n 0, 1) := by decide +kernel
theorem dX7_find_26 : decode cX7_find 26 = .ok (.getfield 11, 3) := by decide +kernel
theorem dX7_find_29 : decode cX7_find 29 = .ok (.iload 5, 2) := by decide +kernel
theorem dX7_find_31 : decode cX7_find 31 = .ok (.aaload, 1) := by decide +kernel
theorem dX7_find_32 : decode cX7_find 32 = .ok (.getfield 30, 3) := by decide +kernel
theorem dX7_find_35 : decode cX7_find 35 = .ok (.iload_n 3, 1) := by decide +kernel
theorem dX7_find_36 : decode cX7_find 36 = .ok (.if_icmp .ne 26, 3) := by decide +kernel
theorem dX7_find_39 : decode cX7_find 39 = .ok (.aload_n 0, 1) := by decide +kernel
theorem dX7_find_40 : decode cX7_find 40 = .ok (.getfield 11, 3) := by decide +kernel
theorem dX7_find_43 : decode cX7_find 43 = .ok (.iload 5, 2) := by decide +kernel
theorem dX7_find_45 : decode cX7_find 45 = .ok (.aaload, 1) := by decide +kernel
theorem dX7_find_46 : decode cX7_find 46 = .ok (.getfield 33, 3) := by decide +kernel
theorem dX7_find_49 : decode cX7_find 49 = .ok (.iload 4, 2) := by decide +kernel
theorem dX7_find_51 : decode cX7_find 51 = .ok (.if_icmp .ne 11, 3) := by decide +kernel
theorem dX7_find_54 : decode cX7_find 54 = .ok (.aload_n 0, 1) := by decide +kernel
theorem dX7_find_55 : decode cX7_find 55 = .ok (.getfield 11, 3) := by decide +kernel
theorem dX7_find_58 : decode cX7_find 58 = .ok (.iload 5, 2) := by decide +kernel
theorem dX7_find_60 : decode cX7_find 60 = .ok (.aaload, 1) := by decide +kernel
theorem dX7_find_61 : decode cX7_find 61 = .ok (.areturn, 1) := by decide +kernel
theorem dX7_find_62 : decode cX7_find 62 = .ok (.iinc 5 1, 3) := by decide +kernel
theorem dX7_find_65 : decode cX7_find 65 = .ok (.goto (-49), 3) := by decide +kernel
theorem dX7_find_68 : decode cX7_find 68 = .ok (.aconst_null, 1) := by decide +kernel
theorem dX7_find_69 : decode cX7_find 69 = .ok (.areturn, 1) := by decide +kernel
theorem dX7_tell_0 : decode cX7_tell 0 = .ok (.aload_n 0, 1) := by decide +kernel
theorem dX7_tell_1 : decode cX7_tell 1 = .ok (.iload_n 1, 1) := by decide +kernel
theorem dX7_tell_2 : decode cX7_tell 2 = .ok (.iload_n 2, 1) := by decide +kernel
theorem dX7_tell_3 : decode cX7_tell 3 = .ok (.invokevirtual 36, 3) := by decide +kernel
theorem dX7_tell_6 : decode cX7_tell 6 = .ok (.astore 4, 2) := by decide +kernel
theorem dX7_tell_8 : decode cX7_tell 8 = .ok (.aload 4, 2) := by decide +kernel
theorem dX7_tell_10 : decode cX7_tell 10 = .ok (.ifnull 28, 3) := by decide +kernel
theorem dX7_tell_13 : decode cX7_tell 13 = .ok (.aload 4, 2) := by decide +kernel
theorem dX7_tell_15 : decode cX7_tell 15 = .ok (.getfield 40, 3) := by decide +kernel
theorem dX7_tell_18 : decode cX7_tell 18 = .ok (.iload_n 3, 1) := by decide +kernel
theorem dX7_tell_19 : decode cX7_tell 19 = .ok (.if_icmp .eq 7, 3) := by decide +kernel
theorem dX7_tell_22 : decode cX7_tell 22 = .ok (.iconst 1, 1) := by decide +kernel
theorem dX7_tell_23 : decode cX7_tell 23 = .ok (.goto 4, 3) := by decide +kernel
theorem dX7_tell_26 : decode cX7_tell 26 = .ok (.iconst 0, 1) := by decide +kernel
theorem dX7_tell_27 : decode cX7_tell 27 = .ok (.istore 5, 2) := by decide +kernel
theorem dX7_tell_29 : decode cX7_tell 29 = .ok (.aload 4, 2) := by decide +kernel
theorem dX7_tell_31 : decode cX7_tell 31 = .ok (.iload_n 3, 1) := by decide +kernel
theorem dX7_tell_32 : decode cX7_tell 32 = .ok (.putfield 40, 3) := by decide +kernel
theorem dX7_tell_35 : decode cX7_tell 35 = .ok (.iload 5, 2) := by decide +kernel
theorem dX7_tell_37 : decode cX7_tell 37 = .ok (.ireturn, 1) := by decide +kernel
theorem dX7_tell_38 : decode cX7_tell 38 = .ok (.aload_n 0, 1) := by decide +kernel
theorem dX7_tell_39 : decode cX7_tell 39 = .ok (.getfield 26, 3) := by decide +kernel
theorem dX7_tell_42 : decode cX7_tell 42 = .ok (.bipush 60, 2) := by decide +kernel
theorem dX7_tell_44 : decode cX7_tell 44 = .ok (.if_icmp .lt 5, 3) := by decide +kernel
theorem dX7_tell_47 : decode cX7_tell 47 = .ok (.iconst 0, 1) := by decide +kernel
theorem dX7_tell_48 : decode cX7_tell 48 = .ok (.ireturn, 1) := by decide +kernel
theorem dX7_tell_49 : decode cX7_tell 49 = .ok (.aload_n 0, 1) := by decide +kernel
theorem dX7_tell_50 : decode cX7_tell 50 = .ok (.getfield 11, 3) := by decide +kernel
theorem dX7_tell_53 : decode cX7_tell 53 = .ok (.aload_n 0, 1) := by decide +kernel
theorem dX7_tell_54 : decode cX7_tell 54 = .ok (.getfield 26, 3) := by decide +kernel
theorem dX7_tell_57 : decode cX7_tell 57 = .ok (.new 9, 3) := by decide +kernel
theorem dX7_tell_60 : decode cX7_tell 60 = .ok (.dup, 1) := by decide +kernel
theorem dX7_tell_61 : decode cX7_tell 61 = .ok (.iload_n 1, 1) := by decide +kernel
theorem dX7_tell_62 : decode cX7_tell 62 = .ok (.iload_n 2, 1) := by decide +kernel
theorem dX7_tell_63 : decode cX7_tell 63 = .ok (.invokestatic 17, 3) := by decide +kernel
theorem dX7_tell_66 : decode cX7_tell 66 = .ok (.iload_n 1, 1) := by decide +kernel
theorem dX7_tell_67 : decode cX7_tell 67 = .ok (.iload_n 2, 1) := by decide +kernel
theorem dX7_tell_68 : decode cX7_tell 68 = .ok (.invokestatic 23, 3) := by decide +kernel
theorem dX7_tell_71 : decode cX7_tell 71 = .ok (.iload_n 3, 1) := by decide +kernel
theorem dX7_tell_72 : decode cX7_tell 72 = .ok (.invokespecial 44, 3) := by decide +kernel
theorem dX7_tell_75 : decode cX7_tell 75 = .ok (.aastore, 1) := by decide +kernel
theorem dX7_tell_76 : decode cX7_tell 76 = .ok (.aload_n 0, 1) := by decide +kernel
theorem dX7_tell_77 : decode cX7_tell 77 = .ok (.dup, 1) := by decide +kernel
theorem dX7_tell_78 : decode cX7_tell 78 = .ok (.getfield 26, 3) := by decide +kernel
theorem dX7_tell_81 : decode cX7_tell 81 = .ok (.iconst 1, 1) := by decide +kernel
theorem dX7_tell_82 : decode cX7_tell 82 = .ok (.iadd, 1) := by decide +kernel
theorem dX7_tell_83 : decode cX7_tell 83 = .ok (.putfield 26, 3) := by decide +kernel
theorem dX7_tell_86 : decode cX7_tell 86 = .ok (.iconst 1, 1) := by decide +kernel
theorem dX7_tell_87 : decode cX7_tell 87 = .ok (.ireturn, 1) := by decide +kernel
theorem dX7_isParted_0 : decode cX7_isParted 0 = .ok (.aload_n 0, 1) := by decide +kernel
theorem dX7_isParted_1 : decode cX7_isParted 1 = .ok (.iload_n 1, 1) := by decide +kernel
theorem dX7_isParted_2 : decode cX7_isParted 2 = .ok (.iload_n 2, 1) := by decide +kernel
theorem dX7_isParted_3 : decode cX7_isParted 3 = .ok (.invokevirtual 36, 3) := by decide +kernel
theorem dX7_isParted_6 : decode cX7_isParted 6 = .ok (.astore_n 3, 1) := by decide +kernel
theorem dX7_isParted_7 : decode cX7_isParted 7 = .ok (.aload_n 3, 1) := by decide +kernel
theorem dX7_isParted_8 : decode cX7_isParted 8 = .ok (.ifnull 14, 3) := by decide +kernel
theorem dX7_isParted_11 : decode cX7_isParted 11 = .ok (.aload_n 3, 1) := by decide +kernel
theorem dX7_isParted_12 : decode cX7_isParted 12 = .ok (.getfield 40, 3) := by decide +kernel
theorem dX7_isParted_15 : decode cX7_isParted 15 = .ok (.ifCond .ne 7, 3) := by decide +kernel
theorem dX7_isParted_18 : decode cX7_isParted 18 = .ok (.iconst 1, 1) := by decide +kernel
theorem dX7_isParted_19 : decode cX7_isParted 19 = .ok (.goto 4, 3) := by decide +kernel
theorem dX7_isParted_22 : decode cX7_isParted 22 = .ok (.iconst 0, 1) := by decide +kernel
theorem dX7_isParted_23 : decode cX7_isParted 23 = .ok (.ireturn, 1) := by decide +kernel
theorem dX8_init_0 : decode cX8_init 0 = .ok (.aload_n 0, 1) := by decide +kernel
theorem dX8_init_1 : decode cX8_init 1 = .ok (.invokespecial 1, 3) := by decide +kernel
theorem dX8_init_4 : decode cX8_init 4 = .ok (.aload_n 0, 1) := by decide +kernel
theorem dX8_init_5 : decode cX8_init 5 = .ok (.sipush 200, 3) := by decide +kernel
theorem dX8_init_8 : decode cX8_init 8 = .ok (.anewarray 9, 3) := by decide +kernel
theorem dX8_init_11 : decode cX8_init 11 = .ok (.putfield 11, 3) := by decide +kernel
theorem dX8_init_14 : decode cX8_init 14 = .ok (.aload_n 0, 1) := by decide +kernel
theorem dX8_init_15 : decode cX8_init 15 = .ok (.bipush 40, 2) := by decide +kernel
theorem dX8_init_17 : decode cX8_init 17 = .ok (.anewarray 9, 3) := by decide +kernel
theorem dX8_init_20 : decode cX8_init 20 = .ok (.putfield 15, 3) := by decide +kernel
theorem dX8_init_23 : decode cX8_init 23 = .ok (.aload_n 0, 1) := by decide +kernel
theorem dX8_init_24 : decode cX8_init 24 = .ok (.bipush 30, 2) := by decide +kernel
theorem dX8_init_26 : decode cX8_init 26 = .ok (.anewarray 18, 3) := by decide +kernel
theorem dX8_init_29 : decode cX8_init 29 = .ok (.putfield 20, 3) := by decide +kernel
theorem dX8_init_32 : decode cX8_init 32 = .ok (.aload_n 0, 1) := by decide +kernel
theorem dX8_init_33 : decode cX8_init 33 = .ok (.new 24, 3) := by decide +kernel
theorem dX8_init_36 : decode cX8_init 36 = .ok (.dup, 1) := by decide +kernel
theorem dX8_init_37 : decode cX8_init 37 = .ok (.aconst_null, 1) := by decide +kernel
theorem dX8_init_38 : decode cX8_init 38 = .ok (.iconst 0, 1) := by decide +kernel
theorem dX8_init_39 : decode cX8_init 39 = .ok (.aconst_null, 1) := by decide +kernel
theorem dX8_init_40 : decode cX8_init 40 = .ok (.invokespecial 26, 3) := by decide +kernel
theorem dX8_init_43 : decode cX8_init 43 = .ok (.putfield 29, 3) := by decide +kernel
theorem dX8_init_46 : decode cX8_init 46 = .ok (.aload_n 0, 1) := by decide +kernel
theorem dX8_init_47 : decode cX8_init 47 = .ok (.new 33, 3) := by decide +kernel
theorem dX8_init_50 : decode cX8_init 50 = .ok (.dup, 1) := by decide +kernel
theorem dX8_init_51 : decode cX8_init 51 = .ok (.invokespecial 35, 3) := by decide +kernel
theorem dX8_init_54 : decode cX8_init 54 = .ok (.putfield 36, 3) := by decide +kernel
theorem dX8_init_57 : decode cX8_init 57 = .ok (.aload_n 0, 1) := by decide +kernel
theorem dX8_init_58 : decode cX8_init 58 = .ok (.new 40, 3) := by decide +kernel
theorem dX8_init_61 : decode cX8_init 61 = .ok (.dup, 1) := by decide +kernel
theorem dX8_init_62 : decode cX8_init 62 = .ok (.invokespecial 42, 3) := by decide +kernel
theorem dX8_init_65 : decode cX8_init 65 = .ok (.putfield 43, 3) := by decide +kernel
theorem dX8_init_68 : decode cX8_init 68 = .ok (.aload_n 0, 1) := by decide +kernel
theorem dX8_init_69 : decode cX8_init 69 = .ok (.new 47, 3) := by decide +kernel
theorem dX8_init_72 : decode cX8_init 72 = .ok (.dup, 1) := by decide +kernel
theorem dX8_init_73 : decode cX8_init 73 = .ok (.invokespecial 49, 3) := by decide +kernel
theorem dX8_init_76 : decode cX8_init 76 = .ok (.putfield 50, 3) := by decide +kernel
theorem dX8_init_79 : decode cX8_init 79 = .ok (.aload_n 0, 1) := by decide +kernel
theorem dX8_init_80 : decode cX8_init 80 = .ok (.bipush 50, 2) := by decide +kernel
theorem dX8_init_82 : decode cX8_init 82 = .ok (.putfield 54, 3) := by decide +kernel
theorem dX8_init_85 : decode cX8_init 85 = .ok (.aload_n 0, 1) := by decide +kernel
theorem dX8_init_86 : decode cX8_init 86 = .ok (.iconst 3, 1) := by decide +kernel
theorem dX8_init_87 : decode cX8_init 87 = .ok (.putfield 58, 3) := by decide +kernel
