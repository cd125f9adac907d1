theorem dX0_repeat_0 : decode cX0_repeat 0 = .ok (.aload_n 0, 1) := by decide +kernel
theorem dX0_repeat_1 : decode cX0_repeat 1 = .ok (.dup, 1) := by decide +kernel
theorem dX0_repeat_2 : decode cX0_repeat 2 = .ok (.getfield 63, 3) := by decide +kernel
theorem dX0_repeat_5 : decode cX0_repeat 5 = .ok (.iconst 1, 1) := by decide +kernel
theorem dX0_repeat_6 : decode cX0_repeat 6 = .ok (.iadd, 1) := by decide +kernel
theorem dX0_repeat_7 : decode cX0_repeat 7 = .ok (.putfield 63, 3) := by decide +kernel
theorem dX0_repeat_10 : decode cX0_repeat 10 = .ok (.aload_n 0, 1) := by decide +kernel
theorem dX0_repeat_11 : decode cX0_repeat 11 = .ok (.iload_n 1, 1) := by decide +kernel
theorem dX0_repeat_12 : decode cX0_repeat 12 = .ok (.putfield 46, 3) := by decide +kernel
theorem dX0_repeat_15 : decode cX0_repeat 15 = .ok (.return_, 1) := by decide +kernel
set_option maxRecDepth 20000 in
theorem ggX0_hear_J6_bitCount_0f7a4 : GoodIn wsX0_hear wsJ6_bitCount_0f7a4 := goodIn_r _ [7, 8, 9, 10] (by decide +kernel) (by decide +kernel)
set_option maxRecDepth 20000 in
theorem gX0_hear_J6_bitCount_0f7a4 : GoodIn wsX0_hear (va_wsS RX0 72 yJ6_bitCount_0f7a4 wsJ6_bitCount_0f7a4) := goodIn_app (goodIn_of _ (by decide +kernel)) ggX0_hear_J6_bitCount_0f7a4
theorem dX0_hear_0 : decode cX0_hear 0 = .ok (.iload_n 2, 1) := by decide +kernel
theorem dX0_hear_1 : decode cX0_hear 1 = .ok (.ifCond .eq 18, 3) := by decide +kernel
theorem dX0_hear_4 : decode cX0_hear 4 = .ok (.aload_n 0, 1) := by decide +kernel
theorem dX0_hear_5 : decode cX0_hear 5 = .ok (.dup, 1) := by decide +kernel
theorem dX0_hear_6 : decode cX0_hear 6 = .ok (.getfield 66, 3) := by decide +kernel
theorem dX0_hear_9 : decode cX0_hear 9 = .ok (.iconst 1, 1) := by decide +kernel
theorem dX0_hear_10 : decode cX0_hear 10 = .ok (.iload_n 1, 1) := by decide +kernel
theorem dX0_hear_11 : decode cX0_hear 11 = .ok (.ishl, 1) := by decide +kernel
theorem dX0_hear_12 : decode cX0_hear 12 = .ok (.ior, 1) := by decide +kernel
theorem dX0_hear_13 : decode cX0_hear 13 = .ok (.putfield 66, 3) := by decide +kernel
theorem dX0_hear_16 : decode cX0_hear 16 = .ok (.goto 15, 3) := by decide +kernel
theorem dX0_hear_19 : decode cX0_hear 19 = .ok (.aload_n 0, 1) := by decide +kernel
theorem dX0_hear_20 : decode cX0_hear 20 = .ok (.dup, 1) := by decide +kernel
theorem dX0_hear_21 : decode cX0_hear 21 = .ok (.getfield 69, 3) := by decide +kernel
theorem dX0_hear_24 : decode cX0_hear 24 = .ok (.iconst 1, 1) := by decide +kernel
theorem dX0_hear_25 : decode cX0_hear 25 = .ok (.iload_n 1, 1) := by decide +kernel
theorem dX0_hear_26 : decode cX0_hear 26 = .ok (.ishl, 1) := by decide +kernel
theorem dX0_hear_27 : decode cX0_hear 27 = .ok (.ior, 1) := by decide +kernel
theorem dX0_hear_28 : decode cX0_hear 28 = .ok (.putfield 69, 3) := by decide +kernel
theorem dX0_hear_31 : decode cX0_hear 31 = .ok (.aload_n 0, 1) := by decide +kernel
theorem dX0_hear_32 : decode cX0_hear 32 = .ok (.getfield 66, 3) := by decide +kernel
theorem dX0_hear_35 : decode cX0_hear 35 = .ok (.invokestatic 72, 3) := by decide +kernel
theorem dX0_hear_38 : decode cX0_hear 38 = .ok (.iconst 2, 1) := by decide +kernel
theorem dX0_hear_39 : decode cX0_hear 39 = .ok (.if_icmp .lt 11, 3) := by decide +kernel
theorem dX0_hear_42 : decode cX0_hear 42 = .ok (.aload_n 0, 1) := by decide +kernel
theorem dX0_hear_43 : decode cX0_hear 43 = .ok (.iconst 1, 1) := by decide +kernel
theorem dX0_hear_44 : decode cX0_hear 44 = .ok (.putfield 9, 3) := by decide +kernel
theorem dX0_hear_47 : decode cX0_hear 47 = .ok (.goto 19, 3) := by decide +kernel
theorem dX0_hear_50 : decode cX0_hear 50 = .ok (.aload_n 0, 1) := by decide +kernel
theorem dX0_hear_51 : decode cX0_hear 51 = .ok (.getfield 69, 3) := by decide +kernel
theorem dX0_hear_54 : decode cX0_hear 54 = .ok (.invokestatic 72, 3) := by decide +kernel
theorem dX0_hear_57 : decode cX0_hear 57 = .ok (.iconst 2, 1) := by decide +kernel
theorem dX0_hear_58 : decode cX0_hear 58 = .ok (.if_icmp .lt 8, 3) := by decide +kernel
theorem dX0_hear_61 : decode cX0_hear 61 = .ok (.aload_n 0, 1) := by decide +kernel
theorem dX0_hear_62 : decode cX0_hear 62 = .ok (.iconst 2, 1) := by decide +kernel
theorem dX0_hear_63 : decode cX0_hear 63 = .ok (.putfield 9, 3) := by decide +kernel
theorem dX0_hear_66 : decode cX0_hear 66 = .ok (.return_, 1) := by decide +kernel
set_option maxRecDepth 20000 in
theorem ggX0_joinCaseOf_X0_head : GoodIn wsX0_joinCaseOf wsX0_head := goodIn_r _ [7, 2, 8, 9, 10, 11, 12, 13, 14, 15, 16, 17, 18, 19, 20, 21, 22, 23, 24] (by decide +kernel) (by decide +kernel)
set_option maxRecDepth 20000 in
theorem gX0_joinCaseOf_X0_head : GoodIn wsX0_joinCaseOf (wsV RX0 101 RX0 yX0_head wsX0_head) := goodIn_app (goodIn_of _ (by decide +kernel)) ggX0_joinCaseOf_X0_head
theorem dX0_joinCaseOf_0 : decode cX0_joinCaseOf 0 = .ok (.aload_n 0, 1) := by decide +kernel
theorem dX0_joinCaseOf_1 : decode cX0_joinCaseOf 1 = .ok (.invokevirtual 101, 3) := by decide +kernel
theorem dX0_joinCaseOf_4 : decode cX0_joinCaseOf 4 = .ok (.astore_n 2, 1) := by decide +kernel
theorem dX0_joinCaseOf_5 : decode cX0_joinCaseOf 5 = .ok (.aload_n 1, 1) := by decide +kernel
theorem dX0_joinCaseOf_6 : decode cX0_joinCaseOf 6 = .ok (.invokevirtual 101, 3) := by decide +kernel
theorem dX0_joinCaseOf_9 : decode cX0_joinCaseOf 9 = .ok (.astore_n 3, 1) := by decide +kernel
theorem dX0_joinCaseOf_10 : decode cX0_joinCaseOf 10 = .ok (.aload_n 2, 1) := by decide +kernel
theorem dX0_joinCaseOf_11 : decode cX0_joinCaseOf 11 = .ok (.getfield 15, 3) := by decide +kernel
theorem dX0_joinCaseOf_14 : decode cX0_joinCaseOf 14 = .ok (.aload_n 3, 1) := by decide +kernel
theorem dX0_joinCaseOf_15 : decode cX0_joinCaseOf 15 = .ok (.getfield 15, 3) := by decide +kernel
theorem dX0_joinCaseOf_18 : decode cX0_joinCaseOf 18 = .ok (.if_icmp .ge 11, 3) := by decide +kernel
theorem dX0_joinCaseOf_21 : decode cX0_joinCaseOf 21 = .ok (.aload_n 3, 1) := by decide +kernel
theorem dX0_joinCaseOf_22 : decode cX0_joinCaseOf 22 = .ok (.aload_n 2, 1) := by decide +kernel
theorem dX0_joinCaseOf_23 : decode cX0_joinCaseOf 23 = .ok (.putfield 97, 3) := by decide +kernel
theorem dX0_joinCaseOf_26 : decode cX0_joinCaseOf 26 = .ok (.goto 19, 3) := by decide +kernel
theorem dX0_joinCaseOf_29 : decode cX0_joinCaseOf 29 = .ok (.aload_n 3, 1) := by decide +kernel
theorem dX0_joinCaseOf_30 : decode cX0_joinCaseOf 30 = .ok (.getfield 15, 3) := by decide +kernel
theorem dX0_joinCaseOf_33 : decode cX0_joinCaseOf 33 = .ok (.aload_n 2, 1) := by decide +kernel
theorem dX0_joinCaseOf_34 : decode cX0_joinCaseOf 34 = .ok (.getfield 15, 3) := by decide +kernel
theorem dX0_joinCaseOf_37 : decode cX0_joinCaseOf 37 = .ok (.if_icmp .ge 8, 3) := by decide +kernel
theorem dX0_joinCaseOf_40 : decode cX0_joinCaseOf 40 = .ok (.aload_n 2, 1) := by decide +kernel
theorem dX0_joinCaseOf_41 : decode cX0_joinCaseOf 41 = .ok (.aload_n 3, 1) := by decide +kernel
theorem dX0_joinCaseOf_42 : decode cX0_joinCaseOf 42 = .ok (.putfield 97, 3) := by decide +kernel
theorem dX0_joinCaseOf_45 : decode cX0_joinCaseOf 45 = .ok (.return_, 1) := by decide +kernel
theorem dX1_clear_0 : decode cX1_clear 0 = .ok (.aload_n 0, 1) := by decide +kernel
theorem dX1_clear_1 : decode cX1_clear 1 = .ok (.iconst 0, 1) := by decide +kernel
theorem dX1_clear_2 : decode cX1_clear 2 = .ok (.putfield 13, 3) := by decide +kernel
theorem dX1_clear_5 : decode cX1_clear 5 = .ok (.aload_n 0, 1) := by decide +kernel
theorem dX1_clear_6 : decode cX1_clear 6 = .ok (.iconst 0, 1) := by decide +kernel
theorem dX1_clear_7 : decode cX1_clear 7 = .ok (.putfield 16, 3) := by decide +kernel
theorem dX1_clear_10 : decode cX1_clear 10 = .ok (.aload_n 0, 1) := by decide +kernel
theorem dX1_clear_11 : decode cX1_clear 11 = .ok (.iconst 0, 1) := by decide +kernel
theorem dX1_clear_12 : decode cX1_clear 12 = .ok (.putfield 19, 3) := by decide +kernel
theorem dX1_clear_15 : decode cX1_clear 15 = .ok (.return_, 1) := by decide +kernel
theorem dX1_add_0 : decode cX1_add 0 = .ok (.aload_n 0, 1) := by decide +kernel
theorem dX1_add_1 : decode cX1_add 1 = .ok (.dup, 1) := by decide +kernel
theorem dX1_add_2 : decode cX1_add 2 = .ok (.getfield 13, 3) := by decide +kernel
theorem dX1_add_5 : decode cX1_add 5 = .ok (.iconst 1, 1) := by decide +kernel
theorem dX1_add_6 : decode cX1_add 6 = .ok (.iadd, 1) := by decide +kernel
theorem dX1_add_7 : decode cX1_add 7 = .ok (.putfield 13, 3) := by decide +kernel
theorem dX1_add_10 : decode cX1_add 10 = .ok (.aload_n 0, 1) := by decide +kernel
theorem dX1_add_11 : decode cX1_add 11 = .ok (.aload_n 0, 1) := by decide +kernel
theorem dX1_add_12 : decode cX1_add 12 = .ok (.getfield 16, 3) := by decide +kernel
theorem dX1_add_15 : decode cX1_add 15 = .ok (.iload_n 1, 1) := by decide +kernel
theorem dX1_add_16 : decode cX1_add 16 = .ok (.invokestatic 23, 3) := by decide +kernel
theorem dX1_add_19 : decode cX1_add 19 = .ok (.putfield 16, 3) := by decide +kernel
theorem dX1_add_22 : decode cX1_add 22 = .ok (.aload_n 0, 1) := by decide +kernel
theorem dX1_add_23 : decode cX1_add 23 = .ok (.aload_n 0, 1) := by decide +kernel
theorem dX1_add_24 : decode cX1_add 24 = .ok (.getfield 19, 3) := by decide +kernel
theorem dX1_add_27 : decode cX1_add 27 = .ok (.ifCond .ne 7, 3) := by decide +kernel
theorem dX1_add_30 : decode cX1_add 30 = .ok (.iload_n 2, 1) := by decide +kernel
theorem dX1_add_31 : decode cX1_add 31 = .ok (.ifCond .ne 7, 3) := by decide +kernel
theorem dX1_add_34 : decode cX1_add 34 = .ok (.iconst 1, 1) := by decide +kernel
theorem dX1_add_35 : decode cX1_add 35 = .ok (.goto 4, 3) := by decide +kernel
theorem dX1_add_38 : decode cX1_add 38 = .ok (.iconst 0, 1) := by decide +kernel
theorem dX1_add_39 : decode cX1_add 39 = .ok (.putfield 19, 3) := by decide +kernel
theorem dX1_add_42 : decode cX1_add 42 = .ok (.return_, 1) := by decide +kernel
theorem dX3_addOpen_0 : decode cX3_addOpen 0 = .ok (.aload_n 0, 1) := by decide +kernel
theorem dX3_addOpen_1 : decode cX3_addOpen 1 = .ok (.astore_n 1, 1) := by decide +kernel
theorem dX3_addOpen_2 : decode cX3_addOpen 2 = .ok (.aload_n 1, 1) := by decide +kernel
theorem dX3_addOpen_3 : decode cX3_addOpen 3 = .ok (.ifnull 21, 3) := by decide +kernel
theorem dX3_addOpen_6 : decode cX3_addOpen 6 = .ok (.aload_n 1, 1) := by decide +kernel
theorem dX3_addOpen_7 : decode cX3_addOpen 7 = .ok (.dup, 1) := by decide +kernel
theorem dX3_addOpen_8 : decode cX3_addOpen 8 = .ok (.getfield 39, 3) := by decide +kernel
theorem dX3_addOpen_11 : decode cX3_addOpen 11 = .ok (.iconst 1, 1) := by decide +kernel
theorem dX3_addOpen_12 : decode cX3_addOpen 12 = .ok (.iadd, 1) := by decide +kernel
theorem dX3_addOpen_13 : decode cX3_addOpen 13 = .ok (.putfield 39, 3) := by decide +kernel
theorem dX3_addOpen_16 : decode cX3_addOpen 16 = .ok (.aload_n 1, 1) := by decide +kernel
theorem dX3_addOpen_17 : decode cX3_addOpen 17 = .ok (.getfield 9, 3) := by decide +kernel
theorem dX3_addOpen_20 : decode cX3_addOpen 20 = .ok (.astore_n 1, 1) := by decide +kernel
theorem dX3_addOpen_21 : decode cX3_addOpen 21 = .ok (.goto (-19), 3) := by decide +kernel
theorem dX3_addOpen_24 : decode cX3_addOpen 24 = .ok (.return_, 1) := by decide +kernel
set_option maxRecDepth 20000 in
theorem ggX3_settle_X8_oneIf : GoodIn wsX3_settle wsX8_oneIf := goodIn_r _ [7] (by decide +kernel) (by decide +kernel)
set_option maxRecDepth 20000 in
theorem gX3_settle_X8_oneIf_n48 : GoodIn wsX3_settle (wsX8_oneIf) := ggX3_settle_X8_oneIf
theorem dX3_settle_0 : decode cX3_settle 0 = .ok (.aload_n 0, 1) := by decide +kernel
theorem dX3_settle_1 : decode cX3_settle 1 = .ok (.astore_n 2, 1) := by decide +kernel
theorem dX3_settle_2 : decode cX3_settle 2 = .ok (.aload_n 2, 1) := by decide +kernel
theorem dX3_settle_3 : decode cX3_settle 3 = .ok (.ifnull 44, 3) := by decide +kernel
theorem dX3_settle_6 : decode cX3_settle 6 = .ok (.aload_n 2, 1) := by decide +kernel
theorem dX3_settle_7 : decode cX3_settle 7 = .ok (.dup, 1) := by decide +kernel
theorem dX3_settle_8 : decode cX3_settle 8 = .ok (.getfield 39, 3) := by decide +kernel
theorem dX3_settle_11 : decode cX3_settle 11 = .ok (.iconst 1, 1) := by decide +kernel
theorem dX3_settle_12 : decode cX3_settle 12 = .ok (.isub, 1) := by decide +kernel
theorem dX3_settle_13 : decode cX3_settle 13 = .ok (.putfield 39, 3) := by decide +kernel
theorem dX3_settle_16 : decode cX3_settle 16 = .ok (.aload_n 2, 1) := by decide +kernel
theorem dX3_settle_17 : decode cX3_settle 17 = .ok (.dup, 1) := by decide +kernel
theorem dX3_settle_18 : decode cX3_settle 18 = .ok (.getfield 42, 3) := by decide +kernel
theorem dX3_settle_21 : decode cX3_settle 21 = .ok (.iconst 1, 1) := by decide +kernel
theorem dX3_settle_22 : decode cX3_settle 22 = .ok (.iadd, 1) := by decide +kernel
theorem dX3_settle_23 : decode cX3_settle 23 = .ok (.putfield 42, 3) := by decide +kernel
theorem dX3_settle_26 : decode cX3_settle 26 = .ok (.aload_n 2, 1) := by decide +kernel
theorem dX3_settle_27 : decode cX3_settle 27 = .ok (.dup, 1) := by decide +kernel
theorem dX3_settle_28 : decode cX3_settle 28 = .ok (.getfield 45, 3) := by decide +kernel
theorem dX3_settle_31 : decode cX3_settle 31 = .ok (.iload_n 1, 1) := by decide +kernel
theorem dX3_settle_32 : decode cX3_settle 32 = .ok (.invokestatic 48, 3) := by decide +kernel
theorem dX3_settle_35 : decode cX3_settle 35 = .ok (.iadd, 1) := by decide +kernel
theorem dX3_settle_36 : decode cX3_settle 36 = .ok (.putfield 45, 3) := by decide +kernel
theorem dX3_settle_39 : decode cX3_settle 39 = .ok (.aload_n 2, 1) := by decide +kernel
theorem dX3_settle_40 : decode cX3_settle 40 = .ok (.getfield 9, 3) := by decide +kernel
theorem dX3_settle_43 : decode cX3_settle 43 = .ok (.astore_n 2, 1) := by decide +kernel
theorem dX3_settle_44 : decode cX3_settle 44 = .ok (.goto (-42), 3) := by decide +kernel
theorem dX3_settle_47 : decode cX3_settle 47 = .ok (.return_, 1) := by decide +kernel
