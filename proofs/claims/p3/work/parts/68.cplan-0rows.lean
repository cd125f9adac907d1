set_option maxRecDepth 20000 in
theorem ggX5_make_X5_takeTries : GoodIn wsX5_make wsX5_takeTries := goodIn_r _ [16, 17, 1, 18, 19, 11, 20, 21, 22, 23, 24, 25, 26, 27, 28, 15, 29, 30, 3, 31, 59, 60, 51, 52, 53, 54, 55, 56, 57, 58, 61, 62, 63, 64] (by decide +kernel) (by decide +kernel)
set_option maxRecDepth 20000 in
theorem gX5_make_X5_takeTries : GoodIn wsX5_make (wsV RX5 49 RX5 yX5_takeTries wsX5_takeTries) := goodIn_app (goodIn_of _ (by decide +kernel)) ggX5_make_X5_takeTries
set_option maxRecDepth 20000 in
theorem ggX5_make_X5_fillPool : GoodIn wsX5_make wsX5_fillPool := goodIn_r _ [35, 17, 2, 18, 36, 37, 38, 39, 15, 40, 1, 30, 59, 60, 51, 52, 53, 54, 55, 56, 57, 58] (by decide +kernel) (by decide +kernel)
set_option maxRecDepth 20000 in
theorem gX5_make_X5_fillPool : GoodIn wsX5_make (wsV RX5 53 RX5 yX5_fillPool wsX5_fillPool) := goodIn_app (goodIn_of _ (by decide +kernel)) ggX5_make_X5_fillPool
set_option maxRecDepth 20000 in
theorem ggX5_make_X5_weighPool : GoodIn wsX5_make wsX5_weighPool := goodIn_r _ [44, 11, 45, 46, 2, 36, 31, 20, 21, 22, 23, 24, 25, 51, 52, 53, 54, 55, 56, 57, 58, 61, 62, 63, 64] (by decide +kernel) (by decide +kernel)
set_option maxRecDepth 20000 in
theorem gX5_make_X5_weighPool : GoodIn wsX5_make (wsV RX5 57 RX5 yX5_weighPool wsX5_weighPool) := goodIn_app (goodIn_of _ (by decide +kernel)) ggX5_make_X5_weighPool
set_option maxRecDepth 20000 in
theorem ggX5_make_X5_takeBestOfPool : GoodIn wsX5_make wsX5_takeBestOfPool := goodIn_r _ [50, 11, 2, 46, 36, 20, 21, 22, 23, 24, 25, 26, 27, 28, 15, 29, 1, 30, 3, 31, 51, 52, 53, 54, 55, 56, 57, 58, 61, 62, 63, 64] (by decide +kernel) (by decide +kernel)
set_option maxRecDepth 20000 in
theorem gX5_make_X5_takeBestOfPool : GoodIn wsX5_make (wsV RX5 60 RX5 yX5_takeBestOfPool wsX5_takeBestOfPool) := goodIn_app (goodIn_of _ (by decide +kernel)) ggX5_make_X5_takeBestOfPool
theorem dX5_make_0 : decode cX5_make 0 = .ok (.aload_n 0, 1) := by decide +kernel
theorem dX5_make_1 : decode cX5_make 1 = .ok (.iconst 0, 1) := by decide +kernel
theorem dX5_make_2 : decode cX5_make 2 = .ok (.putfield 27, 3) := by decide +kernel
theorem dX5_make_5 : decode cX5_make 5 = .ok (.aload_n 0, 1) := by decide +kernel
theorem dX5_make_6 : decode cX5_make 6 = .ok (.iconst 0, 1) := by decide +kernel
theorem dX5_make_7 : decode cX5_make 7 = .ok (.putfield 31, 3) := by decide +kernel
theorem dX5_make_10 : decode cX5_make 10 = .ok (.aload_n 0, 1) := by decide +kernel
theorem dX5_make_11 : decode cX5_make 11 = .ok (.iconst 0, 1) := by decide +kernel
theorem dX5_make_12 : decode cX5_make 12 = .ok (.putfield 34, 3) := by decide +kernel
theorem dX5_make_15 : decode cX5_make 15 = .ok (.aload_n 0, 1) := by decide +kernel
theorem dX5_make_16 : decode cX5_make 16 = .ok (.iconst 0, 1) := by decide +kernel
theorem dX5_make_17 : decode cX5_make 17 = .ok (.iload_n 2, 1) := by decide +kernel
theorem dX5_make_18 : decode cX5_make 18 = .ok (.sipush 300, 3) := by decide +kernel
theorem dX5_make_21 : decode cX5_make 21 = .ok (.invokestatic 37, 3) := by decide +kernel
theorem dX5_make_24 : decode cX5_make 24 = .ok (.invokestatic 43, 3) := by decide +kernel
theorem dX5_make_27 : decode cX5_make 27 = .ok (.putfield 46, 3) := by decide +kernel
theorem dX5_make_30 : decode cX5_make 30 = .ok (.aload_n 0, 1) := by decide +kernel
theorem dX5_make_31 : decode cX5_make 31 = .ok (.aload_n 1, 1) := by decide +kernel
theorem dX5_make_32 : decode cX5_make 32 = .ok (.iload_n 3, 1) := by decide +kernel
theorem dX5_make_33 : decode cX5_make 33 = .ok (.invokevirtual 49, 3) := by decide +kernel
theorem dX5_make_36 : decode cX5_make 36 = .ok (.aload_n 0, 1) := by decide +kernel
theorem dX5_make_37 : decode cX5_make 37 = .ok (.aload_n 1, 1) := by decide +kernel
theorem dX5_make_38 : decode cX5_make 38 = .ok (.invokevirtual 53, 3) := by decide +kernel
theorem dX5_make_41 : decode cX5_make 41 = .ok (.aload_n 0, 1) := by decide +kernel
theorem dX5_make_42 : decode cX5_make 42 = .ok (.invokevirtual 57, 3) := by decide +kernel
theorem dX5_make_45 : decode cX5_make 45 = .ok (.aload_n 0, 1) := by decide +kernel
theorem dX5_make_46 : decode cX5_make 46 = .ok (.invokevirtual 60, 3) := by decide +kernel
theorem dX5_make_49 : decode cX5_make 49 = .ok (.return_, 1) := by decide +kernel
set_option maxRecDepth 20000 in
theorem ggX5_at_X8_isBelow : GoodIn wsX5_at wsX8_isBelow := goodIn_r _ [5] (by decide +kernel) (by decide +kernel)
set_option maxRecDepth 20000 in
theorem gX5_at_X8_isBelow_n63 : GoodIn wsX5_at (wsX8_isBelow) := ggX5_at_X8_isBelow
theorem dX5_at_0 : decode cX5_at 0 = .ok (.iload_n 1, 1) := by decide +kernel
theorem dX5_at_1 : decode cX5_at 1 = .ok (.aload_n 0, 1) := by decide +kernel
theorem dX5_at_2 : decode cX5_at 2 = .ok (.getfield 27, 3) := by decide +kernel
theorem dX5_at_5 : decode cX5_at 5 = .ok (.invokestatic 63, 3) := by decide +kernel
theorem dX5_at_8 : decode cX5_at 8 = .ok (.ifCond .eq 12, 3) := by decide +kernel
theorem dX5_at_11 : decode cX5_at 11 = .ok (.aload_n 0, 1) := by decide +kernel
theorem dX5_at_12 : decode cX5_at 12 = .ok (.getfield 11, 3) := by decide +kernel
theorem dX5_at_15 : decode cX5_at 15 = .ok (.iload_n 1, 1) := by decide +kernel
theorem dX5_at_16 : decode cX5_at 16 = .ok (.aaload, 1) := by decide +kernel
theorem dX5_at_17 : decode cX5_at 17 = .ok (.goto 4, 3) := by decide +kernel
theorem dX5_at_20 : decode cX5_at 20 = .ok (.aconst_null, 1) := by decide +kernel
theorem dX5_at_21 : decode cX5_at 21 = .ok (.areturn, 1) := by decide +kernel
set_option maxRecDepth 20000 in
theorem ggX5_take_X1_minutes : GoodIn wsX5_take wsX1_minutes := goodIn_r _ [10, 11, 20, 21, 22, 23] (by decide +kernel) (by decide +kernel)
set_option maxRecDepth 20000 in
theorem gX5_take_X1_minutes : GoodIn wsX5_take (wsV RX5 70 RX1 yX1_minutes wsX1_minutes) := goodIn_app (goodIn_of _ (by decide +kernel)) ggX5_take_X1_minutes
theorem dX5_take_0 : decode cX5_take 0 = .ok (.aload_n 0, 1) := by decide +kernel
theorem dX5_take_1 : decode cX5_take 1 = .ok (.getfield 27, 3) := by decide +kernel
theorem dX5_take_4 : decode cX5_take 4 = .ok (.aload_n 0, 1) := by decide +kernel
theorem dX5_take_5 : decode cX5_take 5 = .ok (.getfield 11, 3) := by decide +kernel
theorem dX5_take_8 : decode cX5_take 8 = .ok (.arraylength, 1) := by decide +kernel
theorem dX5_take_9 : decode cX5_take 9 = .ok (.if_icmp .ge 49, 3) := by decide +kernel
theorem dX5_take_12 : decode cX5_take 12 = .ok (.aload_n 0, 1) := by decide +kernel
theorem dX5_take_13 : decode cX5_take 13 = .ok (.getfield 11, 3) := by decide +kernel
theorem dX5_take_16 : decode cX5_take 16 = .ok (.aload_n 0, 1) := by decide +kernel
theorem dX5_take_17 : decode cX5_take 17 = .ok (.getfield 27, 3) := by decide +kernel
theorem dX5_take_20 : decode cX5_take 20 = .ok (.aload_n 1, 1) := by decide +kernel
theorem dX5_take_21 : decode cX5_take 21 = .ok (.aastore, 1) := by decide +kernel
theorem dX5_take_22 : decode cX5_take 22 = .ok (.aload_n 0, 1) := by decide +kernel
theorem dX5_take_23 : decode cX5_take 23 = .ok (.dup, 1) := by decide +kernel
theorem dX5_take_24 : decode cX5_take 24 = .ok (.getfield 27, 3) := by decide +kernel
theorem dX5_take_27 : decode cX5_take 27 = .ok (.iconst 1, 1) := by decide +kernel
theorem dX5_take_28 : decode cX5_take 28 = .ok (.iadd, 1) := by decide +kernel
theorem dX5_take_29 : decode cX5_take 29 = .ok (.putfield 27, 3) := by decide +kernel
theorem dX5_take_32 : decode cX5_take 32 = .ok (.aload_n 0, 1) := by decide +kernel
theorem dX5_take_33 : decode cX5_take 33 = .ok (.dup, 1) := by decide +kernel
theorem dX5_take_34 : decode cX5_take 34 = .ok (.getfield 34, 3) := by decide +kernel
theorem dX5_take_37 : decode cX5_take 37 = .ok (.aload_n 1, 1) := by decide +kernel
theorem dX5_take_38 : decode cX5_take 38 = .ok (.getfield 67, 3) := by decide +kernel
theorem dX5_take_41 : decode cX5_take 41 = .ok (.iadd, 1) := by decide +kernel
theorem dX5_take_42 : decode cX5_take 42 = .ok (.putfield 34, 3) := by decide +kernel
theorem dX5_take_45 : decode cX5_take 45 = .ok (.aload_n 0, 1) := by decide +kernel
theorem dX5_take_46 : decode cX5_take 46 = .ok (.dup, 1) := by decide +kernel
theorem dX5_take_47 : decode cX5_take 47 = .ok (.getfield 46, 3) := by decide +kernel
theorem dX5_take_50 : decode cX5_take 50 = .ok (.aload_n 1, 1) := by decide +kernel
theorem dX5_take_51 : decode cX5_take 51 = .ok (.invokevirtual 70, 3) := by decide +kernel
theorem dX5_take_54 : decode cX5_take 54 = .ok (.isub, 1) := by decide +kernel
theorem dX5_take_55 : decode cX5_take 55 = .ok (.putfield 46, 3) := by decide +kernel
theorem dX5_take_58 : decode cX5_take 58 = .ok (.return_, 1) := by decide +kernel
theorem dX5_isTaken_0 : decode cX5_isTaken 0 = .ok (.iconst 0, 1) := by decide +kernel
theorem dX5_isTaken_1 : decode cX5_isTaken 1 = .ok (.istore_n 2, 1) := by decide +kernel
theorem dX5_isTaken_2 : decode cX5_isTaken 2 = .ok (.iload_n 2, 1) := by decide +kernel
theorem dX5_isTaken_3 : decode cX5_isTaken 3 = .ok (.aload_n 0, 1) := by decide +kernel
theorem dX5_isTaken_4 : decode cX5_isTaken 4 = .ok (.getfield 27, 3) := by decide +kernel
theorem dX5_isTaken_7 : decode cX5_isTaken 7 = .ok (.if_icmp .ge 21, 3) := by decide +kernel
theorem dX5_isTaken_10 : decode cX5_isTaken 10 = .ok (.aload_n 0, 1) := by decide +kernel
theorem dX5_isTaken_11 : decode cX5_isTaken 11 = .ok (.getfield 11, 3) := by decide +kernel
theorem dX5_isTaken_14 : decode cX5_isTaken 14 = .ok (.iload_n 2, 1) := by decide +kernel
theorem dX5_isTaken_15 : decode cX5_isTaken 15 = .ok (.aaload, 1) := by decide +kernel
theorem dX5_isTaken_16 : decode cX5_isTaken 16 = .ok (.aload_n 1, 1) := by decide +kernel
theorem dX5_isTaken_17 : decode cX5_isTaken 17 = .ok (.if_acmp .ne 5, 3) := by decide +kernel
theorem dX5_isTaken_20 : decode cX5_isTaken 20 = .ok (.iconst 1, 1) := by decide +kernel
theorem dX5_isTaken_21 : decode cX5_isTaken 21 = .ok (.ireturn, 1) := by decide +kernel
theorem dX5_isTaken_22 : decode cX5_isTaken 22 = .ok (.iinc 2 1, 3) := by decide +kernel
theorem dX5_isTaken_25 : decode cX5_isTaken 25 = .ok (.goto (-23), 3) := by decide +kernel
theorem dX5_isTaken_28 : decode cX5_isTaken 28 = .ok (.iconst 0, 1) := by decide +kernel
theorem dX5_isTaken_29 : decode cX5_isTaken 29 = .ok (.ireturn, 1) := by decide +kernel
set_option maxRecDepth 20000 in
theorem ggX5_takeTries_X1_minutes : GoodIn wsX5_takeTries wsX1_minutes := goodIn_r _ [10, 11, 30, 31, 32, 33] (by decide +kernel) (by decide +kernel)
set_option maxRecDepth 20000 in
theorem gX5_takeTries_X1_minutes : GoodIn wsX5_takeTries (wsV RX5 70 RX1 yX1_minutes wsX1_minutes) := goodIn_app (goodIn_of _ (by decide +kernel)) ggX5_takeTries_X1_minutes
set_option maxRecDepth 20000 in
theorem ggX5_takeTries_X5_take : GoodIn wsX5_takeTries wsX5_take := goodIn_r _ [16, 2, 17, 18, 19, 5, 6, 7, 8, 9, 10, 11, 22, 23, 24, 25, 26, 27, 28, 29, 30, 31, 32, 33] (by decide +kernel) (by decide +kernel)
set_option maxRecDepth 20000 in
theorem gX5_takeTries_X5_take : GoodIn wsX5_takeTries (wsV RX5 86 RX5 yX5_take wsX5_take) := goodIn_app (goodIn_of _ (by decide +kernel)) ggX5_takeTries_X5_take
theorem dX5_takeTries_0 : decode cX5_takeTries 0 = .ok (.iconst 0, 1) := by decide +kernel
theorem dX5_takeTries_1 : decode cX5_takeTries 1 = .ok (.istore_n 3, 1) := by decide +kernel
theorem dX5_takeTries_2 : decode cX5_takeTries 2 = .ok (.iload_n 3, 1) := by decide +kernel
theorem dX5_takeTries_3 : decode cX5_takeTries 3 = .ok (.aload_n 1, 1) := by decide +kernel
theorem dX5_takeTries_4 : decode cX5_takeTries 4 = .ok (.getfield 74, 3) := by decide +kernel
theorem dX5_takeTries_7 : decode cX5_takeTries 7 = .ok (.if_icmp .ge 51, 3) := by decide +kernel
theorem dX5_takeTries_10 : decode cX5_takeTries 10 = .ok (.aload_n 0, 1) := by decide +kernel
theorem dX5_takeTries_11 : decode cX5_takeTries 11 = .ok (.getfield 27, 3) := by decide +kernel
theorem dX5_takeTries_14 : decode cX5_takeTries 14 = .ok (.iload_n 2, 1) := by decide +kernel
theorem dX5_takeTries_15 : decode cX5_takeTries 15 = .ok (.if_icmp .ge 43, 3) := by decide +kernel
theorem dX5_takeTries_18 : decode cX5_takeTries 18 = .ok (.aload_n 1, 1) := by decide +kernel
theorem dX5_takeTries_19 : decode cX5_takeTries 19 = .ok (.getfield 79, 3) := by decide +kernel
theorem dX5_takeTries_22 : decode cX5_takeTries 22 = .ok (.iload_n 3, 1) := by decide +kernel
theorem dX5_takeTries_23 : decode cX5_takeTries 23 = .ok (.aaload, 1) := by decide +kernel
theorem dX5_takeTries_24 : decode cX5_takeTries 24 = .ok (.astore 4, 2) := by decide +kernel
theorem dX5_takeTries_26 : decode cX5_takeTries 26 = .ok (.aload 4, 2) := by decide +kernel
theorem dX5_takeTries_28 : decode cX5_takeTries 28 = .ok (.getfield 82, 3) := by decide +kernel
theorem dX5_takeTries_31 : decode cX5_takeTries 31 = .ok (.ifCond .eq 21, 3) := by decide +kernel
theorem dX5_takeTries_34 : decode cX5_takeTries 34 = .ok (.aload 4, 2) := by decide +kernel
theorem dX5_takeTries_36 : decode cX5_takeTries 36 = .ok (.invokevirtual 70, 3) := by decide +kernel
theorem dX5_takeTries_39 : decode cX5_takeTries 39 = .ok (.aload_n 0, 1) := by decide +kernel
theorem dX5_takeTries_40 : decode cX5_takeTries 40 = .ok (.getfield 46, 3) := by decide +kernel
theorem dX5_takeTries_43 : decode cX5_takeTries 43 = .ok (.if_icmp .gt 9, 3) := by decide +kernel
theorem dX5_takeTries_46 : decode cX5_takeTries 46 = .ok (.aload_n 0, 1) := by decide +kernel
theorem dX5_takeTries_47 : decode cX5_takeTries 47 = .ok (.aload 4, 2) := by decide +kernel
theorem dX5_takeTries_49 : decode cX5_takeTries 49 = .ok (.invokevirtual 86, 3) := by decide +kernel
theorem dX5_takeTries_52 : decode cX5_takeTries 52 = .ok (.iinc 3 1, 3) := by decide +kernel
theorem dX5_takeTries_55 : decode cX5_takeTries 55 = .ok (.goto (-53), 3) := by decide +kernel
theorem dX5_takeTries_58 : decode cX5_takeTries 58 = .ok (.return_, 1) := by decide +kernel
set_option maxRecDepth 20000 in
theorem ggX5_fillPool_X5_isTaken : GoodIn wsX5_fillPool wsX5_isTaken := goodIn_r _ [9, 10, 11, 14, 15, 16, 17, 18, 19, 20, 21] (by decide +kernel) (by decide +kernel)
set_option maxRecDepth 20000 in
theorem gX5_fillPool_X5_isTaken : GoodIn wsX5_fillPool (wsV RX5 90 RX5 yX5_isTaken wsX5_isTaken) := goodIn_app (goodIn_of _ (by decide +kernel)) ggX5_fillPool_X5_isTaken
theorem dX5_fillPool_0 : decode cX5_fillPool 0 = .ok (.iconst 0, 1) := by decide +kernel
theorem dX5_fillPool_1 : decode cX5_fillPool 1 = .ok (.istore_n 2, 1) := by decide +kernel
theorem dX5_fillPool_2 : decode cX5_fillPool 2 = .ok (.iload_n 2, 1) := by decide +kernel
theorem dX5_fillPool_3 : decode cX5_fillPool 3 = .ok (.aload_n 1, 1) := by decide +kernel
theorem dX5_fillPool_4 : decode cX5_fillPool 4 = .ok (.getfield 74, 3) := by decide +kernel
theorem dX5_fillPool_7 : decode cX5_fillPool 7 = .ok (.if_icmp .ge 56, 3) := by decide +kernel
theorem dX5_fillPool_10 : decode cX5_fillPool 10 = .ok (.aload_n 0, 1) := by decide +kernel
theorem dX5_fillPool_11 : decode cX5_fillPool 11 = .ok (.getfield 31, 3) := by decide +kernel
theorem dX5_fillPool_14 : decode cX5_fillPool 14 = .ok (.bipush 12, 2) := by decide +kernel
theorem dX5_fillPool_16 : decode cX5_fillPool 16 = .ok (.if_icmp .ge 47, 3) := by decide +kernel
theorem dX5_fillPool_19 : decode cX5_fillPool 19 = .ok (.aload_n 0, 1) := by decide +kernel
theorem dX5_fillPool_20 : decode cX5_fillPool 20 = .ok (.aload_n 1, 1) := by decide +kernel
theorem dX5_fillPool_21 : decode cX5_fillPool 21 = .ok (.getfield 79, 3) := by decide +kernel
theorem dX5_fillPool_24 : decode cX5_fillPool 24 = .ok (.iload_n 2, 1) := by decide +kernel
theorem dX5_fillPool_25 : decode cX5_fillPool 25 = .ok (.aaload, 1) := by decide +kernel
theorem dX5_fillPool_26 : decode cX5_fillPool 26 = .ok (.invokevirtual 90, 3) := by decide +kernel
theorem dX5_fillPool_29 : decode cX5_fillPool 29 = .ok (.ifCond .ne 28, 3) := by decide +kernel
theorem dX5_fillPool_32 : decode cX5_fillPool 32 = .ok (.aload_n 0, 1) := by decide +kernel
theorem dX5_fillPool_33 : decode cX5_fillPool 33 = .ok (.getfield 17, 3) := by decide +kernel
theorem dX5_fillPool_36 : decode cX5_fillPool 36 = .ok (.aload_n 0, 1) := by decide +kernel
theorem dX5_fillPool_37 : decode cX5_fillPool 37 = .ok (.getfield 31, 3) := by decide +kernel
theorem dX5_fillPool_40 : decode cX5_fillPool 40 = .ok (.aload_n 1, 1) := by decide +kernel
theorem dX5_fillPool_41 : decode cX5_fillPool 41 = .ok (.getfield 79, 3) := by decide +kernel
theorem dX5_fillPool_44 : decode cX5_fillPool 44 = .ok (.iload_n 2, 1) := by decide +kernel
theorem dX5_fillPool_45 : decode cX5_fillPool 45 = .ok (.aaload, 1) := by decide +kernel
theorem dX5_fillPool_46 : decode cX5_fillPool 46 = .ok (.aastore, 1) := by decide +kernel
theorem dX5_fillPool_47 : decode cX5_fillPool 47 = .ok (.aload_n 0, 1) := by decide +kernel
theorem dX5_fillPool_48 : decode cX5_fillPool 48 = .ok (.dup, 1) := by decide +kernel
theorem dX5_fillPool_49 : decode cX5_fillPool 49 = .ok (.getfield 31, 3) := by decide +kernel
theorem dX5_fillPool_52 : decode cX5_fillPool 52 = .ok (.iconst 1, 1) := by decide +kernel
theorem dX5_fillPool_53 : decode cX5_fillPool 53 = .ok (.iadd, 1) := by decide +kernel
theorem dX5_fillPool_54 : decode cX5_fillPool 54 = .ok (.putfield 31, 3) := by decide +kernel
theorem dX5_fillPool_57 : decode cX5_fillPool 57 = .ok (.iinc 2 1, 3) := by decide +kernel
theorem dX5_fillPool_60 : decode cX5_fillPool 60 = .ok (.goto (-58), 3) := by decide +kernel
theorem dX5_fillPool_63 : decode cX5_fillPool 63 = .ok (.return_, 1) := by decide +kernel
set_option maxRecDepth 20000 in
theorem ggX5_weighPool_X1_minutes : GoodIn wsX5_weighPool wsX1_minutes := goodIn_r _ [11, 12, 21, 22, 23, 24] (by decide +kernel) (by decide +kernel)
set_option maxRecDepth 20000 in
theorem gX5_weighPool_X1_minutes : GoodIn wsX5_weighPool (wsV RX5 70 RX1 yX1_minutes wsX1_minutes) := goodIn_app (goodIn_of _ (by decide +kernel)) ggX5_weighPool_X1_minutes
theorem dX5_weighPool_0 : decode cX5_weighPool 0 = .ok (.iconst 0, 1) := by decide +kernel
theorem dX5_weighPool_1 : decode cX5_weighPool 1 = .ok (.istore_n 1, 1) := by decide +kernel
theorem dX5_weighPool_2 : decode cX5_weighPool 2 = .ok (.iload_n 1, 1) := by decide +kernel
theorem dX5_weighPool_3 : decode cX5_weighPool 3 = .ok (.aload_n 0, 1) := by decide +kernel
theorem dX5_weighPool_4 : decode cX5_weighPool 4 = .ok (.getfield 46, 3) := by decide +kernel
theorem dX5_weighPool_7 : decode cX5_weighPool 7 = .ok (.if_icmp .gt 23, 3) := by decide +kernel
theorem dX5_weighPool_10 : decode cX5_weighPool 10 = .ok (.aload_n 0, 1) := by decide +kernel
theorem dX5_weighPool_11 : decode cX5_weighPool 11 = .ok (.getfield 20, 3) := by decide +kernel
theorem dX5_weighPool_14 : decode cX5_weighPool 14 = .ok (.iload_n 1, 1) := by decide +kernel
theorem dX5_weighPool_15 : decode cX5_weighPool 15 = .ok (.iconst 0, 1) := by decide +kernel
theorem dX5_weighPool_16 : decode cX5_weighPool 16 = .ok (.iastore, 1) := by decide +kernel
theorem dX5_weighPool_17 : decode cX5_weighPool 17 = .ok (.aload_n 0, 1) := by decide +kernel
theorem dX5_weighPool_18 : decode cX5_weighPool 18 = .ok (.getfield 24, 3) := by decide +kernel
theorem dX5_weighPool_21 : decode cX5_weighPool 21 = .ok (.iload_n 1, 1) := by decide +kernel
theorem dX5_weighPool_22 : decode cX5_weighPool 22 = .ok (.iconst 0, 1) := by decide +kernel
theorem dX5_weighPool_23 : decode cX5_weighPool 23 = .ok (.iastore, 1) := by decide +kernel
theorem dX5_weighPool_24 : decode cX5_weighPool 24 = .ok (.iinc 1 1, 3) := by decide +kernel
theorem dX5_weighPool_27 : decode cX5_weighPool 27 = .ok (.goto (-25), 3) := by decide +kernel
theorem dX5_weighPool_30 : decode cX5_weighPool 30 = .ok (.iconst 0, 1) := by decide +kernel
theorem dX5_weighPool_31 : decode cX5_weighPool 31 = .ok (.istore_n 1, 1) := by decide +kernel
theorem dX5_weighPool_32 : decode cX5_weighPool 32 = .ok (.iload_n 1, 1) := by decide +kernel
theorem dX5_weighPool_33 : decode cX5_weighPool 33 = .ok (.aload_n 0, 1) := by decide +kernel
theorem dX5_weighPool_34 : decode cX5_weighPool 34 = .ok (.getfield 31, 3) := by decide +kernel
theorem dX5_weighPool_37 : decode cX5_weighPool 37 = .ok (.if_icmp .ge 99, 3) := by decide +kernel
theorem dX5_weighPool_40 : decode cX5_weighPool 40 = .ok (.aload_n 0, 1) := by decide +kernel
theorem dX5_weighPool_41 : decode cX5_weighPool 41 = .ok (.getfield 17, 3) := by decide +kernel
theorem dX5_weighPool_44 : decode cX5_weighPool 44 = .ok (.iload_n 1, 1) := by decide +kernel
theorem dX5_weighPool_45 : decode cX5_weighPool 45 = .ok (.aaload, 1) := by decide +kernel
theorem dX5_weighPool_46 : decode cX5_weighPool 46 = .ok (.invokevirtual 70, 3) := by decide +kernel
theorem dX5_weighPool_49 : decode cX5_weighPool 49 = .ok (.istore_n 2, 1) := by decide +kernel
theorem dX5_weighPool_50 : decode cX5_weighPool 50 = .ok (.aload_n 0, 1) := by decide +kernel
theorem dX5_weighPool_51 : decode cX5_weighPool 51 = .ok (.getfield 17, 3) := by decide +kernel
theorem dX5_weighPool_54 : decode cX5_weighPool 54 = .ok (.iload_n 1, 1) := by decide +kernel
theorem dX5_weighPool_55 : decode cX5_weighPool 55 = .ok (.aaload, 1) := by decide +kernel
theorem dX5_weighPool_56 : decode cX5_weighPool 56 = .ok (.getfield 67, 3) := by decide +kernel
theorem dX5_weighPool_59 : decode cX5_weighPool 59 = .ok (.istore_n 3, 1) := by decide +kernel
theorem dX5_weighPool_60 : decode cX5_weighPool 60 = .ok (.aload_n 0, 1) := by decide +kernel
theorem dX5_weighPool_61 : decode cX5_weighPool 61 = .ok (.getfield 46, 3) := by decide +kernel
theorem dX5_weighPool_64 : decode cX5_weighPool 64 = .ok (.istore 4, 2) := by decide +kernel
theorem dX5_weighPool_66 : decode cX5_weighPool 66 = .ok (.iload 4, 2) := by decide +kernel
theorem dX5_weighPool_68 : decode cX5_weighPool 68 = .ok (.iload_n 2, 1) := by decide +kernel
theorem dX5_weighPool_69 : decode cX5_weighPool 69 = .ok (.if_icmp .lt 61, 3) := by decide +kernel
theorem dX5_weighPool_72 : decode cX5_weighPool 72 = .ok (.aload_n 0, 1) := by decide +kernel
theorem dX5_weighPool_73 : decode cX5_weighPool 73 = .ok (.getfield 20, 3) := by decide +kernel
theorem dX5_weighPool_76 : decode cX5_weighPool 76 = .ok (.iload 4, 2) := by decide +kernel
theorem dX5_weighPool_78 : decode cX5_weighPool 78 = .ok (.iload_n 2, 1) := by decide +kernel
theorem dX5_weighPool_79 : decode cX5_weighPool 79 = .ok (.isub, 1) := by decide +kernel
theorem dX5_weighPool_80 : decode cX5_weighPool 80 = .ok (.iaload, 1) := by decide +kernel
theorem dX5_weighPool_81 : decode cX5_weighPool 81 = .ok (.iload_n 3, 1) := by decide +kernel
theorem dX5_weighPool_82 : decode cX5_weighPool 82 = .ok (.iadd, 1) := by decide +kernel
theorem dX5_weighPool_83 : decode cX5_weighPool 83 = .ok (.aload_n 0, 1) := by decide +kernel
theorem dX5_weighPool_84 : decode cX5_weighPool 84 = .ok (.getfield 20, 3) := by decide +kernel
theorem dX5_weighPool_87 : decode cX5_weighPool 87 = .ok (.iload 4, 2) := by decide +kernel
theorem dX5_weighPool_89 : decode cX5_weighPool 89 = .ok (.iaload, 1) := by decide +kernel
theorem dX5_weighPool_90 : decode cX5_weighPool 90 = .ok (.if_icmp .le 34, 3) := by decide +kernel
theorem dX5_weighPool_93 : decode cX5_weighPool 93 = .ok (.aload_n 0, 1) := by decide +kernel
theorem dX5_weighPool_94 : decode cX5_weighPool 94 = .ok (.getfield 20, 3) := by decide +kernel
theorem dX5_weighPool_97 : decode cX5_weighPool 97 = .ok (.iload 4, 2) := by decide +kernel
theorem dX5_weighPool_99 : decode cX5_weighPool 99 = .ok (.aload_n 0, 1) := by decide +kernel
theorem dX5_weighPool_100 : decode cX5_weighPool 100 = .ok (.getfield 20, 3) := by decide +kernel
theorem dX5_weighPool_103 : decode cX5_weighPool 103 = .ok (.iload 4, 2) := by decide +kernel
theorem dX5_weighPool_105 : decode cX5_weighPool 105 = .ok (.iload_n 2, 1) := by decide +kernel
theorem dX5_weighPool_106 : decode cX5_weighPool 106 = .ok (.isub, 1) := by decide +kernel
theorem dX5_weighPool_107 : decode cX5_weighPool 107 = .ok (.iaload, 1) := by decide +kernel
theorem dX5_weighPool_108 : decode cX5_weighPool 108 = .ok (.iload_n 3, 1) := by decide +kernel
theorem dX5_weighPool_109 : decode cX5_weighPool 109 = .ok (.iadd, 1) := by decide +kernel
theorem dX5_weighPool_110 : decode cX5_weighPool 110 = .ok (.iastore, 1) := by decide +kernel
theorem dX5_weighPool_111 : decode cX5_weighPool 111 = .ok (.aload_n 0, 1) := by decide +kernel
theorem dX5_weighPool_112 : decode cX5_weighPool 112 = .ok (.getfield 24, 3) := by decide +kernel
theorem dX5_weighPool_115 : decode cX5_weighPool 115 = .ok (.iload 4, 2) := by decide +kernel
theorem dX5_weighPool_117 : decode cX5_weighPool 117 = .ok (.dup2, 1) := by decide +kernel
theorem dX5_weighPool_118 : decode cX5_weighPool 118 = .ok (.iaload, 1) := by decide +kernel
theorem dX5_weighPool_119 : decode cX5_weighPool 119 = .ok (.iconst 1, 1) := by decide +kernel
theorem dX5_weighPool_120 : decode cX5_weighPool 120 = .ok (.iload_n 1, 1) := by decide +kernel
theorem dX5_weighPool_121 : decode cX5_weighPool 121 = .ok (.ishl, 1) := by decide +kernel
theorem dX5_weighPool_122 : decode cX5_weighPool 122 = .ok (.ior, 1) := by decide +kernel
theorem dX5_weighPool_123 : decode cX5_weighPool 123 = .ok (.iastore, 1) := by decide +kernel
theorem dX5_weighPool_124 : decode cX5_weighPool 124 = .ok (.iinc 4 (-1), 3) := by decide +kernel
theorem dX5_weighPool_127 : decode cX5_weighPool 127 = .ok (.goto (-61), 3) := by decide +kernel
theorem dX5_weighPool_130 : decode cX5_weighPool 130 = .ok (.iinc 1 1, 3) := by decide +kernel
theorem dX5_weighPool_133 : decode cX5_weighPool 133 = .ok (.goto (-101), 3) := by decide +kernel
theorem dX5_weighPool_136 : decode cX5_weighPool 136 = .ok (.return_, 1) := by decide +kernel
set_option maxRecDepth 20000 in
theorem ggX5_takeBestOfPool_X1_minutes : GoodIn wsX5_takeBestOfPool wsX1_minutes := goodIn_r _ [9, 10, 28, 29, 30, 31] (by decide +kernel) (by decide +kernel)
set_option maxRecDepth 20000 in
theorem gX5_takeBestOfPool_X1_minutes : GoodIn wsX5_takeBestOfPool (wsV RX5 70 RX1 yX1_minutes wsX1_minutes) := goodIn_app (goodIn_of _ (by decide +kernel)) ggX5_takeBestOfPool_X1_minutes
set_option maxRecDepth 20000 in
theorem ggX5_takeBestOfPool_X5_take : GoodIn wsX5_takeBestOfPool wsX5_take := goodIn_r _ [15, 16, 17, 18, 19, 1, 5, 6, 7, 8, 9, 10, 20, 21, 22, 23, 24, 25, 26, 27, 28, 29, 30, 31] (by decide +kernel) (by decide +kernel)
set_option maxRecDepth 20000 in
theorem gX5_takeBestOfPool_X5_take : GoodIn wsX5_takeBestOfPool (wsV RX5 86 RX5 yX5_take wsX5_take) := goodIn_app (goodIn_of _ (by decide +kernel)) ggX5_takeBestOfPool_X5_take
theorem dX5_takeBestOfPool_0 : decode cX5_takeBestOfPool 0 = .ok (.iconst 0, 1) := by decide +kernel
theorem dX5_takeBestOfPool_1 : decode cX5_takeBestOfPool 1 = .ok (.istore_n 1, 1) := by decide +kernel
theorem dX5_takeBestOfPool_2 : decode cX5_takeBestOfPool 2 = .ok (.aload_n 0, 1) := by decide +kernel
theorem dX5_takeBestOfPool_3 : decode cX5_takeBestOfPool 3 = .ok (.getfield 46, 3) := by decide +kernel
theorem dX5_takeBestOfPool_6 : decode cX5_takeBestOfPool 6 = .ok (.istore_n 2, 1) := by decide +kernel
theorem dX5_takeBestOfPool_7 : decode cX5_takeBestOfPool 7 = .ok (.aload_n 0, 1) := by decide +kernel
theorem dX5_takeBestOfPool_8 : decode cX5_takeBestOfPool 8 = .ok (.getfield 31, 3) := by decide +kernel
theorem dX5_takeBestOfPool_11 : decode cX5_takeBestOfPool 11 = .ok (.iconst 1, 1) := by decide +kernel
theorem dX5_takeBestOfPool_12 : decode cX5_takeBestOfPool 12 = .ok (.isub, 1) := by decide +kernel
theorem dX5_takeBestOfPool_13 : decode cX5_takeBestOfPool 13 = .ok (.istore_n 3, 1) := by decide +kernel
theorem dX5_takeBestOfPool_14 : decode cX5_takeBestOfPool 14 = .ok (.iload_n 3, 1) := by decide +kernel
theorem dX5_takeBestOfPool_15 : decode cX5_takeBestOfPool 15 = .ok (.ifCond .lt 45, 3) := by decide +kernel
theorem dX5_takeBestOfPool_18 : decode cX5_takeBestOfPool 18 = .ok (.iload_n 2, 1) := by decide +kernel
theorem dX5_takeBestOfPool_19 : decode cX5_takeBestOfPool 19 = .ok (.ifCond .lt 35, 3) := by decide +kernel
theorem dX5_takeBestOfPool_22 : decode cX5_takeBestOfPool 22 = .ok (.aload_n 0, 1) := by decide +kernel
theorem dX5_takeBestOfPool_23 : decode cX5_takeBestOfPool 23 = .ok (.getfield 24, 3) := by decide +kernel
theorem dX5_takeBestOfPool_26 : decode cX5_takeBestOfPool 26 = .ok (.iload_n 2, 1) := by decide +kernel
theorem dX5_takeBestOfPool_27 : decode cX5_takeBestOfPool 27 = .ok (.iaload, 1) := by decide +kernel
theorem dX5_takeBestOfPool_28 : decode cX5_takeBestOfPool 28 = .ok (.iload_n 3, 1) := by decide +kernel
theorem dX5_takeBestOfPool_29 : decode cX5_takeBestOfPool 29 = .ok (.ishr, 1) := by decide +kernel
theorem dX5_takeBestOfPool_30 : decode cX5_takeBestOfPool 30 = .ok (.iconst 1, 1) := by decide +kernel
theorem dX5_takeBestOfPool_31 : decode cX5_takeBestOfPool 31 = .ok (.iand, 1) := by decide +kernel
theorem dX5_takeBestOfPool_32 : decode cX5_takeBestOfPool 32 = .ok (.iconst 1, 1) := by decide +kernel
theorem dX5_takeBestOfPool_33 : decode cX5_takeBestOfPool 33 = .ok (.if_icmp .ne 21, 3) := by decide +kernel
theorem dX5_takeBestOfPool_36 : decode cX5_takeBestOfPool 36 = .ok (.iload_n 1, 1) := by decide +kernel
theorem dX5_takeBestOfPool_37 : decode cX5_takeBestOfPool 37 = .ok (.iconst 1, 1) := by decide +kernel
theorem dX5_takeBestOfPool_38 : decode cX5_takeBestOfPool 38 = .ok (.iload_n 3, 1) := by decide +kernel
theorem dX5_takeBestOfPool_39 : decode cX5_takeBestOfPool 39 = .ok (.ishl, 1) := by decide +kernel
theorem dX5_takeBestOfPool_40 : decode cX5_takeBestOfPool 40 = .ok (.ior, 1) := by decide +kernel
theorem dX5_takeBestOfPool_41 : decode cX5_takeBestOfPool 41 = .ok (.istore_n 1, 1) := by decide +kernel
theorem dX5_takeBestOfPool_42 : decode cX5_takeBestOfPool 42 = .ok (.iload_n 2, 1) := by decide +kernel
theorem dX5_takeBestOfPool_43 : decode cX5_takeBestOfPool 43 = .ok (.aload_n 0, 1) := by decide +kernel
theorem dX5_takeBestOfPool_44 : decode cX5_takeBestOfPool 44 = .ok (.getfield 17, 3) := by decide +kernel
theorem dX5_takeBestOfPool_47 : decode cX5_takeBestOfPool 47 = .ok (.iload_n 3, 1) := by decide +kernel
theorem dX5_takeBestOfPool_48 : decode cX5_takeBestOfPool 48 = .ok (.aaload, 1) := by decide +kernel
theorem dX5_takeBestOfPool_49 : decode cX5_takeBestOfPool 49 = .ok (.invokevirtual 70, 3) := by decide +kernel
theorem dX5_takeBestOfPool_52 : decode cX5_takeBestOfPool 52 = .ok (.isub, 1) := by decide +kernel
theorem dX5_takeBestOfPool_53 : decode cX5_takeBestOfPool 53 = .ok (.istore_n 2, 1) := by decide +kernel
theorem dX5_takeBestOfPool_54 : decode cX5_takeBestOfPool 54 = .ok (.iinc 3 (-1), 3) := by decide +kernel
theorem dX5_takeBestOfPool_57 : decode cX5_takeBestOfPool 57 = .ok (.goto (-43), 3) := by decide +kernel
theorem dX5_takeBestOfPool_60 : decode cX5_takeBestOfPool 60 = .ok (.iconst 0, 1) := by decide +kernel
theorem dX5_takeBestOfPool_61 : decode cX5_takeBestOfPool 61 = .ok (.istore_n 3, 1) := by decide +kernel
theorem dX5_takeBestOfPool_62 : decode cX5_takeBestOfPool 62 = .ok (.iload_n 3, 1) := by decide +kernel
theorem dX5_takeBestOfPool_63 : decode cX5_takeBestOfPool 63 = .ok (.aload_n 0, 1) := by decide +kernel
theorem dX5_takeBestOfPool_64 : decode cX5_takeBestOfPool 64 = .ok (.getfield 31, 3) := by decide +kernel
theorem dX5_takeBestOfPool_67 : decode cX5_takeBestOfPool 67 = .ok (.if_icmp .ge 28, 3) := by decide +kernel
theorem dX5_takeBestOfPool_70 : decode cX5_takeBestOfPool 70 = .ok (.iload_n 1, 1) := by decide +kernel
theorem dX5_takeBestOfPool_71 : decode cX5_takeBestOfPool 71 = .ok (.iload_n 3, 1) := by decide +kernel
theorem dX5_takeBestOfPool_72 : decode cX5_takeBestOfPool 72 = .ok (.ishr, 1) := by decide +kernel
theorem dX5_takeBestOfPool_73 : decode cX5_takeBestOfPool 73 = .ok (.iconst 1, 1) := by decide +kernel
theorem dX5_takeBestOfPool_74 : decode cX5_takeBestOfPool 74 = .ok (.iand, 1) := by decide +kernel
theorem dX5_takeBestOfPool_75 : decode cX5_takeBestOfPool 75 = .ok (.iconst 1, 1) := by decide +kernel
theorem dX5_takeBestOfPool_76 : decode cX5_takeBestOfPool 76 = .ok (.if_icmp .ne 13, 3) := by decide +kernel
theorem dX5_takeBestOfPool_79 : decode cX5_takeBestOfPool 79 = .ok (.aload_n 0, 1) := by decide +kernel
theorem dX5_takeBestOfPool_80 : decode cX5_takeBestOfPool 80 = .ok (.aload_n 0, 1) := by decide +kernel
theorem dX5_takeBestOfPool_81 : decode cX5_takeBestOfPool 81 = .ok (.getfield 17, 3) := by decide +kernel
theorem dX5_takeBestOfPool_84 : decode cX5_takeBestOfPool 84 = .ok (.iload_n 3, 1) := by decide +kernel
theorem dX5_takeBestOfPool_85 : decode cX5_takeBestOfPool 85 = .ok (.aaload, 1) := by decide +kernel
theorem dX5_takeBestOfPool_86 : decode cX5_takeBestOfPool 86 = .ok (.invokevirtual 86, 3) := by decide +kernel
theorem dX5_takeBestOfPool_89 : decode cX5_takeBestOfPool 89 = .ok (.iinc 3 1, 3) := by decide +kernel
theorem dX5_takeBestOfPool_92 : decode cX5_takeBestOfPool 92 = .ok (.goto (-30), 3) := by decide +kernel
theorem dX5_takeBestOfPool_95 : decode cX5_takeBestOfPool 95 = .ok (.return_, 1) := by decide +kernel
