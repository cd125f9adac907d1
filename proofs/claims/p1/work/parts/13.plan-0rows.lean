set_option maxRecDepth 20000 in
theorem ggX5_make_X5_takeTries : GoodIn wsX5_make wsX5_takeTries := goodIn_r _ [16, 17, 1, 18, 19, 11, 20, 21, 22, 23, 24, 25, 26, 27, 28, 15, 29, 30, 3, 31, 59, 60, 51, 52, 53, 54, 55, 56, 57, 58, 61, 62, 63, 64] (by decide +kernel) (by decide +kernel)
set_option maxRecDepth 20000 in
theorem gX5_make_X5_takeTries : GoodIn wsX5_make (wsV RX5 49 RX5 yX5_takeTries wsX5_takeTries) := goodIn_app (goodIn_of _ (by decide +kernel)) ggX5_make_X5_takeTries
set_option maxRecDepth 20000 in
theorem ggX5_make_X5_fillPool : GoodIn wsX5_make wsX5_fillPool := goodIn_r _ [35, 17, 2, 18, 36, 37, 38, 39, 15, 40, 1, 30, 59, 60, 51, 52, 53, 54, 55, 56, 57, 58] (by decide +kernel) (by decide +kernel)
set_option maxRecDepth 20000 in
theorem gX5_make_X5_fillPool : GoodIn wsX5_make (wsV RX5 53 RX5 yX5_fillPool wsX5_fillPool) := goodIn_app (goodIn_of _ (by decide +kernel)) ggX5_make_X5_fillPool
set_option maxRecDepth 20000 in
theorem ggX5_make_X5_weighPool : GoodIn wsX5_make wsX5_weighPool := goodIn_r _ [44, 11, 45, 46, 2, 36, 31, 20, 21, 22, 23, 24, 25, 51, 52, 53, 54, 55, 56, 57, 58, 61, 62, 63, 64] (by decide +kernel) (by decide +kernel)
set_option maxRecDepth 20000 in
theorem gX5_make_X5_weighPool : GoodIn wsX5_make (wsV RX5 57 RX5 yX5_weighPool wsX5_weighPool) := goodIn_app (goodIn_of _ (by decide +kernel)) ggX5_make_X5_weighPool
set_option maxRecDepth 20000 in
theorem ggX5_make_X5_takeBestOfPool : GoodIn wsX5_make wsX5_takeBestOfPool := goodIn_r _ [50, 11, 2, 46, 36, 20, 21, 22, 23, 24, 25, 26, 27, 28, 15, 29, 1, 30, 3, 31, 51, 52, 53, 54, 55, 56, 57, 58, 61, 62, 63, 64] (by decide +kernel) (by decide +kernel)
set_option maxRecDepth 20000 in
theorem gX5_make_X5_takeBestOfPool : GoodIn wsX5_make (wsV RX5 60 RX5 yX5_takeBestOfPool wsX5_takeBestOfPool) := goodIn_app (goodIn_of _ (by decide +kernel)) ggX5_make_X5_takeBestOfPool
theorem dX5_make_0 : decode cX5_make 0 = .ok (.aload_n 0, 1) := by decide +kernel
theorem dX5_make_1 : decode cX5_make 1 = .ok (.iconst 0, 1) := by decide +kernel
theorem dX5_make_2 : decode cX5_make 2 = .ok (.putfield 27, 3) := by decide +kernel
theorem dX5_make_5 : decode cX5_make 5 = .ok (.aload_n 0, 1) := by decide +kernel
theorem dX5_make_6 : decode cX5_make 6 = .ok (.iconst 0, 1) := by decide +kernel
theorem dX5_make_7 : decode cX5_make 7 = .ok (.putfield 31, 3) := by decide +kernel
theorem dX5_make_10 : decode cX5_make 10 = .ok (.aload_n 0, 1) := by decide +kernel
theorem dX5_make_11 : decode cX5_make 11 = .ok (.iconst 0, 1) := by decide +kernel
theorem dX5_make_12 : decode cX5_make 12 = .ok (.putfield 34, 3) := by decide +kernel
theorem dX5_make_15 : decode cX5_make 15 = .ok (.aload_n 0, 1) := by decide +kernel
theorem dX5_make_16 : decode cX5_make 16 = .ok (.iconst 0, 1) := by decide +kernel
theorem dX5_make_17 : decode cX5_make 17 = .ok (.iload_n 2, 1) := by decide +kernel
theorem dX5_make_18 : decode cX5_make 18 = .ok (.sipush 300, 3) := by decide +kernel
theorem dX5_make_21 : decode cX5_make 21 = .ok (.invokestatic 37, 3) := by decide +kernel
theorem dX5_make_24 : decode cX5_make 24 = .ok (.invokestatic 43, 3) := by decide +kernel
theorem dX5_make_27 : decode cX5_make 27 = .ok (.putfield 46, 3) := by decide +kernel
theorem dX5_make_30 : decode cX5_make 30 = .ok (.aload_n 0, 1) := by decide +kernel
theorem dX5_make_31 : decode cX5_make 31 = .ok (.aload_n 1, 1) := by decide +kernel
theorem dX5_make_32 : decode cX5_make 32 = .ok (.iload_n 3, 1) := by decide +kernel
theorem dX5_make_33 : decode cX5_make 33 = .ok (.invokevirtual 49, 3) := by decide +kernel
theorem dX5_make_36 : decode cX5_make 36 = .ok (.aload_n 0, 1) := by decide +kernel
theorem dX5_make_37 : decode cX5_make 37 = .ok (.aload_n 1, 1) := by decide +kernel
theorem dX5_make_38 : decode cX5_make 38 = .ok (.invokevirtual 53, 3) := by decide +kernel
theorem dX5_make_41 : decode cX5_make 41 = .ok (.aload_n 0, 1) := by decide +kernel
theorem dX5_make_42 : decode cX5_make 42 = .ok (.invokevirtual 57, 3) := by decide +kernel
theorem dX5_make_45 : decode cX5_make 45 = .ok (.aload_n 0, 1) := by decide +kernel
theorem dX5_make_46 : decode cX5_make 46 = .ok (.invokevirtual 60, 3) := by decide +kernel
theorem dX5_make_49 : decode cX5_make 49 = .ok (.return_, 1) := by decide +kernel
theorem dX5_weighPool_0 : decode cX5_weighPool 0 = .ok (.iconst 0, 1) := by decide +kernel
theorem dX5_weighPool_1 : decode cX5_weighPool 1 = .ok (.istore_n 1, 1) := by decide +kernel
theorem dX5_weighPool_2 : decode cX5_weighPool 2 = .ok (.iload_n 1, 1) := by decide +kernel
theorem dX5_weighPool_3 : decode cX5_weighPool 3 = .ok (.aload_n 0, 1) := by decide +kernel
theorem dX5_weighPool_4 : decode cX5_weighPool 4 = .ok (.getfield 46, 3) := by decide +kernel
theorem dX5_weighPool_7 : decode cX5_weighPool 7 = .ok (.if_icmp .gt 23, 3) := by decide +kernel
theorem dX5_weighPool_10 : decode cX5_weighPool 10 = .ok (.aload_n 0, 1) := by decide +kernel
theorem dX5_weighPool_11 : decode cX5_weighPool 11 = .ok (.getfield 20, 3) := by decide +kernel
theorem dX5_weighPool_14 : decode cX5_weighPool 14 = .ok (.iload_n 1, 1) := by decide +kernel
theorem dX5_weighPool_15 : decode cX5_weighPool 15 = .ok (.iconst 0, 1) := by decide +kernel
theorem dX5_weighPool_16 : decode cX5_weighPool 16 = .ok (.iastore, 1) := by decide +kernel
theorem dX5_weighPool_17 : decode cX5_weighPool 17 = .ok (.aload_n 0, 1) := by decide +kernel
theorem dX5_weighPool_18 : decode cX5_weighPool 18 = .ok (.getfield 24, 3) := by decide +kernel
theorem dX5_weighPool_21 : decode cX5_weighPool 21 = .ok (.iload_n 1, 1) := by decide +kernel
theorem dX5_weighPool_22 : decode cX5_weighPool 22 = .ok (.iconst 0, 1) := by decide +kernel
theorem dX5_weighPool_23 : decode cX5_weighPool 23 = .ok (.iastore, 1) := by decide +kernel
theorem dX5_weighPool_24 : decode cX5_weighPool 24 = .ok (.iinc 1 1, 3) := by decide +kernel
theorem dX5_weighPool_27 : decode cX5_weighPool 27 = .ok (.goto (-25), 3) := by decide +kernel
theorem dX5_weighPool_30 : decode cX5_weighPool 30 = .ok (.iconst 0, 1) := by decide +kernel
theorem dX5_weighPool_31 : decode cX5_weighPool 31 = .ok (.istore_n 1, 1) := by decide +kernel
theorem dX5_weighPool_32 : decode cX5_weighPool 32 = .ok (.iload_n 1, 1) := by decide +kernel
theorem dX5_weighPool_33 : decode cX5_weighPool 33 = .ok (.aload_n 0, 1) := by decide +kernel
theorem dX5_weighPool_34 : decode cX5_weighPool 34 = .ok (.getfield 31, 3) := by decide +kernel
theorem dX5_weighPool_37 : decode cX5_weighPool 37 = .ok (.if_icmp .ge 99, 3) := by decide +kernel
theorem dX5_weighPool_136 : decode cX5_weighPool 136 = .ok (.return_, 1) := by decide +kernel
