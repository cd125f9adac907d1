set_option maxRecDepth 20000 in
theorem ggX8_casesNow_X2_gather : GoodIn wsX8_casesNow wsX2_gather := goodIn_r _ [11, 12, 13, 14, 15, 16, 17, 18, 19, 20, 21, 22, 23, 24, 25, 26, 27, 28, 29, 30, 31, 32, 33, 34, 35, 36, 37, 38, 39, 10, 40, 41, 42, 43, 44, 45, 46, 47, 48, 49, 50, 51, 52, 53, 54, 55, 56, 57, 58, 59, 60, 61, 62, 63, 64, 65, 66, 67, 68, 69, 70, 71, 72, 73, 74, 75, 76, 77, 78, 79, 80, 81, 82, 83, 84, 85, 86, 87, 88, 89, 90, 91, 92, 93, 94, 95, 96, 97, 98, 99, 100, 101, 102, 103, 104, 105, 106, 107, 108, 109, 110, 111, 112, 113, 114, 115, 116, 117, 118, 119, 120, 121, 122, 123, 124, 125, 126, 127, 128, 129, 130, 131, 132, 133, 134, 135, 150, 151, 152, 153, 154, 155, 156, 157, 158, 159, 160, 161, 162, 163, 164, 165, 166, 167, 168, 169, 170, 171, 172, 173, 174, 175, 176, 177, 178, 179, 180, 181, 182, 183, 184, 185] (by decide +kernel) (by decide +kernel)
set_option maxRecDepth 20000 in
theorem gX8_casesNow_X2_gather : GoodIn wsX8_casesNow (wsV RX8 282 RX2 yX2_gather wsX2_gather) := goodIn_app (goodIn_of _ (by decide +kernel)) ggX8_casesNow_X2_gather
theorem dX8_casesNow_0 : decode cX8_casesNow 0 = .ok (.aload_n 0, 1) := dc42 (by decide +kernel)
theorem dX8_casesNow_1 : decode cX8_casesNow 1 = .ok (.getfield 113, 3) := dc180 0 113 (by decide +kernel)
theorem dX8_casesNow_4 : decode cX8_casesNow 4 = .ok (.ifCond .eq 31, 3) := dc153 0 31 (by decide +kernel) (by decide +kernel)
theorem dX8_casesNow_7 : decode cX8_casesNow 7 = .ok (.aload_n 0, 1) := dc42 (by decide +kernel)
theorem dX8_casesNow_8 : decode cX8_casesNow 8 = .ok (.getfield 43, 3) := dc180 0 43 (by decide +kernel)
theorem dX8_casesNow_11 : decode cX8_casesNow 11 = .ok (.aload_n 0, 1) := dc42 (by decide +kernel)
theorem dX8_casesNow_12 : decode cX8_casesNow 12 = .ok (.getfield 11, 3) := dc180 0 11 (by decide +kernel)
theorem dX8_casesNow_15 : decode cX8_casesNow 15 = .ok (.aload_n 0, 1) := dc42 (by decide +kernel)
theorem dX8_casesNow_16 : decode cX8_casesNow 16 = .ok (.getfield 79, 3) := dc180 0 79 (by decide +kernel)
theorem dX8_casesNow_19 : decode cX8_casesNow 19 = .ok (.aload_n 0, 1) := dc42 (by decide +kernel)
theorem dX8_casesNow_20 : decode cX8_casesNow 20 = .ok (.getfield 36, 3) := dc180 0 36 (by decide +kernel)
theorem dX8_casesNow_23 : decode cX8_casesNow 23 = .ok (.aload_n 0, 1) := dc42 (by decide +kernel)
theorem dX8_casesNow_24 : decode cX8_casesNow 24 = .ok (.getfield 58, 3) := dc180 0 58 (by decide +kernel)
theorem dX8_casesNow_27 : decode cX8_casesNow 27 = .ok (.invokevirtual 282, 3) := dc182 1 26 (by decide +kernel)
theorem dX8_casesNow_30 : decode cX8_casesNow 30 = .ok (.aload_n 0, 1) := dc42 (by decide +kernel)
theorem dX8_casesNow_31 : decode cX8_casesNow 31 = .ok (.iconst 0, 1) := dc3 (by decide +kernel)
theorem dX8_casesNow_32 : decode cX8_casesNow 32 = .ok (.putfield 113, 3) := dc181 0 113 (by decide +kernel)
theorem dX8_casesNow_35 : decode cX8_casesNow 35 = .ok (.aload_n 0, 1) := dc42 (by decide +kernel)
theorem dX8_casesNow_36 : decode cX8_casesNow 36 = .ok (.getfield 43, 3) := dc180 0 43 (by decide +kernel)
theorem dX8_casesNow_39 : decode cX8_casesNow 39 = .ok (.areturn, 1) := dc176 (by decide +kernel)
set_option maxRecDepth 20000 in
theorem ggX8_caseNumberOf_X8_casesNow : GoodIn wsX8_caseNumberOf wsX8_casesNow := goodIn_r _ [6, 7, 8, 9, 10, 11, 12, 13, 14, 15, 16, 17, 18, 19, 20, 21, 22, 23, 24, 25, 26, 27, 28, 29, 30, 31, 32, 33, 34, 35, 36, 37, 38, 39, 40, 41, 42, 43, 44, 45, 46, 47, 48, 49, 50, 51, 52, 53, 54, 55, 56, 57, 58, 59, 60, 61, 62, 63, 64, 65, 66, 67, 68, 69, 70, 71, 72, 73, 74, 75, 76, 77, 78, 79, 80, 81, 82, 83, 84, 85, 86, 87, 88, 89, 90, 5, 91, 92, 93, 94, 95, 96, 97, 98, 99, 100, 101, 102, 103, 104, 105, 106, 107, 108, 109, 110, 111, 112, 113, 114, 115, 116, 117, 118, 119, 120, 121, 122, 123, 124, 125, 126, 127, 128, 129, 130, 131, 132, 133, 134, 135, 136, 137, 138, 139, 140, 160, 161, 162, 163, 164, 165, 166, 167, 168, 169, 170, 171, 172, 173, 143, 144, 145, 146, 147, 148, 149, 150, 151, 152, 153, 154, 155, 156, 157, 158, 159, 174, 175, 176, 177, 178, 179, 180, 181, 182, 183, 184, 185, 186, 187, 188, 189, 190, 191, 192] (by decide +kernel) (by decide +kernel)
set_option maxRecDepth 20000 in
theorem gX8_caseNumberOf_X8_casesNow : GoodIn wsX8_caseNumberOf (wsV RX8 214 RX8 yX8_casesNow wsX8_casesNow) := goodIn_app (goodIn_of _ (by decide +kernel)) ggX8_caseNumberOf_X8_casesNow
set_option maxRecDepth 20000 in
theorem ggX8_caseNumberOf_X0_isLive : GoodIn wsX8_caseNumberOf wsX0_isLive := goodIn_r _ [32, 33, 34, 35, 31, 36, 37, 38, 39, 40, 41, 42, 43, 143, 144, 145, 146, 147, 148, 149, 150, 151, 152, 153, 154, 155, 156, 157, 158, 159] (by decide +kernel) (by decide +kernel)
set_option maxRecDepth 20000 in
theorem gX8_caseNumberOf_X0_isLive : GoodIn wsX8_caseNumberOf (wsV RX8 225 RX0 yX0_isLive wsX0_isLive) := goodIn_app (goodIn_of _ (by decide +kernel)) ggX8_caseNumberOf_X0_isLive
set_option maxRecDepth 20000 in
theorem ggX8_caseNumberOf_X0_head : GoodIn wsX8_caseNumberOf wsX0_head := goodIn_r _ [53, 54, 143, 144, 145, 146, 147, 148, 149, 150, 151, 152, 153, 154, 155, 156, 157, 158, 159] (by decide +kernel) (by decide +kernel)
set_option maxRecDepth 20000 in
theorem gX8_caseNumberOf_X0_head : GoodIn wsX8_caseNumberOf (wsV RX8 286 RX0 yX0_head wsX0_head) := goodIn_app (goodIn_of _ (by decide +kernel)) ggX8_caseNumberOf_X0_head
theorem dX8_caseNumberOf_0 : decode cX8_caseNumberOf 0 = .ok (.aload_n 0, 1) := dc42 (by decide +kernel)
theorem dX8_caseNumberOf_1 : decode cX8_caseNumberOf 1 = .ok (.invokevirtual 214, 3) := dc182 0 214 (by decide +kernel)
theorem dX8_caseNumberOf_4 : decode cX8_caseNumberOf 4 = .ok (.pop, 1) := dc87 (by decide +kernel)
theorem dX8_caseNumberOf_5 : decode cX8_caseNumberOf 5 = .ok (.aload_n 1, 1) := dc43 (by decide +kernel)
theorem dX8_caseNumberOf_6 : decode cX8_caseNumberOf 6 = .ok (.invokevirtual 225, 3) := dc182 0 225 (by decide +kernel)
theorem dX8_caseNumberOf_9 : decode cX8_caseNumberOf 9 = .ok (.ifCond .eq 13, 3) := dc153 0 13 (by decide +kernel) (by decide +kernel)
theorem dX8_caseNumberOf_12 : decode cX8_caseNumberOf 12 = .ok (.aload_n 1, 1) := dc43 (by decide +kernel)
theorem dX8_caseNumberOf_13 : decode cX8_caseNumberOf 13 = .ok (.invokevirtual 286, 3) := dc182 1 30 (by decide +kernel)
theorem dX8_caseNumberOf_16 : decode cX8_caseNumberOf 16 = .ok (.getfield 76, 3) := dc180 0 76 (by decide +kernel)
theorem dX8_caseNumberOf_19 : decode cX8_caseNumberOf 19 = .ok (.goto 4, 3) := dc167 0 4 (by decide +kernel) (by decide +kernel)
theorem dX8_caseNumberOf_22 : decode cX8_caseNumberOf 22 = .ok (.iconst (-1), 1) := dc2 (by decide +kernel)
theorem dX8_caseNumberOf_23 : decode cX8_caseNumberOf 23 = .ok (.ireturn, 1) := dc172 (by decide +kernel)
set_option maxRecDepth 20000 in
theorem ggX8_memberOf_X0_isLive : GoodIn wsX8_memberOf wsX0_isLive := goodIn_r _ [8, 9, 10, 11, 7, 12, 13, 14, 15, 16, 17, 18, 19, 25, 26, 27, 28, 29, 30, 31, 32, 33, 34, 35, 36, 37, 38, 39, 40, 41] (by decide +kernel) (by decide +kernel)
set_option maxRecDepth 20000 in
theorem gX8_memberOf_X0_isLive : GoodIn wsX8_memberOf (wsV RX8 225 RX0 yX0_isLive wsX0_isLive) := goodIn_app (goodIn_of _ (by decide +kernel)) ggX8_memberOf_X0_isLive
set_option maxRecDepth 20000 in
theorem ggX8_memberOf_X0_head : GoodIn wsX8_memberOf wsX0_head := goodIn_r _ [23, 24, 25, 26, 27, 28, 29, 30, 31, 32, 33, 34, 35, 36, 37, 38, 39, 40, 41] (by decide +kernel) (by decide +kernel)
set_option maxRecDepth 20000 in
theorem gX8_memberOf_X0_head : GoodIn wsX8_memberOf (wsV RX8 286 RX0 yX0_head wsX0_head) := goodIn_app (goodIn_of _ (by decide +kernel)) ggX8_memberOf_X0_head
theorem dX8_memberOf_0 : decode cX8_memberOf 0 = .ok (.iload_n 2, 1) := dc28 (by decide +kernel)
theorem dX8_memberOf_1 : decode cX8_memberOf 1 = .ok (.istore_n 3, 1) := dc62 (by decide +kernel)
theorem dX8_memberOf_2 : decode cX8_memberOf 2 = .ok (.aload_n 1, 1) := dc43 (by decide +kernel)
theorem dX8_memberOf_3 : decode cX8_memberOf 3 = .ok (.getfield 76, 3) := dc180 0 76 (by decide +kernel)
theorem dX8_memberOf_6 : decode cX8_memberOf 6 = .ok (.istore 4, 2) := dc54 4 (by decide +kernel)
theorem dX8_memberOf_8 : decode cX8_memberOf 8 = .ok (.iload 4, 2) := dc21 4 (by decide +kernel)
theorem dX8_memberOf_10 : decode cX8_memberOf 10 = .ok (.aload_n 0, 1) := dc42 (by decide +kernel)
theorem dX8_memberOf_11 : decode cX8_memberOf 11 = .ok (.getfield 79, 3) := dc180 0 79 (by decide +kernel)
theorem dX8_memberOf_14 : decode cX8_memberOf 14 = .ok (.if_icmp .ge 48, 3) := dc162 0 48 (by decide +kernel) (by decide +kernel)
theorem dX8_memberOf_17 : decode cX8_memberOf 17 = .ok (.aload_n 0, 1) := dc42 (by decide +kernel)
theorem dX8_memberOf_18 : decode cX8_memberOf 18 = .ok (.getfield 11, 3) := dc180 0 11 (by decide +kernel)
theorem dX8_memberOf_21 : decode cX8_memberOf 21 = .ok (.iload 4, 2) := dc21 4 (by decide +kernel)
theorem dX8_memberOf_23 : decode cX8_memberOf 23 = .ok (.aaload, 1) := dc50 (by decide +kernel)
theorem dX8_memberOf_24 : decode cX8_memberOf 24 = .ok (.astore 5, 2) := dc58 5 (by decide +kernel)
theorem dX8_memberOf_26 : decode cX8_memberOf 26 = .ok (.aload 5, 2) := dc25 5 (by decide +kernel)
theorem dX8_memberOf_28 : decode cX8_memberOf 28 = .ok (.invokevirtual 225, 3) := dc182 0 225 (by decide +kernel)
theorem dX8_memberOf_31 : decode cX8_memberOf 31 = .ok (.ifCond .eq 25, 3) := dc153 0 25 (by decide +kernel) (by decide +kernel)
theorem dX8_memberOf_34 : decode cX8_memberOf 34 = .ok (.aload 5, 2) := dc25 5 (by decide +kernel)
theorem dX8_memberOf_36 : decode cX8_memberOf 36 = .ok (.invokevirtual 286, 3) := dc182 1 30 (by decide +kernel)
theorem dX8_memberOf_39 : decode cX8_memberOf 39 = .ok (.aload_n 1, 1) := dc43 (by decide +kernel)
theorem dX8_memberOf_40 : decode cX8_memberOf 40 = .ok (.if_acmp .ne 16, 3) := dc166 0 16 (by decide +kernel) (by decide +kernel)
theorem dX8_memberOf_43 : decode cX8_memberOf 43 = .ok (.iload_n 3, 1) := dc29 (by decide +kernel)
theorem dX8_memberOf_44 : decode cX8_memberOf 44 = .ok (.ifCond .ne 9, 3) := dc154 0 9 (by decide +kernel) (by decide +kernel)
theorem dX8_memberOf_47 : decode cX8_memberOf 47 = .ok (.aload 5, 2) := dc25 5 (by decide +kernel)
theorem dX8_memberOf_49 : decode cX8_memberOf 49 = .ok (.getfield 76, 3) := dc180 0 76 (by decide +kernel)
theorem dX8_memberOf_52 : decode cX8_memberOf 52 = .ok (.ireturn, 1) := dc172 (by decide +kernel)
theorem dX8_memberOf_53 : decode cX8_memberOf 53 = .ok (.iinc 3 (-1), 3) := dc132 3 255 (by decide +kernel) (by decide +kernel)
theorem dX8_memberOf_56 : decode cX8_memberOf 56 = .ok (.iinc 4 1, 3) := dc132 4 1 (by decide +kernel) (by decide +kernel)
theorem dX8_memberOf_59 : decode cX8_memberOf 59 = .ok (.goto (-51), 3) := dc167 255 205 (by decide +kernel) (by decide +kernel)
theorem dX8_memberOf_62 : decode cX8_memberOf 62 = .ok (.iconst (-1), 1) := dc2 (by decide +kernel)
theorem dX8_memberOf_63 : decode cX8_memberOf 63 = .ok (.ireturn, 1) := dc172 (by decide +kernel)
