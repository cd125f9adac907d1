theorem dX2_init_0 : decode cX2_init 0 = .ok (.aload_n 0, 1) := dc42 (by decide +kernel)
theorem dX2_init_1 : decode cX2_init 1 = .ok (.invokespecial 3, 3) := dc183 0 3 (by decide +kernel)
theorem dX2_init_4 : decode cX2_init 4 = .ok (.aload_n 0, 1) := dc42 (by decide +kernel)
theorem dX2_init_5 : decode cX2_init 5 = .ok (.sipush 200, 3) := dc17 0 200 (by decide +kernel) (by decide +kernel)
theorem dX2_init_8 : decode cX2_init 8 = .ok (.anewarray 9, 3) := dc189 0 9 (by decide +kernel)
theorem dX2_init_11 : decode cX2_init 11 = .ok (.putfield 11, 3) := dc181 0 11 (by decide +kernel)
theorem dX2_init_14 : decode cX2_init 14 = .ok (.return_, 1) := dc177 (by decide +kernel)
theorem dX3_init_14 : decode cX3_init 14 = .ok (.iconst 0, 1) := dc3 (by decide +kernel)
theorem dX3_init_15 : decode cX3_init 15 = .ok (.goto 9, 3) := dc167 0 9 (by decide +kernel) (by decide +kernel)
theorem dX5_init_0 : decode cX5_init 0 = .ok (.aload_n 0, 1) := dc42 (by decide +kernel)
theorem dX5_init_1 : decode cX5_init 1 = .ok (.invokespecial 3, 3) := dc183 0 3 (by decide +kernel)
theorem dX5_init_4 : decode cX5_init 4 = .ok (.aload_n 0, 1) := dc42 (by decide +kernel)
theorem dX5_init_5 : decode cX5_init 5 = .ok (.bipush 17, 2) := dc16 17 (by decide +kernel) (by decide +kernel)
theorem dX5_init_7 : decode cX5_init 7 = .ok (.anewarray 9, 3) := dc189 0 9 (by decide +kernel)
theorem dX5_init_10 : decode cX5_init 10 = .ok (.putfield 11, 3) := dc181 0 11 (by decide +kernel)
theorem dX5_init_13 : decode cX5_init 13 = .ok (.aload_n 0, 1) := dc42 (by decide +kernel)
theorem dX5_init_14 : decode cX5_init 14 = .ok (.bipush 12, 2) := dc16 12 (by decide +kernel) (by decide +kernel)
theorem dX5_init_16 : decode cX5_init 16 = .ok (.anewarray 9, 3) := dc189 0 9 (by decide +kernel)
theorem dX5_init_19 : decode cX5_init 19 = .ok (.putfield 17, 3) := dc181 0 17 (by decide +kernel)
theorem dX5_init_22 : decode cX5_init 22 = .ok (.aload_n 0, 1) := dc42 (by decide +kernel)
theorem dX5_init_23 : decode cX5_init 23 = .ok (.sipush 301, 3) := dc17 1 45 (by decide +kernel) (by decide +kernel)
theorem dX5_init_26 : decode cX5_init 26 = .ok (.newarray .int, 2) := by decide +kernel
theorem dX5_init_28 : decode cX5_init 28 = .ok (.putfield 20, 3) := dc181 0 20 (by decide +kernel)
theorem dX5_init_31 : decode cX5_init 31 = .ok (.aload_n 0, 1) := dc42 (by decide +kernel)
theorem dX5_init_32 : decode cX5_init 32 = .ok (.sipush 301, 3) := dc17 1 45 (by decide +kernel) (by decide +kernel)
theorem dX5_init_35 : decode cX5_init 35 = .ok (.newarray .int, 2) := by decide +kernel
theorem dX5_init_37 : decode cX5_init 37 = .ok (.putfield 24, 3) := dc181 0 24 (by decide +kernel)
theorem dX5_init_40 : decode cX5_init 40 = .ok (.return_, 1) := dc177 (by decide +kernel)
theorem dX7_init_0 : decode cX7_init 0 = .ok (.aload_n 0, 1) := dc42 (by decide +kernel)
theorem dX7_init_1 : decode cX7_init 1 = .ok (.invokespecial 3, 3) := dc183 0 3 (by decide +kernel)
theorem dX7_init_4 : decode cX7_init 4 = .ok (.aload_n 0, 1) := dc42 (by decide +kernel)
theorem dX7_init_5 : decode cX7_init 5 = .ok (.bipush 60, 2) := dc16 60 (by decide +kernel) (by decide +kernel)
theorem dX7_init_7 : decode cX7_init 7 = .ok (.anewarray 9, 3) := dc189 0 9 (by decide +kernel)
theorem dX7_init_10 : decode cX7_init 10 = .ok (.putfield 11, 3) := dc181 0 11 (by decide +kernel)
theorem dX7_init_13 : decode cX7_init 13 = .ok (.return_, 1) := dc177 (by decide +kernel)
set_option maxRecDepth 20000 in
theorem ggX8_init_X3_init : GoodIn wsX8_init wsX3_init := goodIn_sub (List.forall_mem_cons.mpr ⟨List.mem_cons_of_mem _ (List.mem_append_left _ (List.mem_append_left _ (List.mem_append_left _ (List.mem_append_left _ (List.mem_append_left _ (List.mem_append_right _ (List.mem_append_left _ (List.mem_of_getElem? (i := 4) rfl)))))))), (all_app (List.forall_mem_cons.mpr ⟨List.mem_cons_of_mem _ (List.mem_append_left _ (List.mem_append_left _ (List.mem_append_left _ (List.mem_append_left _ (List.mem_append_left _ (List.mem_append_right _ (List.mem_append_left _ (List.mem_of_getElem? (i := 5) rfl)))))))), (List.forall_mem_cons.mpr ⟨List.mem_cons_of_mem _ (List.mem_append_left _ (List.mem_append_left _ (List.mem_append_left _ (List.mem_append_left _ (List.mem_append_left _ (List.mem_append_left _ (List.mem_of_getElem? (i := 1) rfl))))))), (List.forall_mem_cons.mpr ⟨List.mem_cons_of_mem _ (List.mem_append_left _ (List.mem_append_left _ (List.mem_append_left _ (List.mem_append_left _ (List.mem_append_left _ (List.mem_append_left _ (List.mem_of_getElem? (i := 2) rfl))))))), (List.forall_mem_cons.mpr ⟨List.mem_cons_of_mem _ (List.mem_append_left _ (List.mem_append_left _ (List.mem_append_left _ (List.mem_append_left _ (List.mem_append_left _ (List.mem_append_right _ (List.mem_append_left _ (List.mem_of_getElem? (i := 6) rfl)))))))), (List.forall_mem_cons.mpr ⟨List.mem_cons_of_mem _ (List.mem_append_left _ (List.mem_append_left _ (List.mem_append_left _ (List.mem_append_left _ (List.mem_append_left _ (List.mem_append_right _ (List.mem_append_left _ (List.mem_of_getElem? (i := 7) rfl)))))))), (List.forall_mem_cons.mpr ⟨List.mem_cons_of_mem _ (List.mem_append_left _ (List.mem_append_left _ (List.mem_append_left _ (List.mem_append_left _ (List.mem_append_left _ (List.mem_append_right _ (List.mem_append_left _ (List.mem_of_getElem? (i := 8) rfl)))))))), (List.forall_mem_cons.mpr ⟨List.mem_cons_of_mem _ (List.mem_append_left _ (List.mem_append_left _ (List.mem_append_left _ (List.mem_append_left _ (List.mem_append_left _ (List.mem_append_right _ (List.mem_append_left _ (List.mem_of_getElem? (i := 9) rfl)))))))), (fun w h => absurd h List.not_mem_nil)⟩)⟩)⟩)⟩)⟩)⟩)⟩) (fun w h => List.mem_cons_of_mem _ (List.mem_append_left _ (List.mem_append_left _ (List.mem_append_left _ (List.mem_append_right _ (h)))))))⟩) ga_wsX3_init
set_option maxRecDepth 20000 in
theorem gX8_init_X3_init : GoodIn wsX8_init (wsX3_init) := ggX8_init_X3_init
theorem ga_wsX7_init : wsX7_init.all goodWord = true := by decide +kernel
set_option maxRecDepth 20000 in
theorem ggX8_init_X7_init : GoodIn wsX8_init wsX7_init := goodIn_sub (List.forall_mem_cons.mpr ⟨List.mem_cons_of_mem _ (List.mem_append_left _ (List.mem_append_left _ (List.mem_append_left _ (List.mem_append_left _ (List.mem_append_left _ (List.mem_append_right _ (List.mem_append_left _ (List.mem_of_getElem? (i := 11) rfl)))))))), (all_app (List.forall_mem_cons.mpr ⟨List.mem_cons_of_mem _ (List.mem_append_left _ (List.mem_append_left _ (List.mem_append_left _ (List.mem_append_left _ (List.mem_append_left _ (List.mem_append_right _ (List.mem_append_left _ (List.mem_of_getElem? (i := 12) rfl)))))))), (List.forall_mem_cons.mpr ⟨List.mem_cons_of_mem _ (List.mem_append_left _ (List.mem_append_left _ (List.mem_append_left _ (List.mem_append_left _ (List.mem_append_left _ (List.mem_append_left _ (List.mem_of_getElem? (i := 1) rfl))))))), (List.forall_mem_cons.mpr ⟨List.mem_cons_of_mem _ (List.mem_append_left _ (List.mem_append_left _ (List.mem_append_left _ (List.mem_append_left _ (List.mem_append_left _ (List.mem_append_left _ (List.mem_of_getElem? (i := 2) rfl))))))), (List.forall_mem_cons.mpr ⟨List.mem_cons_of_mem _ (List.mem_append_left _ (List.mem_append_left _ (List.mem_append_left _ (List.mem_append_left _ (List.mem_append_left _ (List.mem_append_right _ (List.mem_append_left _ (List.mem_of_getElem? (i := 13) rfl)))))))), (List.forall_mem_cons.mpr ⟨List.mem_cons_of_mem _ (List.mem_append_left _ (List.mem_append_left _ (List.mem_append_left _ (List.mem_append_left _ (List.mem_append_left _ (List.mem_append_right _ (List.mem_append_left _ (List.mem_of_getElem? (i := 14) rfl)))))))), (fun w h => absurd h List.not_mem_nil)⟩)⟩)⟩)⟩)⟩) (fun w h => List.mem_cons_of_mem _ (List.mem_append_left _ (List.mem_append_left _ (List.mem_append_right _ (h))))))⟩) ga_wsX7_init
set_option maxRecDepth 20000 in
theorem gX8_init_X7_init_n35 : GoodIn wsX8_init (wsX7_init) := ggX8_init_X7_init
theorem ga_wsX2_init : wsX2_init.all goodWord = true := by decide +kernel
set_option maxRecDepth 20000 in
theorem ggX8_init_X2_init : GoodIn wsX8_init wsX2_init := goodIn_sub (List.forall_mem_cons.mpr ⟨List.mem_cons_of_mem _ (List.mem_append_left _ (List.mem_append_left _ (List.mem_append_left _ (List.mem_append_left _ (List.mem_append_left _ (List.mem_append_right _ (List.mem_append_left _ (List.mem_of_getElem? (i := 16) rfl)))))))), (all_app (List.forall_mem_cons.mpr ⟨List.mem_cons_of_mem _ (List.mem_append_left _ (List.mem_append_left _ (List.mem_append_left _ (List.mem_append_left _ (List.mem_append_left _ (List.mem_append_right _ (List.mem_append_left _ (List.mem_of_getElem? (i := 17) rfl)))))))), (List.forall_mem_cons.mpr ⟨List.mem_cons_of_mem _ (List.mem_append_left _ (List.mem_append_left _ (List.mem_append_left _ (List.mem_append_left _ (List.mem_append_left _ (List.mem_append_left _ (List.mem_of_getElem? (i := 1) rfl))))))), (List.forall_mem_cons.mpr ⟨List.mem_cons_of_mem _ (List.mem_append_left _ (List.mem_append_left _ (List.mem_append_left _ (List.mem_append_left _ (List.mem_append_left _ (List.mem_append_left _ (List.mem_of_getElem? (i := 2) rfl))))))), (List.forall_mem_cons.mpr ⟨List.mem_cons_of_mem _ (List.mem_append_left _ (List.mem_append_left _ (List.mem_append_left _ (List.mem_append_left _ (List.mem_append_left _ (List.mem_append_right _ (List.mem_append_left _ (List.mem_of_getElem? (i := 18) rfl)))))))), (List.forall_mem_cons.mpr ⟨List.mem_cons_of_mem _ (List.mem_append_left _ (List.mem_append_left _ (List.mem_append_left _ (List.mem_append_left _ (List.mem_append_left _ (List.mem_append_right _ (List.mem_append_left _ (List.mem_of_getElem? (i := 19) rfl)))))))), (fun w h => absurd h List.not_mem_nil)⟩)⟩)⟩)⟩)⟩) (fun w h => List.mem_cons_of_mem _ (List.mem_append_left _ (List.mem_append_right _ (h)))))⟩) ga_wsX2_init
set_option maxRecDepth 20000 in
theorem gX8_init_X2_init_n42 : GoodIn wsX8_init (wsX2_init) := ggX8_init_X2_init
theorem ga_wsX5_init : wsX5_init.all goodWord = true := by decide +kernel
set_option maxRecDepth 20000 in
theorem ggX8_init_X5_init : GoodIn wsX8_init wsX5_init := goodIn_sub (List.forall_mem_cons.mpr ⟨List.mem_cons_of_mem _ (List.mem_append_left _ (List.mem_append_left _ (List.mem_append_left _ (List.mem_append_left _ (List.mem_append_left _ (List.mem_append_right _ (List.mem_append_left _ (List.mem_of_getElem? (i := 21) rfl)))))))), (all_app (List.forall_mem_cons.mpr ⟨List.mem_cons_of_mem _ (List.mem_append_left _ (List.mem_append_left _ (List.mem_append_left _ (List.mem_append_left _ (List.mem_append_left _ (List.mem_append_right _ (List.mem_append_left _ (List.mem_of_getElem? (i := 22) rfl)))))))), (List.forall_mem_cons.mpr ⟨List.mem_cons_of_mem _ (List.mem_append_left _ (List.mem_append_left _ (List.mem_append_left _ (List.mem_append_left _ (List.mem_append_left _ (List.mem_append_left _ (List.mem_of_getElem? (i := 1) rfl))))))), (List.forall_mem_cons.mpr ⟨List.mem_cons_of_mem _ (List.mem_append_left _ (List.mem_append_left _ (List.mem_append_left _ (List.mem_append_left _ (List.mem_append_left _ (List.mem_append_left _ (List.mem_of_getElem? (i := 2) rfl))))))), (List.forall_mem_cons.mpr ⟨List.mem_cons_of_mem _ (List.mem_append_left _ (List.mem_append_left _ (List.mem_append_left _ (List.mem_append_left _ (List.mem_append_left _ (List.mem_append_right _ (List.mem_append_left _ (List.mem_of_getElem? (i := 23) rfl)))))))), (List.forall_mem_cons.mpr ⟨List.mem_cons_of_mem _ (List.mem_append_left _ (List.mem_append_left _ (List.mem_append_left _ (List.mem_append_left _ (List.mem_append_left _ (List.mem_append_right _ (List.mem_append_right _ (List.mem_of_getElem? (i := 0) rfl)))))))), (List.forall_mem_cons.mpr ⟨List.mem_cons_of_mem _ (List.mem_append_left _ (List.mem_append_left _ (List.mem_append_left _ (List.mem_append_left _ (List.mem_append_left _ (List.mem_append_right _ (List.mem_append_right _ (List.mem_of_getElem? (i := 1) rfl)))))))), (List.forall_mem_cons.mpr ⟨List.mem_cons_of_mem _ (List.mem_append_left _ (List.mem_append_left _ (List.mem_append_left _ (List.mem_append_left _ (List.mem_append_left _ (List.mem_append_right _ (List.mem_append_right _ (List.mem_of_getElem? (i := 2) rfl)))))))), (List.forall_mem_cons.mpr ⟨List.mem_cons_of_mem _ (List.mem_append_left _ (List.mem_append_left _ (List.mem_append_left _ (List.mem_append_left _ (List.mem_append_left _ (List.mem_append_right _ (List.mem_append_right _ (List.mem_of_getElem? (i := 3) rfl)))))))), (List.forall_mem_cons.mpr ⟨List.mem_cons_of_mem _ (List.mem_append_left _ (List.mem_append_left _ (List.mem_append_left _ (List.mem_append_left _ (List.mem_append_left _ (List.mem_append_right _ (List.mem_append_right _ (List.mem_of_getElem? (i := 4) rfl)))))))), (fun w h => absurd h List.not_mem_nil)⟩)⟩)⟩)⟩)⟩)⟩)⟩)⟩)⟩) (fun w h => List.mem_cons_of_mem _ (List.mem_append_right _ (h))))⟩) ga_wsX5_init
set_option maxRecDepth 20000 in
theorem gX8_init_X5_init_n49 : GoodIn wsX8_init (wsX5_init) := ggX8_init_X5_init
theorem dX8_init_0 : decode cX8_init 0 = .ok (.aload_n 0, 1) := dc42 (by decide +kernel)
theorem dX8_init_1 : decode cX8_init 1 = .ok (.invokespecial 1, 3) := dc183 0 1 (by decide +kernel)
theorem dX8_init_4 : decode cX8_init 4 = .ok (.aload_n 0, 1) := dc42 (by decide +kernel)
theorem dX8_init_5 : decode cX8_init 5 = .ok (.sipush 200, 3) := dc17 0 200 (by decide +kernel) (by decide +kernel)
theorem dX8_init_8 : decode cX8_init 8 = .ok (.anewarray 9, 3) := dc189 0 9 (by decide +kernel)
theorem dX8_init_11 : decode cX8_init 11 = .ok (.putfield 11, 3) := dc181 0 11 (by decide +kernel)
theorem dX8_init_14 : decode cX8_init 14 = .ok (.aload_n 0, 1) := dc42 (by decide +kernel)
theorem dX8_init_15 : decode cX8_init 15 = .ok (.bipush 40, 2) := dc16 40 (by decide +kernel) (by decide +kernel)
theorem dX8_init_17 : decode cX8_init 17 = .ok (.anewarray 9, 3) := dc189 0 9 (by decide +kernel)
theorem dX8_init_20 : decode cX8_init 20 = .ok (.putfield 15, 3) := dc181 0 15 (by decide +kernel)
theorem dX8_init_23 : decode cX8_init 23 = .ok (.aload_n 0, 1) := dc42 (by decide +kernel)
theorem dX8_init_24 : decode cX8_init 24 = .ok (.bipush 30, 2) := dc16 30 (by decide +kernel) (by decide +kernel)
theorem dX8_init_26 : decode cX8_init 26 = .ok (.anewarray 18, 3) := dc189 0 18 (by decide +kernel)
theorem dX8_init_29 : decode cX8_init 29 = .ok (.putfield 20, 3) := dc181 0 20 (by decide +kernel)
theorem dX8_init_32 : decode cX8_init 32 = .ok (.aload_n 0, 1) := dc42 (by decide +kernel)
theorem dX8_init_33 : decode cX8_init 33 = .ok (.new 24, 3) := dc187 0 24 (by decide +kernel)
theorem dX8_init_36 : decode cX8_init 36 = .ok (.dup, 1) := dc89 (by decide +kernel)
theorem dX8_init_37 : decode cX8_init 37 = .ok (.aconst_null, 1) := dc1 (by decide +kernel)
theorem dX8_init_38 : decode cX8_init 38 = .ok (.iconst 0, 1) := dc3 (by decide +kernel)
theorem dX8_init_39 : decode cX8_init 39 = .ok (.aconst_null, 1) := dc1 (by decide +kernel)
theorem dX8_init_40 : decode cX8_init 40 = .ok (.invokespecial 26, 3) := dc183 0 26 (by decide +kernel)
theorem dX8_init_43 : decode cX8_init 43 = .ok (.putfield 29, 3) := dc181 0 29 (by decide +kernel)
theorem dX8_init_46 : decode cX8_init 46 = .ok (.aload_n 0, 1) := dc42 (by decide +kernel)
theorem dX8_init_47 : decode cX8_init 47 = .ok (.new 33, 3) := dc187 0 33 (by decide +kernel)
theorem dX8_init_50 : decode cX8_init 50 = .ok (.dup, 1) := dc89 (by decide +kernel)
theorem dX8_init_51 : decode cX8_init 51 = .ok (.invokespecial 35, 3) := dc183 0 35 (by decide +kernel)
theorem dX8_init_54 : decode cX8_init 54 = .ok (.putfield 36, 3) := dc181 0 36 (by decide +kernel)
theorem dX8_init_57 : decode cX8_init 57 = .ok (.aload_n 0, 1) := dc42 (by decide +kernel)
theorem dX8_init_58 : decode cX8_init 58 = .ok (.new 40, 3) := dc187 0 40 (by decide +kernel)
theorem dX8_init_61 : decode cX8_init 61 = .ok (.dup, 1) := dc89 (by decide +kernel)
theorem dX8_init_62 : decode cX8_init 62 = .ok (.invokespecial 42, 3) := dc183 0 42 (by decide +kernel)
theorem dX8_init_65 : decode cX8_init 65 = .ok (.putfield 43, 3) := dc181 0 43 (by decide +kernel)
theorem dX8_init_68 : decode cX8_init 68 = .ok (.aload_n 0, 1) := dc42 (by decide +kernel)
theorem dX8_init_69 : decode cX8_init 69 = .ok (.new 47, 3) := dc187 0 47 (by decide +kernel)
theorem dX8_init_72 : decode cX8_init 72 = .ok (.dup, 1) := dc89 (by decide +kernel)
theorem dX8_init_73 : decode cX8_init 73 = .ok (.invokespecial 49, 3) := dc183 0 49 (by decide +kernel)
theorem dX8_init_76 : decode cX8_init 76 = .ok (.putfield 50, 3) := dc181 0 50 (by decide +kernel)
theorem dX8_init_79 : decode cX8_init 79 = .ok (.aload_n 0, 1) := dc42 (by decide +kernel)
theorem dX8_init_80 : decode cX8_init 80 = .ok (.bipush 50, 2) := dc16 50 (by decide +kernel) (by decide +kernel)
theorem dX8_init_82 : decode cX8_init 82 = .ok (.putfield 54, 3) := dc181 0 54 (by decide +kernel)
theorem dX8_init_85 : decode cX8_init 85 = .ok (.aload_n 0, 1) := dc42 (by decide +kernel)
theorem dX8_init_86 : decode cX8_init 86 = .ok (.iconst 3, 1) := dc6 (by decide +kernel)
theorem dX8_init_87 : decode cX8_init 87 = .ok (.putfield 58, 3) := dc181 0 58 (by decide +kernel)
theorem dX8_init_90 : decode cX8_init 90 = .ok (.return_, 1) := dc177 (by decide +kernel)
theorem dX9_init_0 : decode cX9_init 0 = .ok (.aload_n 0, 1) := dc42 (by decide +kernel)
theorem dX9_init_1 : decode cX9_init 1 = .ok (.invokespecial 1, 3) := dc183 0 1 (by decide +kernel)
theorem dX9_init_4 : decode cX9_init 4 = .ok (.aload_n 0, 1) := dc42 (by decide +kernel)
theorem dX9_init_5 : decode cX9_init 5 = .ok (.bipush 50, 2) := dc16 50 (by decide +kernel) (by decide +kernel)
theorem dX9_init_7 : decode cX9_init 7 = .ok (.putfield 7, 3) := dc181 0 7 (by decide +kernel)
theorem dX9_init_10 : decode cX9_init 10 = .ok (.aload_n 0, 1) := dc42 (by decide +kernel)
theorem dX9_init_11 : decode cX9_init 11 = .ok (.iconst 3, 1) := dc6 (by decide +kernel)
theorem dX9_init_12 : decode cX9_init 12 = .ok (.putfield 13, 3) := dc181 0 13 (by decide +kernel)
theorem dX9_init_15 : decode cX9_init 15 = .ok (.aload_n 0, 1) := dc42 (by decide +kernel)
theorem dX9_init_16 : decode cX9_init 16 = .ok (.sipush 200, 3) := dc17 0 200 (by decide +kernel) (by decide +kernel)
theorem dX9_init_19 : decode cX9_init 19 = .ok (.newarray .int, 2) := by decide +kernel
theorem dX9_init_21 : decode cX9_init 21 = .ok (.putfield 16, 3) := dc181 0 16 (by decide +kernel)
theorem dX9_init_24 : decode cX9_init 24 = .ok (.aload_n 0, 1) := dc42 (by decide +kernel)
theorem dX9_init_25 : decode cX9_init 25 = .ok (.sipush 200, 3) := dc17 0 200 (by decide +kernel) (by decide +kernel)
theorem dX9_init_28 : decode cX9_init 28 = .ok (.newarray .int, 2) := by decide +kernel
theorem dX9_init_30 : decode cX9_init 30 = .ok (.putfield 20, 3) := dc181 0 20 (by decide +kernel)
theorem dX9_init_33 : decode cX9_init 33 = .ok (.aload_n 0, 1) := dc42 (by decide +kernel)
theorem dX9_init_34 : decode cX9_init 34 = .ok (.sipush 200, 3) := dc17 0 200 (by decide +kernel) (by decide +kernel)
theorem dX9_init_37 : decode cX9_init 37 = .ok (.newarray .int, 2) := by decide +kernel
theorem dX9_init_39 : decode cX9_init 39 = .ok (.putfield 23, 3) := dc181 0 23 (by decide +kernel)
theorem dX9_init_42 : decode cX9_init 42 = .ok (.aload_n 0, 1) := dc42 (by decide +kernel)
theorem dX9_init_43 : decode cX9_init 43 = .ok (.sipush 200, 3) := dc17 0 200 (by decide +kernel) (by decide +kernel)
theorem dX9_init_46 : decode cX9_init 46 = .ok (.newarray .int, 2) := by decide +kernel
theorem dX9_init_48 : decode cX9_init 48 = .ok (.putfield 26, 3) := dc181 0 26 (by decide +kernel)
theorem dX9_init_51 : decode cX9_init 51 = .ok (.aload_n 0, 1) := dc42 (by decide +kernel)
theorem dX9_init_52 : decode cX9_init 52 = .ok (.sipush 200, 3) := dc17 0 200 (by decide +kernel) (by decide +kernel)
theorem dX9_init_55 : decode cX9_init 55 = .ok (.newarray .int, 2) := by decide +kernel
theorem dX9_init_57 : decode cX9_init 57 = .ok (.putfield 29, 3) := dc181 0 29 (by decide +kernel)
theorem dX9_init_60 : decode cX9_init 60 = .ok (.aload_n 0, 1) := dc42 (by decide +kernel)
theorem dX9_init_61 : decode cX9_init 61 = .ok (.sipush 200, 3) := dc17 0 200 (by decide +kernel) (by decide +kernel)
theorem dX9_init_64 : decode cX9_init 64 = .ok (.newarray .int, 2) := by decide +kernel
theorem dX9_init_66 : decode cX9_init 66 = .ok (.putfield 32, 3) := dc181 0 32 (by decide +kernel)
theorem dX9_init_69 : decode cX9_init 69 = .ok (.aload_n 0, 1) := dc42 (by decide +kernel)
theorem dX9_init_70 : decode cX9_init 70 = .ok (.sipush 200, 3) := dc17 0 200 (by decide +kernel) (by decide +kernel)
theorem dX9_init_73 : decode cX9_init 73 = .ok (.newarray .int, 2) := by decide +kernel
theorem dX9_init_75 : decode cX9_init 75 = .ok (.putfield 35, 3) := dc181 0 35 (by decide +kernel)
theorem dX9_init_78 : decode cX9_init 78 = .ok (.aload_n 0, 1) := dc42 (by decide +kernel)
theorem dX9_init_79 : decode cX9_init 79 = .ok (.sipush 200, 3) := dc17 0 200 (by decide +kernel) (by decide +kernel)
theorem dX9_init_82 : decode cX9_init 82 = .ok (.newarray .int, 2) := by decide +kernel
theorem dX9_init_84 : decode cX9_init 84 = .ok (.putfield 38, 3) := dc181 0 38 (by decide +kernel)
theorem dX9_init_87 : decode cX9_init 87 = .ok (.aload_n 0, 1) := dc42 (by decide +kernel)
theorem dX9_init_88 : decode cX9_init 88 = .ok (.sipush 200, 3) := dc17 0 200 (by decide +kernel) (by decide +kernel)
theorem dX9_init_91 : decode cX9_init 91 = .ok (.newarray .int, 2) := by decide +kernel
theorem dX9_init_93 : decode cX9_init 93 = .ok (.putfield 41, 3) := dc181 0 41 (by decide +kernel)
theorem dX9_init_96 : decode cX9_init 96 = .ok (.aload_n 0, 1) := dc42 (by decide +kernel)
theorem dX9_init_97 : decode cX9_init 97 = .ok (.sipush 200, 3) := dc17 0 200 (by decide +kernel) (by decide +kernel)
theorem dX9_init_100 : decode cX9_init 100 = .ok (.newarray .int, 2) := by decide +kernel
theorem dX9_init_102 : decode cX9_init 102 = .ok (.putfield 44, 3) := dc181 0 44 (by decide +kernel)
theorem dX9_init_105 : decode cX9_init 105 = .ok (.aload_n 0, 1) := dc42 (by decide +kernel)
theorem dX9_init_106 : decode cX9_init 106 = .ok (.sipush 200, 3) := dc17 0 200 (by decide +kernel) (by decide +kernel)
theorem dX9_init_109 : decode cX9_init 109 = .ok (.newarray .boolean, 2) := by decide +kernel
theorem dX9_init_111 : decode cX9_init 111 = .ok (.putfield 47, 3) := dc181 0 47 (by decide +kernel)
theorem dX9_init_114 : decode cX9_init 114 = .ok (.aload_n 0, 1) := dc42 (by decide +kernel)
theorem dX9_init_115 : decode cX9_init 115 = .ok (.sipush 200, 3) := dc17 0 200 (by decide +kernel) (by decide +kernel)
theorem dX9_init_118 : decode cX9_init 118 = .ok (.newarray .boolean, 2) := by decide +kernel
theorem dX9_init_120 : decode cX9_init 120 = .ok (.putfield 51, 3) := dc181 0 51 (by decide +kernel)
theorem dX9_init_123 : decode cX9_init 123 = .ok (.aload_n 0, 1) := dc42 (by decide +kernel)
theorem dX9_init_124 : decode cX9_init 124 = .ok (.bipush 30, 2) := dc16 30 (by decide +kernel) (by decide +kernel)
theorem dX9_init_126 : decode cX9_init 126 = .ok (.newarray .int, 2) := by decide +kernel
theorem dX9_init_128 : decode cX9_init 128 = .ok (.putfield 54, 3) := dc181 0 54 (by decide +kernel)
theorem dX9_init_131 : decode cX9_init 131 = .ok (.aload_n 0, 1) := dc42 (by decide +kernel)
theorem dX9_init_132 : decode cX9_init 132 = .ok (.bipush 30, 2) := dc16 30 (by decide +kernel) (by decide +kernel)
theorem dX9_init_134 : decode cX9_init 134 = .ok (.newarray .int, 2) := by decide +kernel
theorem dX9_init_136 : decode cX9_init 136 = .ok (.putfield 57, 3) := dc181 0 57 (by decide +kernel)
theorem dX9_init_139 : decode cX9_init 139 = .ok (.aload_n 0, 1) := dc42 (by decide +kernel)
theorem dX9_init_140 : decode cX9_init 140 = .ok (.bipush 30, 2) := dc16 30 (by decide +kernel) (by decide +kernel)
theorem dX9_init_142 : decode cX9_init 142 = .ok (.newarray .int, 2) := by decide +kernel
theorem dX9_init_144 : decode cX9_init 144 = .ok (.putfield 60, 3) := dc181 0 60 (by decide +kernel)
theorem dX9_init_147 : decode cX9_init 147 = .ok (.aload_n 0, 1) := dc42 (by decide +kernel)
theorem dX9_init_148 : decode cX9_init 148 = .ok (.bipush 60, 2) := dc16 60 (by decide +kernel) (by decide +kernel)
theorem dX9_init_150 : decode cX9_init 150 = .ok (.newarray .int, 2) := by decide +kernel
theorem dX9_init_152 : decode cX9_init 152 = .ok (.putfield 63, 3) := dc181 0 63 (by decide +kernel)
theorem dX9_init_155 : decode cX9_init 155 = .ok (.aload_n 0, 1) := dc42 (by decide +kernel)
theorem dX9_init_156 : decode cX9_init 156 = .ok (.bipush 60, 2) := dc16 60 (by decide +kernel) (by decide +kernel)
theorem dX9_init_158 : decode cX9_init 158 = .ok (.newarray .int, 2) := by decide +kernel
theorem dX9_init_160 : decode cX9_init 160 = .ok (.putfield 66, 3) := dc181 0 66 (by decide +kernel)
theorem dX9_init_163 : decode cX9_init 163 = .ok (.aload_n 0, 1) := dc42 (by decide +kernel)
theorem dX9_init_164 : decode cX9_init 164 = .ok (.bipush 60, 2) := dc16 60 (by decide +kernel) (by decide +kernel)
theorem dX9_init_166 : decode cX9_init 166 = .ok (.newarray .boolean, 2) := by decide +kernel
theorem dX9_init_168 : decode cX9_init 168 = .ok (.putfield 69, 3) := dc181 0 69 (by decide +kernel)
theorem dX9_init_171 : decode cX9_init 171 = .ok (.aload_n 0, 1) := dc42 (by decide +kernel)
theorem dX9_init_172 : decode cX9_init 172 = .ok (.sipush 200, 3) := dc17 0 200 (by decide +kernel) (by decide +kernel)
theorem dX9_init_175 : decode cX9_init 175 = .ok (.newarray .int, 2) := by decide +kernel
theorem dX9_init_177 : decode cX9_init 177 = .ok (.putfield 72, 3) := dc181 0 72 (by decide +kernel)
theorem dX9_init_180 : decode cX9_init 180 = .ok (.aload_n 0, 1) := dc42 (by decide +kernel)
theorem dX9_init_181 : decode cX9_init 181 = .ok (.sipush 200, 3) := dc17 0 200 (by decide +kernel) (by decide +kernel)
theorem dX9_init_184 : decode cX9_init 184 = .ok (.newarray .int, 2) := by decide +kernel
theorem dX9_init_186 : decode cX9_init 186 = .ok (.putfield 75, 3) := dc181 0 75 (by decide +kernel)
theorem dX9_init_189 : decode cX9_init 189 = .ok (.aload_n 0, 1) := dc42 (by decide +kernel)
theorem dX9_init_190 : decode cX9_init 190 = .ok (.sipush 200, 3) := dc17 0 200 (by decide +kernel) (by decide +kernel)
theorem dX9_init_193 : decode cX9_init 193 = .ok (.newarray .int, 2) := by decide +kernel
theorem dX9_init_195 : decode cX9_init 195 = .ok (.putfield 78, 3) := dc181 0 78 (by decide +kernel)
theorem dX9_init_198 : decode cX9_init 198 = .ok (.aload_n 0, 1) := dc42 (by decide +kernel)
theorem dX9_init_199 : decode cX9_init 199 = .ok (.bipush 20, 2) := dc16 20 (by decide +kernel) (by decide +kernel)
theorem dX9_init_201 : decode cX9_init 201 = .ok (.newarray .int, 2) := by decide +kernel
theorem dX9_init_203 : decode cX9_init 203 = .ok (.putfield 81, 3) := dc181 0 81 (by decide +kernel)
theorem dX9_init_206 : decode cX9_init 206 = .ok (.aload_n 0, 1) := dc42 (by decide +kernel)
theorem dX9_init_207 : decode cX9_init 207 = .ok (.bipush 12, 2) := dc16 12 (by decide +kernel) (by decide +kernel)
theorem dX9_init_209 : decode cX9_init 209 = .ok (.newarray .int, 2) := by decide +kernel
theorem dX9_init_211 : decode cX9_init 211 = .ok (.putfield 84, 3) := dc181 0 84 (by decide +kernel)
theorem dX9_init_214 : decode cX9_init 214 = .ok (.aload_n 0, 1) := dc42 (by decide +kernel)
theorem dX9_init_215 : decode cX9_init 215 = .ok (.bipush 12, 2) := dc16 12 (by decide +kernel) (by decide +kernel)
theorem dX9_init_217 : decode cX9_init 217 = .ok (.newarray .int, 2) := by decide +kernel
theorem dX9_init_219 : decode cX9_init 219 = .ok (.putfield 87, 3) := dc181 0 87 (by decide +kernel)
theorem dX9_init_222 : decode cX9_init 222 = .ok (.aload_n 0, 1) := dc42 (by decide +kernel)
theorem dX9_init_223 : decode cX9_init 223 = .ok (.bipush 12, 2) := dc16 12 (by decide +kernel) (by decide +kernel)
theorem dX9_init_225 : decode cX9_init 225 = .ok (.newarray .int, 2) := by decide +kernel
theorem dX9_init_227 : decode cX9_init 227 = .ok (.putfield 90, 3) := dc181 0 90 (by decide +kernel)
theorem dX9_init_230 : decode cX9_init 230 = .ok (.return_, 1) := dc177 (by decide +kernel)
