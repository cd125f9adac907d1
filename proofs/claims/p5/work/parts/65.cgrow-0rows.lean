set_option maxRecDepth 20000 in
theorem ggX3_grow_X3_markAt : GoodIn wsX3_grow wsX3_markAt := goodIn_sub (List.forall_mem_cons.mpr ⟨List.mem_cons_of_mem _ (List.mem_append_left _ (List.mem_of_getElem? (i := 6) rfl)), (fun w h => absurd h List.not_mem_nil)⟩) ga_wsX3_markAt
set_option maxRecDepth 20000 in
theorem gX3_grow_X3_markAt : GoodIn wsX3_grow (va_wsS RX3 28 yX3_markAt wsX3_markAt) := goodIn_app (goodIn_sub (List.forall_mem_cons.mpr ⟨List.mem_cons_of_mem _ (List.mem_append_left _ (List.mem_of_getElem? (i := 4) rfl)), (List.forall_mem_cons.mpr ⟨List.mem_cons_of_mem _ (List.mem_append_left _ (List.mem_of_getElem? (i := 5) rfl)), (List.forall_mem_cons.mpr ⟨List.mem_cons_of_mem _ (List.mem_append_left _ (List.mem_of_getElem? (i := 2) rfl)), (fun w h => absurd h List.not_mem_nil)⟩)⟩)⟩) (by decide +kernel)) ggX3_grow_X3_markAt
set_option maxRecDepth 20000 in
theorem ggX3_grow_X3_child : GoodIn wsX3_grow wsX3_child := goodIn_sub (List.forall_mem_cons.mpr ⟨List.mem_cons_of_mem _ (List.mem_append_left _ (List.mem_of_getElem? (i := 10) rfl)), (all_app (List.forall_mem_cons.mpr ⟨List.mem_cons_of_mem _ (List.mem_append_left _ (List.mem_of_getElem? (i := 3) rfl)), (List.forall_mem_cons.mpr ⟨List.mem_cons_of_mem _ (List.mem_append_left _ (List.mem_of_getElem? (i := 11) rfl)), (List.forall_mem_cons.mpr ⟨List.mem_cons_of_mem _ (List.mem_append_left _ (List.mem_of_getElem? (i := 12) rfl)), (fun w h => absurd h List.not_mem_nil)⟩)⟩)⟩) (fun w h => List.mem_cons_of_mem _ (List.mem_append_right _ (h))))⟩) ga_wsX3_child
set_option maxRecDepth 20000 in
theorem gX3_grow_X3_child : GoodIn wsX3_grow (wsV RX3 32 RX3 yX3_child wsX3_child) := goodIn_app (goodIn_sub (List.forall_mem_cons.mpr ⟨List.mem_cons_of_mem _ (List.mem_append_left _ (List.mem_of_getElem? (i := 7) rfl)), (List.forall_mem_cons.mpr ⟨List.mem_cons_of_mem _ (List.mem_append_left _ (List.mem_of_getElem? (i := 8) rfl)), (List.forall_mem_cons.mpr ⟨List.mem_cons_of_mem _ (List.mem_append_left _ (List.mem_of_getElem? (i := 9) rfl)), (List.forall_mem_cons.mpr ⟨List.mem_cons_of_mem _ (List.mem_append_left _ (List.mem_of_getElem? (i := 2) rfl)), (fun w h => absurd h List.not_mem_nil)⟩)⟩)⟩)⟩) (by decide +kernel)) ggX3_grow_X3_child
theorem ga_wsX3_init : wsX3_init.all goodWord = true := by decide +kernel
set_option maxRecDepth 20000 in
theorem ggX3_grow_X3_init : GoodIn wsX3_grow wsX3_init := goodIn_sub (List.forall_mem_cons.mpr ⟨List.mem_cons_of_mem _ (List.mem_append_left _ (List.mem_of_getElem? (i := 15) rfl)), (all_app (List.forall_mem_cons.mpr ⟨List.mem_cons_of_mem _ (List.mem_append_left _ (List.mem_of_getElem? (i := 16) rfl)), (List.forall_mem_cons.mpr ⟨List.mem_cons_of_mem _ (List.mem_append_left _ (List.mem_of_getElem? (i := 17) rfl)), (List.forall_mem_cons.mpr ⟨List.mem_cons_of_mem _ (List.mem_append_left _ (List.mem_of_getElem? (i := 18) rfl)), (List.forall_mem_cons.mpr ⟨List.mem_cons_of_mem _ (List.mem_append_left _ (List.mem_of_getElem? (i := 19) rfl)), (List.forall_mem_cons.mpr ⟨List.mem_cons_of_mem _ (List.mem_append_left _ (List.mem_of_getElem? (i := 20) rfl)), (List.forall_mem_cons.mpr ⟨List.mem_cons_of_mem _ (List.mem_append_left _ (List.mem_of_getElem? (i := 11) rfl)), (List.forall_mem_cons.mpr ⟨List.mem_cons_of_mem _ (List.mem_append_left _ (List.mem_of_getElem? (i := 12) rfl)), (fun w h => absurd h List.not_mem_nil)⟩)⟩)⟩)⟩)⟩)⟩)⟩) (fun w h => List.mem_cons_of_mem _ (List.mem_append_right _ (h))))⟩) ga_wsX3_init
set_option maxRecDepth 20000 in
theorem gX3_grow_X3_init : GoodIn wsX3_grow (wsX3_init) := ggX3_grow_X3_init
theorem dX3_grow_0 : decode cX3_grow 0 = .ok (.aload_n 0, 1) := dc42 (by decide +kernel)
theorem dX3_grow_1 : decode cX3_grow 1 = .ok (.astore_n 2, 1) := dc77 (by decide +kernel)
theorem dX3_grow_2 : decode cX3_grow 2 = .ok (.iconst 0, 1) := dc3 (by decide +kernel)
theorem dX3_grow_3 : decode cX3_grow 3 = .ok (.istore_n 3, 1) := dc62 (by decide +kernel)
theorem dX3_grow_4 : decode cX3_grow 4 = .ok (.iload_n 3, 1) := dc29 (by decide +kernel)
theorem dX3_grow_5 : decode cX3_grow 5 = .ok (.iconst 4, 1) := dc7 (by decide +kernel)
theorem dX3_grow_6 : decode cX3_grow 6 = .ok (.if_icmp .ge 54, 3) := dc162 0 54 (by decide +kernel) (by decide +kernel)
theorem dX3_grow_9 : decode cX3_grow 9 = .ok (.iload_n 1, 1) := dc27 (by decide +kernel)
theorem dX3_grow_10 : decode cX3_grow 10 = .ok (.iload_n 3, 1) := dc29 (by decide +kernel)
theorem dX3_grow_11 : decode cX3_grow 11 = .ok (.invokestatic 28, 3) := dc184 0 28 (by decide +kernel)
theorem dX3_grow_14 : decode cX3_grow 14 = .ok (.istore 4, 2) := dc54 4 (by decide +kernel)
theorem dX3_grow_16 : decode cX3_grow 16 = .ok (.aload_n 2, 1) := dc44 (by decide +kernel)
theorem dX3_grow_17 : decode cX3_grow 17 = .ok (.iload 4, 2) := dc21 4 (by decide +kernel)
theorem dX3_grow_19 : decode cX3_grow 19 = .ok (.invokevirtual 32, 3) := dc182 0 32 (by decide +kernel)
theorem dX3_grow_22 : decode cX3_grow 22 = .ok (.astore 5, 2) := dc58 5 (by decide +kernel)
theorem dX3_grow_24 : decode cX3_grow 24 = .ok (.aload 5, 2) := dc25 5 (by decide +kernel)
theorem dX3_grow_26 : decode cX3_grow 26 = .ok (.ifnonnull 25, 3) := dc199 0 25 (by decide +kernel) (by decide +kernel)
theorem dX3_grow_29 : decode cX3_grow 29 = .ok (.new 10, 3) := dc187 0 10 (by decide +kernel)
theorem dX3_grow_32 : decode cX3_grow 32 = .ok (.dup, 1) := dc89 (by decide +kernel)
theorem dX3_grow_33 : decode cX3_grow 33 = .ok (.aload_n 2, 1) := dc44 (by decide +kernel)
theorem dX3_grow_34 : decode cX3_grow 34 = .ok (.iload 4, 2) := dc21 4 (by decide +kernel)
theorem dX3_grow_36 : decode cX3_grow 36 = .ok (.aload_n 2, 1) := dc44 (by decide +kernel)
theorem dX3_grow_37 : decode cX3_grow 37 = .ok (.getfield 25, 3) := dc180 0 25 (by decide +kernel)
theorem dX3_grow_40 : decode cX3_grow 40 = .ok (.invokespecial 36, 3) := dc183 0 36 (by decide +kernel)
theorem dX3_grow_43 : decode cX3_grow 43 = .ok (.astore 5, 2) := dc58 5 (by decide +kernel)
theorem dX3_grow_45 : decode cX3_grow 45 = .ok (.aload_n 2, 1) := dc44 (by decide +kernel)
theorem dX3_grow_46 : decode cX3_grow 46 = .ok (.aload 5, 2) := dc25 5 (by decide +kernel)
theorem dX3_grow_48 : decode cX3_grow 48 = .ok (.putfield 25, 3) := dc181 0 25 (by decide +kernel)
theorem dX3_grow_51 : decode cX3_grow 51 = .ok (.aload 5, 2) := dc25 5 (by decide +kernel)
theorem dX3_grow_53 : decode cX3_grow 53 = .ok (.astore_n 2, 1) := dc77 (by decide +kernel)
theorem dX3_grow_54 : decode cX3_grow 54 = .ok (.iinc 3 1, 3) := dc132 3 1 (by decide +kernel) (by decide +kernel)
theorem dX3_grow_57 : decode cX3_grow 57 = .ok (.goto (-53), 3) := dc167 255 203 (by decide +kernel) (by decide +kernel)
theorem dX3_grow_60 : decode cX3_grow 60 = .ok (.aload_n 2, 1) := dc44 (by decide +kernel)
theorem dX3_grow_61 : decode cX3_grow 61 = .ok (.areturn, 1) := dc176 (by decide +kernel)
