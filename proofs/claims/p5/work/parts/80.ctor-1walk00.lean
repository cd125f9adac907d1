set_option maxHeartbeats 4000000 in
set_option maxRecDepth 100000 in
theorem k_X3_initA (l : Launch) (D : va_G) (sz : Nat) (h0 : Nat) (mk : Int32) : Met l yX3_init wsX3_init ({ frames := 1, cells := 0, slots := 0, locals := 12 }) (va_Pc [.ref h0, .null, .int mk, .null] (wz sz D [] [oC h0 3 [.null, .int 0, .int 0, .null, .null, .int 0, .int 0, .int 0]])) (va_Qv (fun (_ : Unit) => True) (fun _ t => wp D [] (va_A [oC h0 3 [.null, .int 0, .int 0, .null, .null, .int 0, .int 0, .int 0]] sz) [oC h0 3 [.null, .int 0, .int mk, .null, .null, .int 0, .int 0, .int 0]] t) (va_A [oC h0 3 [.null, .int 0, .int 0, .null, .null, .int 0, .int 0, .int 0]] sz)) 0 0 (va_A [oC h0 3 [.null, .int 0, .int 0, .null, .null, .int 0, .int 0, .int 0]] sz) := by
  refine Met.ofW (cc := cX3_init) (maxL := 4) (ret := none) (by decide) rfl ?_
  intro p e s m args below meth c s₁ B hml hv
  obtain ⟨rfl, hsz, hP, hK, hD0, hN⟩ := hv
  have hx := B.exec
  have hb := B.bytes
  have hr := B.returns
  have hts := atoms_spec (ws := wsX3_init) B.pre
  have hown : s.vm.findClass RX3 = some m.cls := findClass_of_methodNamed B.named
  have hlocks := B.notSynchronized
  have hnm : meth.name = "<init>" := (name_of_methodNamed B.named B.method).1
  subst hsz
  have hD := hD0.self (sz := s.heap.size)
  generalize hAe : va_A [oC h0 3 [.null, .int 0, .int 0, .null, .null, .int 0, .int 0, .int 0]] s.heap.size = A at hD ⊢
  have hA : ∀ q : Nat, s.heap.size ≤ q → A q := fun q h => by rw [← hAe]; exact Or.inr h
  have hS : va_S A s.heap s.heap [] := va_S.rf
  have hin_X3 : ∀ w ∈ u_ws RX3 TX3 8, w ∈ wsX3_init := by decide +kernel
  have hl := lv_entry ([.ref h0, .null, .int mk, .null]) (n := 4) (Nat.le_of_ble_eq_true rfl)
  rw [lg_entry_eq]
  generalize (lg_sl ([.ref h0, .null, .int mk, .null]) ++ List.replicate (4 - (lg_sl ([.ref h0, .null, .int mk, .null])).length) Slot.unset).toArray = ls at hl ⊢
  have hl : lv_has ls 4 [(0, .ref h0), (1, .null), (2, .int mk), (3, .null)] := hl
  refine lv_aload_n hx hb dX3_init_0 rfl (lv_at hl 0 rfl) ?_
  refine W.objInit hx hb hown (hts (.methodLink RX3 3 objectInit) (by decide +kernel)) (hts (.instanceMethod objectInit) (by decide +kernel)) (hts (.code objectInit ⟨#[0xb1]⟩ 1 none) (by decide +kernel)) rfl (by rw [hml]; exact hl.1) rfl dX3_init_1 (Nat.le_of_ble_eq_true rfl) (Nat.le_of_ble_eq_true rfl) ?_
  refine W.eq (g2 := F0 m 4 ls []) rfl ?_
  refine lv_aload_n hx hb dX3_init_4 rfl (lv_at hl 0 rfl) ?_
  refine lv_aload_nN hx hb dX3_init_5 rfl (lv_at hl 1 rfl) ?_
  refine va_putF (D := D) (ci := 3) (v := .null) (ty := .object "CryOrder$Node") (C := RX3) (T := TX3) (N := 8) hx hb hts hin_X3 tyX3 tyX3_ok nmX3 hown hK hP hD hS 0 rfl rfl 0 (by decide) (hts (.fieldLink RX3 9 "CryOrder$Node" "parent" "LCryOrder$Node;") (by decide +kernel)) (fun _ h9 => h9) rfl hnm rfl (by decide +kernel) rfl rfl (Nat.le_of_ble_eq_true rfl) dX3_init_6 (fun H_1 locs hP hD hS => ?_)
  have hP : va_P D vwCl [oC h0 3 [.null, .int 0, .int 0, .null, .null, .int 0, .int 0, .int 0]] H_1 := hP
  have hD : va_D A [oC h0 3 [.null, .int 0, .int 0, .null, .null, .int 0, .int 0, .int 0]] := hD
  refine lv_aload_n hx hb dX3_init_9 rfl (lv_at hl 0 rfl) ?_
  refine lv_aload_nN hx hb dX3_init_10 rfl (lv_at hl 1 rfl) ?_
  refine lv_ifnonnullN hx hb dX3_init_11 ?_
  refine lv_iconst (v := 0) hx hb dX3_init_14 (by decide) ?_
  refine lv_goto (tgt := 24) hx hb dX3_init_15 (by decide) ?_
  refine va_putF (D := D) (ci := 3) (v := .int 0) (ty := .int) (C := RX3) (T := TX3) (N := 8) hx hb hts hin_X3 tyX3 tyX3_ok nmX3 hown hK hP hD hS 0 rfl rfl 1 (by decide) (hts (.fieldLink RX3 15 "CryOrder$Node" "depth" "I") (by decide +kernel)) (fun _ h9 => h9) rfl hnm rfl (by decide +kernel) rfl rfl (Nat.le_of_ble_eq_true rfl) dX3_init_24 (fun H_2 locs hP hD hS => ?_)
  have hP : va_P D vwCl [oC h0 3 [.null, .int 0, .int 0, .null, .null, .int 0, .int 0, .int 0]] H_2 := hP
  have hD : va_D A [oC h0 3 [.null, .int 0, .int 0, .null, .null, .int 0, .int 0, .int 0]] := hD
  refine lv_aload_n hx hb dX3_init_27 rfl (lv_at hl 0 rfl) ?_
  refine lv_iload_n hx hb dX3_init_28 rfl (lv_at hl 2 rfl) ?_
  refine va_putF (D := D) (ci := 3) (v := .int mk) (ty := .int) (C := RX3) (T := TX3) (N := 8) hx hb hts hin_X3 tyX3 tyX3_ok nmX3 hown hK hP hD hS 0 rfl rfl 2 (by decide) (hts (.fieldLink RX3 19 "CryOrder$Node" "mark" "I") (by decide +kernel)) (fun _ h9 => h9) rfl hnm rfl (by decide +kernel) rfl rfl (Nat.le_of_ble_eq_true rfl) dX3_init_29 (fun H_3 locs hP hD hS => ?_)
  have hP : va_P D vwCl [oC h0 3 [.null, .int 0, .int mk, .null, .null, .int 0, .int 0, .int 0]] H_3 := hP
  have hD : va_D A [oC h0 3 [.null, .int 0, .int mk, .null, .null, .int 0, .int 0, .int 0]] := hD
  refine lv_aload_n hx hb dX3_init_32 rfl (lv_at hl 0 rfl) ?_
  refine lv_aload_nN hx hb dX3_init_33 rfl (lv_at hl 3 rfl) ?_
  refine va_putF (D := D) (ci := 3) (v := .null) (ty := .object "CryOrder$Node") (C := RX3) (T := TX3) (N := 8) hx hb hts hin_X3 tyX3 tyX3_ok nmX3 hown hK hP hD hS 0 rfl rfl 3 (by decide) (hts (.fieldLink RX3 22 "CryOrder$Node" "sibling" "LCryOrder$Node;") (by decide +kernel)) (fun _ h9 => h9) rfl hnm rfl (by decide +kernel) rfl rfl (Nat.le_of_ble_eq_true rfl) dX3_init_34 (fun H_4 locs hP hD hS => ?_)
  have hP : va_P D vwCl [oC h0 3 [.null, .int 0, .int mk, .null, .null, .int 0, .int 0, .int 0]] H_4 := hP
  have hD : va_D A [oC h0 3 [.null, .int 0, .int mk, .null, .null, .int 0, .int 0, .int 0]] := hD
  refine W.widen (k := 0) (n := 0) (Nat.le_of_ble_eq_true rfl) (Nat.le_of_ble_eq_true rfl) ?_
  have hP9 := hP.sub (ws' := [oC h0 3 [.null, .int 0, .int mk, .null, .null, .int 0, .int 0, .int 0]]) [0] rfl
  have hD9 := hD.sub (ws' := [oC h0 3 [.null, .int 0, .int mk, .null, .null, .int 0, .int 0, .int 0]]) [0] (by decide) rfl
  have hK9 := hK.sub (tys' := []) [] rfl
  exact W.vret hx hb hr (fun t ht hW => ⟨⟨(), rfl, trivial, by rw [ht]; exact hP9, va_K.moved hW.alike hK9, hD9⟩, hS.F ht⟩) hS.2.2 dX3_init_37

set_option maxHeartbeats 4000000 in
set_option maxRecDepth 100000 in
theorem k_X7_init (l : Launch) (D : va_G) (sz : Nat) (h0 : Nat) : Met l yX7_init wsX7_init ({ frames := 1, cells := 1, slots := 60, locals := 12 }) (va_Pc [.ref h0] (wz sz D [] [oC h0 7 [.null, .int 0]])) (va_Qv (fun (_ : Unit) => True) (fun _ t => ∃ (q1 : Nat), ∃ (cA1 : ClassId), wp D [(cA1, .object RX4)] (va_A [oC h0 7 [.null, .int 0]] sz) [oC h0 7 [.ref q1, .int 0], aR q1 cA1 60 (fun _ => none)] t) (va_A [oC h0 7 [.null, .int 0]] sz)) 1 60 (va_A [oC h0 7 [.null, .int 0]] sz) := by
  refine Met.ofW (cc := cX7_init) (maxL := 1) (ret := none) (by decide) rfl ?_
  intro p e s m args below meth c s₁ B hml hv
  obtain ⟨rfl, hsz, hP, hK, hD0, hN⟩ := hv
  have hx := B.exec
  have hb := B.bytes
  have hr := B.returns
  have hts := atoms_spec (ws := wsX7_init) B.pre
  have hown : s.vm.findClass RX7 = some m.cls := findClass_of_methodNamed B.named
  have hlocks := B.notSynchronized
  have hnm : meth.name = "<init>" := (name_of_methodNamed B.named B.method).1
  subst hsz
  have hD := hD0.self (sz := s.heap.size)
  generalize hAe : va_A [oC h0 7 [.null, .int 0]] s.heap.size = A at hD ⊢
  have hA : ∀ q : Nat, s.heap.size ≤ q → A q := fun q h => by rw [← hAe]; exact Or.inr h
  have hS : va_S A s.heap s.heap [] := va_S.rf
  have hin_X7 : ∀ w ∈ u_ws RX7 TX7 2, w ∈ wsX7_init := by decide +kernel
  have hl := lv_entry ([.ref h0]) (n := 1) (Nat.le_of_ble_eq_true rfl)
  rw [lg_entry_eq]
  generalize (lg_sl ([.ref h0]) ++ List.replicate (1 - (lg_sl ([.ref h0])).length) Slot.unset).toArray = ls at hl ⊢
  have hl : lv_has ls 1 [(0, .ref h0)] := hl
  refine lv_aload_n hx hb dX7_init_0 rfl (lv_at hl 0 rfl) ?_
  refine W.objInit hx hb hown (hts (.methodLink RX7 3 objectInit) (by decide +kernel)) (hts (.instanceMethod objectInit) (by decide +kernel)) (hts (.code objectInit ⟨#[0xb1]⟩ 1 none) (by decide +kernel)) rfl (by rw [hml]; exact hl.1) rfl dX7_init_1 (Nat.le_of_ble_eq_true rfl) (Nat.le_of_ble_eq_true rfl) ?_
  refine W.eq (g2 := F0 m 4 ls []) rfl ?_
  refine lv_aload_n hx hb dX7_init_4 rfl (lv_at hl 0 rfl) ?_
  refine lv_bipush (v := 60) hx hb dX7_init_5 (by decide) ?_
  refine va_newq (N' := 60) hx hb hown (hts (.classLink RX7 9 RX4) (by decide +kernel)) hN.1.2.2.1 hK hP hD hS hA (by decide) (by decide) (by decide) (Nat.le_of_ble_eq_true rfl) (Nat.le_of_ble_eq_true rfl) dX7_init_7 (fun q_1 cA_2 H_3 hK hP hD hS => ?_)
  have hP : va_P D vwCl [oC h0 7 [.null, .int 0], aR q_1 cA_2 60 (fun _ => none)] H_3 := hP
  have hD : va_D A [oC h0 7 [.null, .int 0], aR q_1 cA_2 60 (fun _ => none)] := hD
  have hK : va_K D vwCl [(cA_2, .object RX4)] s := hK
  refine va_putF (D := D) (ci := 7) (v := .ref q_1) (ty := .array (.object "CryOrder$Pair")) (C := RX7) (T := TX7) (N := 2) hx hb hts hin_X7 tyX7 tyX7_ok nmX7 hown hK hP hD hS 0 rfl rfl 0 (by decide) (hts (.fieldLink RX7 11 "CryOrder$Ties" "pairs" "[LCryOrder$Pair;") (by decide +kernel)) (fun _ h9 => h9) rfl hnm rfl (by decide +kernel) rfl rfl (Nat.le_of_ble_eq_true rfl) dX7_init_10 (fun H_4 locs hP hD hS => ?_)
  have hP : va_P D vwCl [oC h0 7 [.ref q_1, .int 0], aR q_1 cA_2 60 (fun _ => none)] H_4 := hP
  have hD : va_D A [oC h0 7 [.ref q_1, .int 0], aR q_1 cA_2 60 (fun _ => none)] := hD
  refine W.widen (k := 1) (n := 60) (Nat.le_of_ble_eq_true rfl) (Nat.le_of_ble_eq_true rfl) ?_
  have hP9 := hP.sub (ws' := [oC h0 7 [.ref q_1, .int 0], aR q_1 cA_2 60 (fun _ => none)]) [0, 1] rfl
  have hD9 := hD.sub (ws' := [oC h0 7 [.ref q_1, .int 0], aR q_1 cA_2 60 (fun _ => none)]) [0, 1] (by decide) rfl
  have hK9 := hK.sub (tys' := [(cA_2, .object RX4)]) [0] rfl
  exact W.vret hx hb hr (fun t ht hW => ⟨⟨(), rfl, trivial, q_1, cA_2, by rw [ht]; exact hP9, va_K.moved hW.alike hK9, hD9⟩, hS.F ht⟩) hS.2.2 dX7_init_13

set_option maxHeartbeats 4000000 in
set_option maxRecDepth 100000 in
theorem k_X2_init (l : Launch) (D : va_G) (sz : Nat) (h0 : Nat) : Met l yX2_init wsX2_init ({ frames := 1, cells := 1, slots := 200, locals := 12 }) (va_Pc [.ref h0] (wz sz D [] [oC h0 2 [.null, .int 0]])) (va_Qv (fun (_ : Unit) => True) (fun _ t => ∃ (q1 : Nat), ∃ (cA1 : ClassId), wp D [(cA1, .object RX1)] (va_A [oC h0 2 [.null, .int 0]] sz) [oC h0 2 [.ref q1, .int 0], aR q1 cA1 200 (fun _ => none)] t) (va_A [oC h0 2 [.null, .int 0]] sz)) 1 200 (va_A [oC h0 2 [.null, .int 0]] sz) := by
  refine Met.ofW (cc := cX2_init) (maxL := 1) (ret := none) (by decide) rfl ?_
  intro p e s m args below meth c s₁ B hml hv
  obtain ⟨rfl, hsz, hP, hK, hD0, hN⟩ := hv
  have hx := B.exec
  have hb := B.bytes
  have hr := B.returns
  have hts := atoms_spec (ws := wsX2_init) B.pre
  have hown : s.vm.findClass RX2 = some m.cls := findClass_of_methodNamed B.named
  have hlocks := B.notSynchronized
  have hnm : meth.name = "<init>" := (name_of_methodNamed B.named B.method).1
  subst hsz
  have hD := hD0.self (sz := s.heap.size)
  generalize hAe : va_A [oC h0 2 [.null, .int 0]] s.heap.size = A at hD ⊢
  have hA : ∀ q : Nat, s.heap.size ≤ q → A q := fun q h => by rw [← hAe]; exact Or.inr h
  have hS : va_S A s.heap s.heap [] := va_S.rf
  have hin_X2 : ∀ w ∈ u_ws RX2 TX2 2, w ∈ wsX2_init := by decide +kernel
  have hl := lv_entry ([.ref h0]) (n := 1) (Nat.le_of_ble_eq_true rfl)
  rw [lg_entry_eq]
  generalize (lg_sl ([.ref h0]) ++ List.replicate (1 - (lg_sl ([.ref h0])).length) Slot.unset).toArray = ls at hl ⊢
  have hl : lv_has ls 1 [(0, .ref h0)] := hl
  refine lv_aload_n hx hb dX2_init_0 rfl (lv_at hl 0 rfl) ?_
  refine W.objInit hx hb hown (hts (.methodLink RX2 3 objectInit) (by decide +kernel)) (hts (.instanceMethod objectInit) (by decide +kernel)) (hts (.code objectInit ⟨#[0xb1]⟩ 1 none) (by decide +kernel)) rfl (by rw [hml]; exact hl.1) rfl dX2_init_1 (Nat.le_of_ble_eq_true rfl) (Nat.le_of_ble_eq_true rfl) ?_
  refine W.eq (g2 := F0 m 4 ls []) rfl ?_
  refine lv_aload_n hx hb dX2_init_4 rfl (lv_at hl 0 rfl) ?_
  refine lv_sipush (v := 200) hx hb dX2_init_5 (by decide) ?_
  refine va_newq (N' := 200) hx hb hown (hts (.classLink RX2 9 RX1) (by decide +kernel)) hN.1.2.1 hK hP hD hS hA (by decide) (by decide) (by decide) (Nat.le_of_ble_eq_true rfl) (Nat.le_of_ble_eq_true rfl) dX2_init_8 (fun q_1 cA_2 H_3 hK hP hD hS => ?_)
  have hP : va_P D vwCl [oC h0 2 [.null, .int 0], aR q_1 cA_2 200 (fun _ => none)] H_3 := hP
  have hD : va_D A [oC h0 2 [.null, .int 0], aR q_1 cA_2 200 (fun _ => none)] := hD
  have hK : va_K D vwCl [(cA_2, .object RX1)] s := hK
  refine va_putF (D := D) (ci := 2) (v := .ref q_1) (ty := .array (.object "CryOrder$Case")) (C := RX2) (T := TX2) (N := 2) hx hb hts hin_X2 tyX2 tyX2_ok nmX2 hown hK hP hD hS 0 rfl rfl 0 (by decide) (hts (.fieldLink RX2 11 "CryOrder$Cases" "ordered" "[LCryOrder$Case;") (by decide +kernel)) (fun _ h9 => h9) rfl hnm rfl (by decide +kernel) rfl rfl (Nat.le_of_ble_eq_true rfl) dX2_init_11 (fun H_4 locs hP hD hS => ?_)
  have hP : va_P D vwCl [oC h0 2 [.ref q_1, .int 0], aR q_1 cA_2 200 (fun _ => none)] H_4 := hP
  have hD : va_D A [oC h0 2 [.ref q_1, .int 0], aR q_1 cA_2 200 (fun _ => none)] := hD
  refine W.widen (k := 1) (n := 200) (Nat.le_of_ble_eq_true rfl) (Nat.le_of_ble_eq_true rfl) ?_
  have hP9 := hP.sub (ws' := [oC h0 2 [.ref q_1, .int 0], aR q_1 cA_2 200 (fun _ => none)]) [0, 1] rfl
  have hD9 := hD.sub (ws' := [oC h0 2 [.ref q_1, .int 0], aR q_1 cA_2 200 (fun _ => none)]) [0, 1] (by decide) rfl
  have hK9 := hK.sub (tys' := [(cA_2, .object RX1)]) [0] rfl
  exact W.vret hx hb hr (fun t ht hW => ⟨⟨(), rfl, trivial, q_1, cA_2, by rw [ht]; exact hP9, va_K.moved hW.alike hK9, hD9⟩, hS.F ht⟩) hS.2.2 dX2_init_14

set_option maxHeartbeats 4000000 in
set_option maxRecDepth 100000 in
theorem k_X5_init (l : Launch) (D : va_G) (sz : Nat) (h0 : Nat) : Met l yX5_init wsX5_init ({ frames := 1, cells := 4, slots := 631, locals := 12 }) (va_Pc [.ref h0] (wz sz D [] [oC h0 5 [.null, .null, .null, .null, .int 0, .int 0, .int 0, .int 0]])) (va_Qv (fun (_ : Unit) => True) (fun _ t => ∃ (q1 : Nat), ∃ (cA1 : ClassId), ∃ (q2 : Nat), ∃ (cA2 : ClassId), ∃ (q3 : Nat), ∃ (cA3 : ClassId), ∃ (q4 : Nat), ∃ (cA4 : ClassId), wp D [(cA1, .object RX1), (cA2, .object RX1), (cA3, .int), (cA4, .int)] (va_A [oC h0 5 [.null, .null, .null, .null, .int 0, .int 0, .int 0, .int 0]] sz) [oC h0 5 [.ref q1, .ref q2, .ref q3, .ref q4, .int 0, .int 0, .int 0, .int 0], aR q1 cA1 17 (fun _ => none), aR q2 cA2 12 (fun _ => none), aI q3 cA3 301 (fun _ => 0), aI q4 cA4 301 (fun _ => 0)] t) (va_A [oC h0 5 [.null, .null, .null, .null, .int 0, .int 0, .int 0, .int 0]] sz)) 4 631 (va_A [oC h0 5 [.null, .null, .null, .null, .int 0, .int 0, .int 0, .int 0]] sz) := by
  refine Met.ofW (cc := cX5_init) (maxL := 1) (ret := none) (by decide) rfl ?_
  intro p e s m args below meth c s₁ B hml hv
  obtain ⟨rfl, hsz, hP, hK, hD0, hN⟩ := hv
  have hx := B.exec
  have hb := B.bytes
  have hr := B.returns
  have hts := atoms_spec (ws := wsX5_init) B.pre
  have hown : s.vm.findClass RX5 = some m.cls := findClass_of_methodNamed B.named
  have hlocks := B.notSynchronized
  have hnm : meth.name = "<init>" := (name_of_methodNamed B.named B.method).1
  subst hsz
  have hD := hD0.self (sz := s.heap.size)
  generalize hAe : va_A [oC h0 5 [.null, .null, .null, .null, .int 0, .int 0, .int 0, .int 0]] s.heap.size = A at hD ⊢
  have hA : ∀ q : Nat, s.heap.size ≤ q → A q := fun q h => by rw [← hAe]; exact Or.inr h
  have hS : va_S A s.heap s.heap [] := va_S.rf
  have hin_X5 : ∀ w ∈ u_ws RX5 TX5 8, w ∈ wsX5_init := by decide +kernel
  have hl := lv_entry ([.ref h0]) (n := 1) (Nat.le_of_ble_eq_true rfl)
  rw [lg_entry_eq]
  generalize (lg_sl ([.ref h0]) ++ List.replicate (1 - (lg_sl ([.ref h0])).length) Slot.unset).toArray = ls at hl ⊢
  have hl : lv_has ls 1 [(0, .ref h0)] := hl
  refine lv_aload_n hx hb dX5_init_0 rfl (lv_at hl 0 rfl) ?_
  refine W.objInit hx hb hown (hts (.methodLink RX5 3 objectInit) (by decide +kernel)) (hts (.instanceMethod objectInit) (by decide +kernel)) (hts (.code objectInit ⟨#[0xb1]⟩ 1 none) (by decide +kernel)) rfl (by rw [hml]; exact hl.1) rfl dX5_init_1 (Nat.le_of_ble_eq_true rfl) (Nat.le_of_ble_eq_true rfl) ?_
  refine W.eq (g2 := F0 m 4 ls []) rfl ?_
  refine lv_aload_n hx hb dX5_init_4 rfl (lv_at hl 0 rfl) ?_
  refine lv_bipush (v := 17) hx hb dX5_init_5 (by decide) ?_
  refine va_newq (N' := 17) hx hb hown (hts (.classLink RX5 9 RX1) (by decide +kernel)) hN.1.2.1 hK hP hD hS hA (by decide) (by decide) (by decide) (Nat.le_of_ble_eq_true rfl) (Nat.le_of_ble_eq_true rfl) dX5_init_7 (fun q_1 cA_2 H_3 hK hP hD hS => ?_)
  have hP : va_P D vwCl [oC h0 5 [.null, .null, .null, .null, .int 0, .int 0, .int 0, .int 0], aR q_1 cA_2 17 (fun _ => none)] H_3 := hP
  have hD : va_D A [oC h0 5 [.null, .null, .null, .null, .int 0, .int 0, .int 0, .int 0], aR q_1 cA_2 17 (fun _ => none)] := hD
  have hK : va_K D vwCl [(cA_2, .object RX1)] s := hK
  refine va_putF (D := D) (ci := 5) (v := .ref q_1) (ty := .array (.object "CryOrder$Case")) (C := RX5) (T := TX5) (N := 8) hx hb hts hin_X5 tyX5 tyX5_ok nmX5 hown hK hP hD hS 0 rfl rfl 0 (by decide) (hts (.fieldLink RX5 11 "CryOrder$Plan" "taken" "[LCryOrder$Case;") (by decide +kernel)) (fun _ h9 => h9) rfl hnm rfl (by decide +kernel) rfl rfl (Nat.le_of_ble_eq_true rfl) dX5_init_10 (fun H_4 locs hP hD hS => ?_)
  have hP : va_P D vwCl [oC h0 5 [.ref q_1, .null, .null, .null, .int 0, .int 0, .int 0, .int 0], aR q_1 cA_2 17 (fun _ => none)] H_4 := hP
  have hD : va_D A [oC h0 5 [.ref q_1, .null, .null, .null, .int 0, .int 0, .int 0, .int 0], aR q_1 cA_2 17 (fun _ => none)] := hD
  refine lv_aload_n hx hb dX5_init_13 rfl (lv_at hl 0 rfl) ?_
  refine lv_bipush (v := 12) hx hb dX5_init_14 (by decide) ?_
  refine va_newq (N' := 12) hx hb hown (hts (.classLink RX5 9 RX1) (by decide +kernel)) hN.1.2.1 hK hP hD hS hA (by decide) (by decide) (by decide) (Nat.le_of_ble_eq_true rfl) (Nat.le_of_ble_eq_true rfl) dX5_init_16 (fun q_5 cA_6 H_7 hK hP hD hS => ?_)
  have hP : va_P D vwCl [oC h0 5 [.ref q_1, .null, .null, .null, .int 0, .int 0, .int 0, .int 0], aR q_1 cA_2 17 (fun _ => none), aR q_5 cA_6 12 (fun _ => none)] H_7 := hP
  have hD : va_D A [oC h0 5 [.ref q_1, .null, .null, .null, .int 0, .int 0, .int 0, .int 0], aR q_1 cA_2 17 (fun _ => none), aR q_5 cA_6 12 (fun _ => none)] := hD
  have hK : va_K D vwCl [(cA_2, .object RX1), (cA_6, .object RX1)] s := hK
  refine va_putF (D := D) (ci := 5) (v := .ref q_5) (ty := .array (.object "CryOrder$Case")) (C := RX5) (T := TX5) (N := 8) hx hb hts hin_X5 tyX5 tyX5_ok nmX5 hown hK hP hD hS 0 rfl rfl 1 (by decide) (hts (.fieldLink RX5 17 "CryOrder$Plan" "pool" "[LCryOrder$Case;") (by decide +kernel)) (fun _ h9 => h9) rfl hnm rfl (by decide +kernel) rfl rfl (Nat.le_of_ble_eq_true rfl) dX5_init_19 (fun H_8 locs hP hD hS => ?_)
  have hP : va_P D vwCl [oC h0 5 [.ref q_1, .ref q_5, .null, .null, .int 0, .int 0, .int 0, .int 0], aR q_1 cA_2 17 (fun _ => none), aR q_5 cA_6 12 (fun _ => none)] H_8 := hP
  have hD : va_D A [oC h0 5 [.ref q_1, .ref q_5, .null, .null, .int 0, .int 0, .int 0, .int 0], aR q_1 cA_2 17 (fun _ => none), aR q_5 cA_6 12 (fun _ => none)] := hD
  refine lv_aload_n hx hb dX5_init_22 rfl (lv_at hl 0 rfl) ?_
  refine lv_sipush (v := 301) hx hb dX5_init_23 (by decide) ?_
  refine va_newa (atype := .int) (N' := 301) (ty := .int) (a0 := (301, .inl (fun _ => 0))) hx hb (hts (.arrayClass .int) (by decide +kernel)) rfl hK hP hD hS hA (ar_I 301) (by decide) (by decide) (by decide) (Nat.le_of_ble_eq_true rfl) (Nat.le_of_ble_eq_true rfl) dX5_init_26 (fun q_9 cA_10 H_11 hK hP hD hS => ?_)
  have hP : va_P D vwCl [oC h0 5 [.ref q_1, .ref q_5, .null, .null, .int 0, .int 0, .int 0, .int 0], aR q_1 cA_2 17 (fun _ => none), aR q_5 cA_6 12 (fun _ => none), aI q_9 cA_10 301 (fun _ => 0)] H_11 := hP
  have hD : va_D A [oC h0 5 [.ref q_1, .ref q_5, .null, .null, .int 0, .int 0, .int 0, .int 0], aR q_1 cA_2 17 (fun _ => none), aR q_5 cA_6 12 (fun _ => none), aI q_9 cA_10 301 (fun _ => 0)] := hD
  have hK : va_K D vwCl [(cA_2, .object RX1), (cA_6, .object RX1), (cA_10, .int)] s := hK
  refine va_putF (D := D) (ci := 5) (v := .ref q_9) (ty := .array (.int)) (C := RX5) (T := TX5) (N := 8) hx hb hts hin_X5 tyX5 tyX5_ok nmX5 hown hK hP hD hS 0 rfl rfl 2 (by decide) (hts (.fieldLink RX5 20 "CryOrder$Plan" "best" "[I") (by decide +kernel)) (fun _ h9 => h9) rfl hnm rfl (by decide +kernel) rfl rfl (Nat.le_of_ble_eq_true rfl) dX5_init_28 (fun H_12 locs hP hD hS => ?_)
  have hP : va_P D vwCl [oC h0 5 [.ref q_1, .ref q_5, .ref q_9, .null, .int 0, .int 0, .int 0, .int 0], aR q_1 cA_2 17 (fun _ => none), aR q_5 cA_6 12 (fun _ => none), aI q_9 cA_10 301 (fun _ => 0)] H_12 := hP
  have hD : va_D A [oC h0 5 [.ref q_1, .ref q_5, .ref q_9, .null, .int 0, .int 0, .int 0, .int 0], aR q_1 cA_2 17 (fun _ => none), aR q_5 cA_6 12 (fun _ => none), aI q_9 cA_10 301 (fun _ => 0)] := hD
  refine lv_aload_n hx hb dX5_init_31 rfl (lv_at hl 0 rfl) ?_
  refine lv_sipush (v := 301) hx hb dX5_init_32 (by decide) ?_
  refine va_newa (atype := .int) (N' := 301) (ty := .int) (a0 := (301, .inl (fun _ => 0))) hx hb (hts (.arrayClass .int) (by decide +kernel)) rfl hK hP hD hS hA (ar_I 301) (by decide) (by decide) (by decide) (Nat.le_of_ble_eq_true rfl) (Nat.le_of_ble_eq_true rfl) dX5_init_35 (fun q_13 cA_14 H_15 hK hP hD hS => ?_)
  have hP : va_P D vwCl [oC h0 5 [.ref q_1, .ref q_5, .ref q_9, .null, .int 0, .int 0, .int 0, .int 0], aR q_1 cA_2 17 (fun _ => none), aR q_5 cA_6 12 (fun _ => none), aI q_9 cA_10 301 (fun _ => 0), aI q_13 cA_14 301 (fun _ => 0)] H_15 := hP
  have hD : va_D A [oC h0 5 [.ref q_1, .ref q_5, .ref q_9, .null, .int 0, .int 0, .int 0, .int 0], aR q_1 cA_2 17 (fun _ => none), aR q_5 cA_6 12 (fun _ => none), aI q_9 cA_10 301 (fun _ => 0), aI q_13 cA_14 301 (fun _ => 0)] := hD
  have hK : va_K D vwCl [(cA_2, .object RX1), (cA_6, .object RX1), (cA_10, .int), (cA_14, .int)] s := hK
  refine va_putF (D := D) (ci := 5) (v := .ref q_13) (ty := .array (.int)) (C := RX5) (T := TX5) (N := 8) hx hb hts hin_X5 tyX5 tyX5_ok nmX5 hown hK hP hD hS 0 rfl rfl 3 (by decide) (hts (.fieldLink RX5 24 "CryOrder$Plan" "needed" "[I") (by decide +kernel)) (fun _ h9 => h9) rfl hnm rfl (by decide +kernel) rfl rfl (Nat.le_of_ble_eq_true rfl) dX5_init_37 (fun H_16 locs hP hD hS => ?_)
  have hP : va_P D vwCl [oC h0 5 [.ref q_1, .ref q_5, .ref q_9, .ref q_13, .int 0, .int 0, .int 0, .int 0], aR q_1 cA_2 17 (fun _ => none), aR q_5 cA_6 12 (fun _ => none), aI q_9 cA_10 301 (fun _ => 0), aI q_13 cA_14 301 (fun _ => 0)] H_16 := hP
  have hD : va_D A [oC h0 5 [.ref q_1, .ref q_5, .ref q_9, .ref q_13, .int 0, .int 0, .int 0, .int 0], aR q_1 cA_2 17 (fun _ => none), aR q_5 cA_6 12 (fun _ => none), aI q_9 cA_10 301 (fun _ => 0), aI q_13 cA_14 301 (fun _ => 0)] := hD
  refine W.widen (k := 4) (n := 631) (Nat.le_of_ble_eq_true rfl) (Nat.le_of_ble_eq_true rfl) ?_
  have hP9 := hP.sub (ws' := [oC h0 5 [.ref q_1, .ref q_5, .ref q_9, .ref q_13, .int 0, .int 0, .int 0, .int 0], aR q_1 cA_2 17 (fun _ => none), aR q_5 cA_6 12 (fun _ => none), aI q_9 cA_10 301 (fun _ => 0), aI q_13 cA_14 301 (fun _ => 0)]) [0, 1, 2, 3, 4] rfl
  have hD9 := hD.sub (ws' := [oC h0 5 [.ref q_1, .ref q_5, .ref q_9, .ref q_13, .int 0, .int 0, .int 0, .int 0], aR q_1 cA_2 17 (fun _ => none), aR q_5 cA_6 12 (fun _ => none), aI q_9 cA_10 301 (fun _ => 0), aI q_13 cA_14 301 (fun _ => 0)]) [0, 1, 2, 3, 4] (by decide) rfl
  have hK9 := hK.sub (tys' := [(cA_2, .object RX1), (cA_6, .object RX1), (cA_10, .int), (cA_14, .int)]) [0, 1, 2, 3] rfl
  exact W.vret hx hb hr (fun t ht hW => ⟨⟨(), rfl, trivial, q_1, cA_2, q_5, cA_6, q_9, cA_10, q_13, cA_14, by rw [ht]; exact hP9, va_K.moved hW.alike hK9, hD9⟩, hS.F ht⟩) hS.2.2 dX5_init_40
