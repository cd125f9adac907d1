set_option maxHeartbeats 4000000 in
set_option maxRecDepth 100000 in
theorem k_X3_initA (l : Launch) (D : va_G) (sz : Nat) (h0 : Nat) (mk : Int32) : Met l yX3_init wsX3_init ({ frames := 1, cells := 0, slots := 0, locals := 12 }) (va_Pc [.ref h0, .null, .int mk, .null] (wz sz D [] [(h0, .inr (3, [.null, .int 0, .int 0, .null, .null, .int 0, .int 0, .int 0]))])) (va_Qv (fun (_ : Unit) => True) (fun _ t => wp D [] (va_A [(h0, .inr (3, [.null, .int 0, .int 0, .null, .null, .int 0, .int 0, .int 0]))] sz) [(h0, .inr (3, [.null, .int 0, .int mk, .null, .null, .int 0, .int 0, .int 0]))] t) (va_A [(h0, .inr (3, [.null, .int 0, .int 0, .null, .null, .int 0, .int 0, .int 0]))] sz)) 0 0 (va_A [(h0, .inr (3, [.null, .int 0, .int 0, .null, .null, .int 0, .int 0, .int 0]))] sz) := by
  refine Met.ofW (cc := cX3_init) (maxL := 4) (ret := none) (by decide) rfl ?_
  intro p e s m args below meth c s₁ B hml hv
  obtain ⟨rfl, hsz, hP, hK, hD0, hN⟩ := hv
  have hx := B.exec
  have hb := B.bytes
  have hr := B.returns
  have hts := atoms_spec (ws := wsX3_init) B.pre
  have hown : s.vm.findClass RX3 = some m.cls := findClass_of_methodNamed B.named
  have hlocks := B.notSynchronized
  have hnm : meth.name = "<init>" := (name_of_methodNamed B.named B.method).1
  subst hsz
  have hD := hD0.self (sz := s.heap.size)
  generalize hAe : va_A [(h0, .inr (3, [.null, .int 0, .int 0, .null, .null, .int 0, .int 0, .int 0]))] s.heap.size = A at hD ⊢
  have hA : ∀ q : Nat, s.heap.size ≤ q → A q := fun q h => by rw [← hAe]; exact Or.inr h
  have hS : va_S A s.heap s.heap [] := va_S.rf
  have hin_X3 : ∀ w ∈ u_ws RX3 TX3 8, w ∈ wsX3_init := by decide +kernel
  have hl := lv_entry ([.ref h0, .null, .int mk, .null]) (n := 4) (Nat.le_of_ble_eq_true rfl)
  rw [lg_entry_eq]
  generalize (lg_sl ([.ref h0, .null, .int mk, .null]) ++ List.replicate (4 - (lg_sl ([.ref h0, .null, .int mk, .null])).length) Slot.unset).toArray = ls at hl ⊢
  have hl : lv_has ls 4 [(0, .ref h0), (1, .null), (2, .int mk), (3, .null)] := hl
  refine lv_aload_n hx hb dX3_init_0 rfl (lv_at hl 0 rfl) ?_
  refine W.objInit hx hb hown (hts (.methodLink RX3 3 objectInit) (by decide +kernel)) (hts (.instanceMethod objectInit) (by decide +kernel)) (hts (.code objectInit ⟨#[0xb1]⟩ 1 none) (by decide +kernel)) rfl (by rw [hml]; exact hl.1) rfl dX3_init_1 (Nat.le_of_ble_eq_true rfl) (Nat.le_of_ble_eq_true rfl) ?_
  refine W.eq (g2 := F0 m 4 ls []) rfl ?_
  refine lv_aload_n hx hb dX3_init_4 rfl (lv_at hl 0 rfl) ?_
  refine lv_aload_nN hx hb dX3_init_5 rfl (lv_at hl 1 rfl) ?_
  refine va_putF (D := D) (ci := 3) (v := .null) (ty := .object "CryOrder$Node") (C := RX3) (T := TX3) (N := 8) hx hb hts hin_X3 tyX3 tyX3_ok nmX3 hown hK hP hD hS 0 rfl rfl 0 (by decide) (hts (.fieldLink RX3 9 "CryOrder$Node" "parent" "LCryOrder$Node;") (by decide +kernel)) (fun _ h9 => h9) rfl hnm rfl (by decide +kernel) rfl rfl (Nat.le_of_ble_eq_true rfl) dX3_init_6 (fun H_1 locs hP hD hS => ?_)
  have hP : va_P D vwCl [(h0, .inr (3, [.null, .int 0, .int 0, .null, .null, .int 0, .int 0, .int 0]))] H_1 := hP
  have hD : va_D A [(h0, .inr (3, [.null, .int 0, .int 0, .null, .null, .int 0, .int 0, .int 0]))] := hD
  refine lv_aload_n hx hb dX3_init_9 rfl (lv_at hl 0 rfl) ?_
  refine lv_aload_nN hx hb dX3_init_10 rfl (lv_at hl 1 rfl) ?_
  refine lv_ifnonnullN hx hb dX3_init_11 ?_
  refine lv_iconst (v := 0) hx hb dX3_init_14 (by decide) ?_
  refine lv_goto (tgt := 24) hx hb dX3_init_15 (by decide) ?_
  refine va_putF (D := D) (ci := 3) (v := .int 0) (ty := .int) (C := RX3) (T := TX3) (N := 8) hx hb hts hin_X3 tyX3 tyX3_ok nmX3 hown hK hP hD hS 0 rfl rfl 1 (by decide) (hts (.fieldLink RX3 15 "CryOrder$Node" "depth" "I") (by decide +kernel)) (fun _ h9 => h9) rfl hnm rfl (by decide +kernel) rfl rfl (Nat.le_of_ble_eq_true rfl) dX3_init_24 (fun H_2 locs hP hD hS => ?_)
  have hP : va_P D vwCl [(h0, .inr (3, [.null, .int 0, .int 0, .null, .null, .int 0, .int 0, .int 0]))] H_2 := hP
  have hD : va_D A [(h0, .inr (3, [.null, .int 0, .int 0, .null, .null, .int 0, .int 0, .int 0]))] := hD
  refine lv_aload_n hx hb dX3_init_27 rfl (lv_at hl 0 rfl) ?_
  refine lv_iload_n hx hb dX3_init_28 rfl (lv_at hl 2 rfl) ?_
  refine va_putF (D := D) (ci := 3) (v := .int mk) (ty := .int) (C := RX3) (T := TX3) (N := 8) hx hb hts hin_X3 tyX3 tyX3_ok nmX3 hown hK hP hD hS 0 rfl rfl 2 (by decide) (hts (.fieldLink RX3 19 "CryOrder$Node" "mark" "I") (by decide +kernel)) (fun _ h9 => h9) rfl hnm rfl (by decide +kernel) rfl rfl (Nat.le_of_ble_eq_true rfl) dX3_init_29 (fun H_3 locs hP hD hS => ?_)
  have hP : va_P D vwCl [(h0, .inr (3, [.null, .int 0, .int mk, .null, .null, .int 0, .int 0, .int 0]))] H_3 := hP
  have hD : va_D A [(h0, .inr (3, [.null, .int 0, .int mk, .null, .null, .int 0, .int 0, .int 0]))] := hD
  refine lv_aload_n hx hb dX3_init_32 rfl (lv_at hl 0 rfl) ?_
  refine lv_aload_nN hx hb dX3_init_33 rfl (lv_at hl 3 rfl) ?_
  refine va_putF (D := D) (ci := 3) (v := .null) (ty := .object "CryOrder$Node") (C := RX3) (T := TX3) (N := 8) hx hb hts hin_X3 tyX3 tyX3_ok nmX3 hown hK hP hD hS 0 rfl rfl 3 (by decide) (hts (.fieldLink RX3 22 "CryOrder$Node" "sibling" "LCryOrder$Node;") (by decide +kernel)) (fun _ h9 => h9) rfl hnm rfl (by decide +kernel) rfl rfl (Nat.le_of_ble_eq_true rfl) dX3_init_34 (fun H_4 locs hP hD hS => ?_)
  have hP : va_P D vwCl [(h0, .inr (3, [.null, .int 0, .int mk, .null, .null, .int 0, .int 0, .int 0]))] H_4 := hP
  have hD : va_D A [(h0, .inr (3, [.null, .int 0, .int mk, .null, .null, .int 0, .int 0, .int 0]))] := hD
  refine W.widen (k := 0) (n := 0) (Nat.le_of_ble_eq_true rfl) (Nat.le_of_ble_eq_true rfl) ?_
  have hP9 := hP.sub (ws' := [(h0, .inr (3, [.null, .int 0, .int mk, .null, .null, .int 0, .int 0, .int 0]))]) [0] rfl
  have hD9 := hD.sub (ws' := [(h0, .inr (3, [.null, .int 0, .int mk, .null, .null, .int 0, .int 0, .int 0]))]) [0] (by decide) rfl
  have hK9 := hK.sub (tys' := []) [] rfl
  exact W.vret hx hb hr (fun t ht hW => ⟨⟨(), rfl, trivial, by rw [ht]; exact hP9, va_K.moved hW.alike hK9, hD9⟩, hS.F ht⟩) hS.2.2 dX3_init_37

set_option maxHeartbeats 4000000 in
set_option maxRecDepth 100000 in
theorem k_X3_initB (l : Launch) (D : va_G) (sz : Nat) (h0 : Nat) (hp : Nat) (vpar : Value) (vsib : Value) (vfc : Value) (mk : Int32) (x1 : Int32) (x2 : Int32) (x5 : Int32) (x6 : Int32) (x7 : Int32) : Met l yX3_init wsX3_init ({ frames := 1, cells := 0, slots := 0, locals := 12 }) (va_Pc [.ref h0, .ref hp, .int mk, .null] (wz sz D [] [(h0, .inr (3, [.null, .int 0, .int 0, .null, .null, .int 0, .int 0, .int 0])), (hp, .inr (3, [vpar, .int x1, .int x2, vsib, vfc, .int x5, .int x6, .int x7]))])) (va_Qv (fun (_ : Unit) => True) (fun _ t => ∃ (dz : Int32), wp D [] (va_A [(h0, .inr (3, [.null, .int 0, .int 0, .null, .null, .int 0, .int 0, .int 0])), (hp, .inr (3, [vpar, .int x1, .int x2, vsib, vfc, .int x5, .int x6, .int x7]))] sz) [(h0, .inr (3, [.ref hp, .int dz, .int mk, .null, .null, .int 0, .int 0, .int 0])), (hp, .inr (3, [vpar, .int x1, .int x2, vsib, vfc, .int x5, .int x6, .int x7]))] t) (va_A [(h0, .inr (3, [.null, .int 0, .int 0, .null, .null, .int 0, .int 0, .int 0])), (hp, .inr (3, [vpar, .int x1, .int x2, vsib, vfc, .int x5, .int x6, .int x7]))] sz)) 0 0 (va_A [(h0, .inr (3, [.null, .int 0, .int 0, .null, .null, .int 0, .int 0, .int 0])), (hp, .inr (3, [vpar, .int x1, .int x2, vsib, vfc, .int x5, .int x6, .int x7]))] sz) := by
  refine Met.ofW (cc := cX3_init) (maxL := 4) (ret := none) (by decide) rfl ?_
  intro p e s m args below meth c s₁ B hml hv
  obtain ⟨rfl, hsz, hP, hK, hD0, hN⟩ := hv
  have hx := B.exec
  have hb := B.bytes
  have hr := B.returns
  have hts := atoms_spec (ws := wsX3_init) B.pre
  have hown : s.vm.findClass RX3 = some m.cls := findClass_of_methodNamed B.named
  have hlocks := B.notSynchronized
  have hnm : meth.name = "<init>" := (name_of_methodNamed B.named B.method).1
  subst hsz
  have hD := hD0.self (sz := s.heap.size)
  generalize hAe : va_A [(h0, .inr (3, [.null, .int 0, .int 0, .null, .null, .int 0, .int 0, .int 0])), (hp, .inr (3, [vpar, .int x1, .int x2, vsib, vfc, .int x5, .int x6, .int x7]))] s.heap.size = A at hD ⊢
  have hA : ∀ q : Nat, s.heap.size ≤ q → A q := fun q h => by rw [← hAe]; exact Or.inr h
  have hS : va_S A s.heap s.heap [] := va_S.rf
  have hin_X3 : ∀ w ∈ u_ws RX3 TX3 8, w ∈ wsX3_init := by decide +kernel
  have hl := lv_entry ([.ref h0, .ref hp, .int mk, .null]) (n := 4) (Nat.le_of_ble_eq_true rfl)
  rw [lg_entry_eq]
  generalize (lg_sl ([.ref h0, .ref hp, .int mk, .null]) ++ List.replicate (4 - (lg_sl ([.ref h0, .ref hp, .int mk, .null])).length) Slot.unset).toArray = ls at hl ⊢
  have hl : lv_has ls 4 [(0, .ref h0), (1, .ref hp), (2, .int mk), (3, .null)] := hl
  refine lv_aload_n hx hb dX3_init_0 rfl (lv_at hl 0 rfl) ?_
  refine W.objInit hx hb hown (hts (.methodLink RX3 3 objectInit) (by decide +kernel)) (hts (.instanceMethod objectInit) (by decide +kernel)) (hts (.code objectInit ⟨#[0xb1]⟩ 1 none) (by decide +kernel)) rfl (by rw [hml]; exact hl.1) rfl dX3_init_1 (Nat.le_of_ble_eq_true rfl) (Nat.le_of_ble_eq_true rfl) ?_
  refine W.eq (g2 := F0 m 4 ls []) rfl ?_
  refine lv_aload_n hx hb dX3_init_4 rfl (lv_at hl 0 rfl) ?_
  refine lv_aload_n hx hb dX3_init_5 rfl (lv_at hl 1 rfl) ?_
  refine va_putF (D := D) (ci := 3) (v := .ref hp) (ty := .object "CryOrder$Node") (C := RX3) (T := TX3) (N := 8) hx hb hts hin_X3 tyX3 tyX3_ok nmX3 hown hK hP hD hS 0 rfl rfl 0 (by decide) (hts (.fieldLink RX3 9 "CryOrder$Node" "parent" "LCryOrder$Node;") (by decide +kernel)) (fun _ h9 => h9) rfl hnm rfl (by decide +kernel) rfl rfl (Nat.le_of_ble_eq_true rfl) dX3_init_6 (fun H_1 locs hP hD hS => ?_)
  have hP : va_P D vwCl [(h0, .inr (3, [.ref hp, .int 0, .int 0, .null, .null, .int 0, .int 0, .int 0])), (hp, .inr (3, [vpar, .int x1, .int x2, vsib, vfc, .int x5, .int x6, .int x7]))] H_1 := hP
  have hD : va_D A [(h0, .inr (3, [.ref hp, .int 0, .int 0, .null, .null, .int 0, .int 0, .int 0])), (hp, .inr (3, [vpar, .int x1, .int x2, vsib, vfc, .int x5, .int x6, .int x7]))] := hD
  refine lv_aload_n hx hb dX3_init_9 rfl (lv_at hl 0 rfl) ?_
  refine lv_aload_n hx hb dX3_init_10 rfl (lv_at hl 1 rfl) ?_
  refine lv_ifnonnull (tgt := 18) hx hb dX3_init_11 (by decide) ?_
  refine lv_aload_n hx hb dX3_init_18 rfl (lv_at hl 1 rfl) ?_
  refine va_get (D := D) (ci := 3) (v := .int x1) (C := RX3) (T := TX3) (N := 8) hx hb hts hin_X3 hown hK hP 1 rfl rfl 1 (by decide) (hts (.fieldLink RX3 15 "CryOrder$Node" "depth" "I") (by decide +kernel)) (fun _ h9 => h9) rfl dX3_init_19 ?_
  refine lv_iconst (v := 1) hx hb dX3_init_22 (by decide) ?_
  refine lv_iadd hx hb dX3_init_23 ?_
  refine lv_topi (fun z_2 ez_2 => ?_)
  refine va_putF (D := D) (ci := 3) (v := .int z_2) (ty := .int) (C := RX3) (T := TX3) (N := 8) hx hb hts hin_X3 tyX3 tyX3_ok nmX3 hown hK hP hD hS 0 rfl rfl 1 (by decide) (hts (.fieldLink RX3 15 "CryOrder$Node" "depth" "I") (by decide +kernel)) (fun _ h9 => h9) rfl hnm rfl (by decide +kernel) rfl rfl (Nat.le_of_ble_eq_true rfl) dX3_init_24 (fun H_3 locs hP hD hS => ?_)
  have hP : va_P D vwCl [(h0, .inr (3, [.ref hp, .int z_2, .int 0, .null, .null, .int 0, .int 0, .int 0])), (hp, .inr (3, [vpar, .int x1, .int x2, vsib, vfc, .int x5, .int x6, .int x7]))] H_3 := hP
  have hD : va_D A [(h0, .inr (3, [.ref hp, .int z_2, .int 0, .null, .null, .int 0, .int 0, .int 0])), (hp, .inr (3, [vpar, .int x1, .int x2, vsib, vfc, .int x5, .int x6, .int x7]))] := hD
  refine lv_aload_n hx hb dX3_init_27 rfl (lv_at hl 0 rfl) ?_
  refine lv_iload_n hx hb dX3_init_28 rfl (lv_at hl 2 rfl) ?_
  refine va_putF (D := D) (ci := 3) (v := .int mk) (ty := .int) (C := RX3) (T := TX3) (N := 8) hx hb hts hin_X3 tyX3 tyX3_ok nmX3 hown hK hP hD hS 0 rfl rfl 2 (by decide) (hts (.fieldLink RX3 19 "CryOrder$Node" "mark" "I") (by decide +kernel)) (fun _ h9 => h9) rfl hnm rfl (by decide +kernel) rfl rfl (Nat.le_of_ble_eq_true rfl) dX3_init_29 (fun H_4 locs hP hD hS => ?_)
  have hP : va_P D vwCl [(h0, .inr (3, [.ref hp, .int z_2, .int mk, .null, .null, .int 0, .int 0, .int 0])), (hp, .inr (3, [vpar, .int x1, .int x2, vsib, vfc, .int x5, .int x6, .int x7]))] H_4 := hP
  have hD : va_D A [(h0, .inr (3, [.ref hp, .int z_2, .int mk, .null, .null, .int 0, .int 0, .int 0])), (hp, .inr (3, [vpar, .int x1, .int x2, vsib, vfc, .int x5, .int x6, .int x7]))] := hD
  refine lv_aload_n hx hb dX3_init_32 rfl (lv_at hl 0 rfl) ?_
  refine lv_aload_nN hx hb dX3_init_33 rfl (lv_at hl 3 rfl) ?_
  refine va_putF (D := D) (ci := 3) (v := .null) (ty := .object "CryOrder$Node") (C := RX3) (T := TX3) (N := 8) hx hb hts hin_X3 tyX3 tyX3_ok nmX3 hown hK hP hD hS 0 rfl rfl 3 (by decide) (hts (.fieldLink RX3 22 "CryOrder$Node" "sibling" "LCryOrder$Node;") (by decide +kernel)) (fun _ h9 => h9) rfl hnm rfl (by decide +kernel) rfl rfl (Nat.le_of_ble_eq_true rfl) dX3_init_34 (fun H_5 locs hP hD hS => ?_)
  have hP : va_P D vwCl [(h0, .inr (3, [.ref hp, .int z_2, .int mk, .null, .null, .int 0, .int 0, .int 0])), (hp, .inr (3, [vpar, .int x1, .int x2, vsib, vfc, .int x5, .int x6, .int x7]))] H_5 := hP
  have hD : va_D A [(h0, .inr (3, [.ref hp, .int z_2, .int mk, .null, .null, .int 0, .int 0, .int 0])), (hp, .inr (3, [vpar, .int x1, .int x2, vsib, vfc, .int x5, .int x6, .int x7]))] := hD
  refine W.widen (k := 0) (n := 0) (Nat.le_of_ble_eq_true rfl) (Nat.le_of_ble_eq_true rfl) ?_
  have hP9 := hP.sub (ws' := [(h0, .inr (3, [.ref hp, .int z_2, .int mk, .null, .null, .int 0, .int 0, .int 0])), (hp, .inr (3, [vpar, .int x1, .int x2, vsib, vfc, .int x5, .int x6, .int x7]))]) [0, 1] rfl
  have hD9 := hD.sub (ws' := [(h0, .inr (3, [.ref hp, .int z_2, .int mk, .null, .null, .int 0, .int 0, .int 0])), (hp, .inr (3, [vpar, .int x1, .int x2, vsib, vfc, .int x5, .int x6, .int x7]))]) [0, 1] (by decide) rfl
  have hK9 := hK.sub (tys' := []) [] rfl
  exact W.vret hx hb hr (fun t ht hW => ⟨⟨(), rfl, trivial, z_2, by rw [ht]; exact hP9, va_K.moved hW.alike hK9, hD9⟩, hS.F ht⟩) hS.2.2 dX3_init_37

set_option maxHeartbeats 4000000 in
set_option maxRecDepth 100000 in
theorem k_X1_init (l : Launch) (D : va_G) (sz : Nat) (h0 : Nat) (p0 : Int32) : Met l yX1_init wsX1_init ({ frames := 1, cells := 0, slots := 0, locals := 12 }) (va_Pc [.ref h0, .int p0] (wz sz D [] [(h0, .inr (1, [.int 0, .int 0, .int 0, .int 0]))])) (va_Qv (fun (_ : Unit) => True) (fun _ t => wp D [] (va_A [(h0, .inr (1, [.int 0, .int 0, .int 0, .int 0]))] sz) [(h0, .inr (1, [.int p0, .int 0, .int 0, .int 0]))] t) (va_A [(h0, .inr (1, [.int 0, .int 0, .int 0, .int 0]))] sz)) 0 0 (va_A [(h0, .inr (1, [.int 0, .int 0, .int 0, .int 0]))] sz) := by
  refine Met.ofW (cc := cX1_init) (maxL := 2) (ret := none) (by decide) rfl ?_
  intro p e s m args below meth c s₁ B hml hv
  obtain ⟨rfl, hsz, hP, hK, hD0, hN⟩ := hv
  have hx := B.exec
  have hb := B.bytes
  have hr := B.returns
  have hts := atoms_spec (ws := wsX1_init) B.pre
  have hown : s.vm.findClass RX1 = some m.cls := findClass_of_methodNamed B.named
  have hlocks := B.notSynchronized
  have hnm : meth.name = "<init>" := (name_of_methodNamed B.named B.method).1
  subst hsz
  have hD := hD0.self (sz := s.heap.size)
  generalize hAe : va_A [(h0, .inr (1, [.int 0, .int 0, .int 0, .int 0]))] s.heap.size = A at hD ⊢
  have hA : ∀ q : Nat, s.heap.size ≤ q → A q := fun q h => by rw [← hAe]; exact Or.inr h
  have hS : va_S A s.heap s.heap [] := va_S.rf
  have hin_X1 : ∀ w ∈ u_ws RX1 TX1 4, w ∈ wsX1_init := by decide +kernel
  have hl := lv_entry ([.ref h0, .int p0]) (n := 2) (Nat.le_of_ble_eq_true rfl)
  rw [lg_entry_eq]
  generalize (lg_sl ([.ref h0, .int p0]) ++ List.replicate (2 - (lg_sl ([.ref h0, .int p0])).length) Slot.unset).toArray = ls at hl ⊢
  have hl : lv_has ls 2 [(0, .ref h0), (1, .int p0)] := hl
  refine lv_aload_n hx hb dX1_init_0 rfl (lv_at hl 0 rfl) ?_
  refine W.objInit hx hb hown (hts (.methodLink RX1 1 objectInit) (by decide +kernel)) (hts (.instanceMethod objectInit) (by decide +kernel)) (hts (.code objectInit ⟨#[0xb1]⟩ 1 none) (by decide +kernel)) rfl (by rw [hml]; exact hl.1) rfl dX1_init_1 (Nat.le_of_ble_eq_true rfl) (Nat.le_of_ble_eq_true rfl) ?_
  refine W.eq (g2 := F0 m 4 ls []) rfl ?_
  refine lv_aload_n hx hb dX1_init_4 rfl (lv_at hl 0 rfl) ?_
  refine lv_iload_n hx hb dX1_init_5 rfl (lv_at hl 1 rfl) ?_
  refine va_putF (D := D) (ci := 1) (v := .int p0) (ty := .int) (C := RX1) (T := TX1) (N := 4) hx hb hts hin_X1 tyX1 tyX1_ok nmX1 hown hK hP hD hS 0 rfl rfl 0 (by decide) (hts (.fieldLink RX1 7 "CryOrder$Case" "number" "I") (by decide +kernel)) (fun _ h9 => h9) rfl hnm rfl (by decide +kernel) rfl rfl (Nat.le_of_ble_eq_true rfl) dX1_init_6 (fun H_1 locs hP hD hS => ?_)
  have hP : va_P D vwCl [(h0, .inr (1, [.int p0, .int 0, .int 0, .int 0]))] H_1 := hP
  have hD : va_D A [(h0, .inr (1, [.int p0, .int 0, .int 0, .int 0]))] := hD
  refine W.widen (k := 0) (n := 0) (Nat.le_of_ble_eq_true rfl) (Nat.le_of_ble_eq_true rfl) ?_
  have hP9 := hP.sub (ws' := [(h0, .inr (1, [.int p0, .int 0, .int 0, .int 0]))]) [0] rfl
  have hD9 := hD.sub (ws' := [(h0, .inr (1, [.int p0, .int 0, .int 0, .int 0]))]) [0] (by decide) rfl
  have hK9 := hK.sub (tys' := []) [] rfl
  exact W.vret hx hb hr (fun t ht hW => ⟨⟨(), rfl, trivial, by rw [ht]; exact hP9, va_K.moved hW.alike hK9, hD9⟩, hS.F ht⟩) hS.2.2 dX1_init_9

set_option maxHeartbeats 4000000 in
set_option maxRecDepth 100000 in
theorem k_X0_init (l : Launch) (D : va_G) (sz : Nat) (h0 : Nat) (lf : Nat) (p0 : Int32) (p1 : Int32) (p2 : Int32) (p3 : Int32) (p4 : Int32) (p5 : Int32) : Met l yX0_init wsX0_init ({ frames := 2, cells := 1, slots := 4, locals := 33 }) (va_Pc [.ref h0, .int p0, .int p1, .int p2, .int p3, .int p4, .int p5, .ref lf] (wz sz D [] [(h0, .inr (0, [.int 0, .int 0, .int 0, .int 0, .int 0, .int 0, .null, .null, .int 0, .int 0, .int 0, .int 0, .int 0, .int 0, .int 0, .null, .null]))])) (va_Qv (fun (_ : Unit) => True) (fun _ t => ∃ (qc : Nat), wp D [] (va_A [(h0, .inr (0, [.int 0, .int 0, .int 0, .int 0, .int 0, .int 0, .null, .null, .int 0, .int 0, .int 0, .int 0, .int 0, .int 0, .int 0, .null, .null]))] sz) [(h0, .inr (0, [.int p0, .int p1, .int p2, .int p3, .int p4, .int p5, .ref lf, .ref qc, .int 0, .int 0, .int p1, .int 0, .int 0, .int 0, .int 0, .null, .null]))] t) (va_A [(h0, .inr (0, [.int 0, .int 0, .int 0, .int 0, .int 0, .int 0, .null, .null, .int 0, .int 0, .int 0, .int 0, .int 0, .int 0, .int 0, .null, .null]))] sz)) 1 4 (va_A [(h0, .inr (0, [.int 0, .int 0, .int 0, .int 0, .int 0, .int 0, .null, .null, .int 0, .int 0, .int 0, .int 0, .int 0, .int 0, .int 0, .null, .null]))] sz) := by
  refine Met.ofW (cc := cX0_init) (maxL := 8) (ret := none) (by decide) rfl ?_
  intro p e s m args below meth c s₁ B hml hv
  obtain ⟨rfl, hsz, hP, hK, hD0, hN⟩ := hv
  have hx := B.exec
  have hb := B.bytes
  have hr := B.returns
  have hts := atoms_spec (ws := wsX0_init) B.pre
  have hown : s.vm.findClass RX0 = some m.cls := findClass_of_methodNamed B.named
  have hlocks := B.notSynchronized
  have hnm : meth.name = "<init>" := (name_of_methodNamed B.named B.method).1
  subst hsz
  have hD := hD0.self (sz := s.heap.size)
  generalize hAe : va_A [(h0, .inr (0, [.int 0, .int 0, .int 0, .int 0, .int 0, .int 0, .null, .null, .int 0, .int 0, .int 0, .int 0, .int 0, .int 0, .int 0, .null, .null]))] s.heap.size = A at hD ⊢
  have hA : ∀ q : Nat, s.heap.size ≤ q → A q := fun q h => by rw [← hAe]; exact Or.inr h
  have hS : va_S A s.heap s.heap [] := va_S.rf
  have hin_X0 : ∀ w ∈ u_ws RX0 TX0 17, w ∈ wsX0_init := by decide +kernel
  have hin_X1 : ∀ w ∈ u_ws RX1 TX1 4, w ∈ wsX0_init := by decide +kernel
  have hl := lv_entry ([.ref h0, .int p0, .int p1, .int p2, .int p3, .int p4, .int p5, .ref lf]) (n := 8) (Nat.le_of_ble_eq_true rfl)
  rw [lg_entry_eq]
  generalize (lg_sl ([.ref h0, .int p0, .int p1, .int p2, .int p3, .int p4, .int p5, .ref lf]) ++ List.replicate (8 - (lg_sl ([.ref h0, .int p0, .int p1, .int p2, .int p3, .int p4, .int p5, .ref lf])).length) Slot.unset).toArray = ls at hl ⊢
  have hl : lv_has ls 8 [(0, .ref h0), (1, .int p0), (2, .int p1), (3, .int p2), (4, .int p3), (5, .int p4), (6, .int p5), (7, .ref lf)] := hl
  refine lv_aload_n hx hb dX0_init_0 rfl (lv_at hl 0 rfl) ?_
  refine W.objInit hx hb hown (hts (.methodLink RX0 3 objectInit) (by decide +kernel)) (hts (.instanceMethod objectInit) (by decide +kernel)) (hts (.code objectInit ⟨#[0xb1]⟩ 1 none) (by decide +kernel)) rfl (by rw [hml]; exact hl.1) rfl dX0_init_1 (Nat.le_of_ble_eq_true rfl) (Nat.le_of_ble_eq_true rfl) ?_
  refine W.eq (g2 := F0 m 4 ls []) rfl ?_
  refine lv_aload_n hx hb dX0_init_4 rfl (lv_at hl 0 rfl) ?_
  refine lv_iconst (v := 0) hx hb dX0_init_5 (by decide) ?_
  refine va_put (D := D) (ci := 0) (v := .int 0) (ty := .int) (C := RX0) (T := TX0) (N := 17) hx hb hts hin_X0 tyX0 tyX0_ok nmX0 hown hK hP hD hS 0 rfl rfl 12 (by decide) (hts (.fieldLink RX0 9 "CryOrder$Alarm" "state" "I") (by decide +kernel)) (fun _ h9 => h9) rfl (by decide +kernel) rfl rfl (Nat.le_of_ble_eq_true rfl) dX0_init_6 (fun H_1 locs hP hD hS => ?_)
  have hP : va_P D vwCl [(h0, .inr (0, [.int 0, .int 0, .int 0, .int 0, .int 0, .int 0, .null, .null, .int 0, .int 0, .int 0, .int 0, .int 0, .int 0, .int 0, .null, .null]))] H_1 := hP
  have hD : va_D A [(h0, .inr (0, [.int 0, .int 0, .int 0, .int 0, .int 0, .int 0, .null, .null, .int 0, .int 0, .int 0, .int 0, .int 0, .int 0, .int 0, .null, .null]))] := hD
  refine lv_aload_n hx hb dX0_init_9 rfl (lv_at hl 0 rfl) ?_
  refine lv_iload_n hx hb dX0_init_10 rfl (lv_at hl 1 rfl) ?_
  refine va_putF (D := D) (ci := 0) (v := .int p0) (ty := .int) (C := RX0) (T := TX0) (N := 17) hx hb hts hin_X0 tyX0 tyX0_ok nmX0 hown hK hP hD hS 0 rfl rfl 0 (by decide) (hts (.fieldLink RX0 15 "CryOrder$Alarm" "number" "I") (by decide +kernel)) (fun _ h9 => h9) rfl hnm rfl (by decide +kernel) rfl rfl (Nat.le_of_ble_eq_true rfl) dX0_init_11 (fun H_2 locs hP hD hS => ?_)
  have hP : va_P D vwCl [(h0, .inr (0, [.int p0, .int 0, .int 0, .int 0, .int 0, .int 0, .null, .null, .int 0, .int 0, .int 0, .int 0, .int 0, .int 0, .int 0, .null, .null]))] H_2 := hP
  have hD : va_D A [(h0, .inr (0, [.int p0, .int 0, .int 0, .int 0, .int 0, .int 0, .null, .null, .int 0, .int 0, .int 0, .int 0, .int 0, .int 0, .int 0, .null, .null]))] := hD
  refine lv_aload_n hx hb dX0_init_14 rfl (lv_at hl 0 rfl) ?_
  refine lv_iload_n hx hb dX0_init_15 rfl (lv_at hl 2 rfl) ?_
  refine va_putF (D := D) (ci := 0) (v := .int p1) (ty := .int) (C := RX0) (T := TX0) (N := 17) hx hb hts hin_X0 tyX0 tyX0_ok nmX0 hown hK hP hD hS 0 rfl rfl 1 (by decide) (hts (.fieldLink RX0 18 "CryOrder$Alarm" "came" "I") (by decide +kernel)) (fun _ h9 => h9) rfl hnm rfl (by decide +kernel) rfl rfl (Nat.le_of_ble_eq_true rfl) dX0_init_16 (fun H_3 locs hP hD hS => ?_)
  have hP : va_P D vwCl [(h0, .inr (0, [.int p0, .int p1, .int 0, .int 0, .int 0, .int 0, .null, .null, .int 0, .int 0, .int 0, .int 0, .int 0, .int 0, .int 0, .null, .null]))] H_3 := hP
  have hD : va_D A [(h0, .inr (0, [.int p0, .int p1, .int 0, .int 0, .int 0, .int 0, .null, .null, .int 0, .int 0, .int 0, .int 0, .int 0, .int 0, .int 0, .null, .null]))] := hD
  refine lv_aload_n hx hb dX0_init_19 rfl (lv_at hl 0 rfl) ?_
  refine lv_iload_n hx hb dX0_init_20 rfl (lv_at hl 3 rfl) ?_
  refine va_putF (D := D) (ci := 0) (v := .int p2) (ty := .int) (C := RX0) (T := TX0) (N := 17) hx hb hts hin_X0 tyX0 tyX0_ok nmX0 hown hK hP hD hS 0 rfl rfl 2 (by decide) (hts (.fieldLink RX0 21 "CryOrder$Alarm" "source" "I") (by decide +kernel)) (fun _ h9 => h9) rfl hnm rfl (by decide +kernel) rfl rfl (Nat.le_of_ble_eq_true rfl) dX0_init_21 (fun H_4 locs hP hD hS => ?_)
  have hP : va_P D vwCl [(h0, .inr (0, [.int p0, .int p1, .int p2, .int 0, .int 0, .int 0, .null, .null, .int 0, .int 0, .int 0, .int 0, .int 0, .int 0, .int 0, .null, .null]))] H_4 := hP
  have hD : va_D A [(h0, .inr (0, [.int p0, .int p1, .int p2, .int 0, .int 0, .int 0, .null, .null, .int 0, .int 0, .int 0, .int 0, .int 0, .int 0, .int 0, .null, .null]))] := hD
  refine lv_aload_n hx hb dX0_init_24 rfl (lv_at hl 0 rfl) ?_
  refine lv_iload hx hb dX0_init_25 (lv_at hl 4 rfl) ?_
  refine va_putF (D := D) (ci := 0) (v := .int p3) (ty := .int) (C := RX0) (T := TX0) (N := 17) hx hb hts hin_X0 tyX0 tyX0_ok nmX0 hown hK hP hD hS 0 rfl rfl 3 (by decide) (hts (.fieldLink RX0 24 "CryOrder$Alarm" "thing" "I") (by decide +kernel)) (fun _ h9 => h9) rfl hnm rfl (by decide +kernel) rfl rfl (Nat.le_of_ble_eq_true rfl) dX0_init_27 (fun H_5 locs hP hD hS => ?_)
  have hP : va_P D vwCl [(h0, .inr (0, [.int p0, .int p1, .int p2, .int p3, .int 0, .int 0, .null, .null, .int 0, .int 0, .int 0, .int 0, .int 0, .int 0, .int 0, .null, .null]))] H_5 := hP
  have hD : va_D A [(h0, .inr (0, [.int p0, .int p1, .int p2, .int p3, .int 0, .int 0, .null, .null, .int 0, .int 0, .int 0, .int 0, .int 0, .int 0, .int 0, .null, .null]))] := hD
  refine lv_aload_n hx hb dX0_init_30 rfl (lv_at hl 0 rfl) ?_
  refine lv_iload hx hb dX0_init_31 (lv_at hl 5 rfl) ?_
  refine va_putF (D := D) (ci := 0) (v := .int p4) (ty := .int) (C := RX0) (T := TX0) (N := 17) hx hb hts hin_X0 tyX0 tyX0_ok nmX0 hown hK hP hD hS 0 rfl rfl 4 (by decide) (hts (.fieldLink RX0 27 "CryOrder$Alarm" "marks" "I") (by decide +kernel)) (fun _ h9 => h9) rfl hnm rfl (by decide +kernel) rfl rfl (Nat.le_of_ble_eq_true rfl) dX0_init_33 (fun H_6 locs hP hD hS => ?_)
  have hP : va_P D vwCl [(h0, .inr (0, [.int p0, .int p1, .int p2, .int p3, .int p4, .int 0, .null, .null, .int 0, .int 0, .int 0, .int 0, .int 0, .int 0, .int 0, .null, .null]))] H_6 := hP
  have hD : va_D A [(h0, .inr (0, [.int p0, .int p1, .int p2, .int p3, .int p4, .int 0, .null, .null, .int 0, .int 0, .int 0, .int 0, .int 0, .int 0, .int 0, .null, .null]))] := hD
  refine lv_aload_n hx hb dX0_init_36 rfl (lv_at hl 0 rfl) ?_
  refine lv_iload hx hb dX0_init_37 (lv_at hl 6 rfl) ?_
  refine va_putF (D := D) (ci := 0) (v := .int p5) (ty := .int) (C := RX0) (T := TX0) (N := 17) hx hb hts hin_X0 tyX0 tyX0_ok nmX0 hown hK hP hD hS 0 rfl rfl 5 (by decide) (hts (.fieldLink RX0 30 "CryOrder$Alarm" "worth" "I") (by decide +kernel)) (fun _ h9 => h9) rfl hnm rfl (by decide +kernel) rfl rfl (Nat.le_of_ble_eq_true rfl) dX0_init_39 (fun H_7 locs hP hD hS => ?_)
  have hP : va_P D vwCl [(h0, .inr (0, [.int p0, .int p1, .int p2, .int p3, .int p4, .int p5, .null, .null, .int 0, .int 0, .int 0, .int 0, .int 0, .int 0, .int 0, .null, .null]))] H_7 := hP
  have hD : va_D A [(h0, .inr (0, [.int p0, .int p1, .int p2, .int p3, .int p4, .int p5, .null, .null, .int 0, .int 0, .int 0, .int 0, .int 0, .int 0, .int 0, .null, .null]))] := hD
  refine lv_aload_n hx hb dX0_init_42 rfl (lv_at hl 0 rfl) ?_
  refine lv_aload hx hb dX0_init_43 (lv_at hl 7 rfl) ?_
  refine va_putF (D := D) (ci := 0) (v := .ref lf) (ty := .object "CryOrder$Node") (C := RX0) (T := TX0) (N := 17) hx hb hts hin_X0 tyX0 tyX0_ok nmX0 hown hK hP hD hS 0 rfl rfl 6 (by decide) (hts (.fieldLink RX0 33 "CryOrder$Alarm" "leaf" "LCryOrder$Node;") (by decide +kernel)) (fun _ h9 => h9) rfl hnm rfl (by decide +kernel) rfl rfl (Nat.le_of_ble_eq_true rfl) dX0_init_45 (fun H_8 locs hP hD hS => ?_)
  have hP : va_P D vwCl [(h0, .inr (0, [.int p0, .int p1, .int p2, .int p3, .int p4, .int p5, .ref lf, .null, .int 0, .int 0, .int 0, .int 0, .int 0, .int 0, .int 0, .null, .null]))] H_8 := hP
  have hD : va_D A [(h0, .inr (0, [.int p0, .int p1, .int p2, .int p3, .int p4, .int p5, .ref lf, .null, .int 0, .int 0, .int 0, .int 0, .int 0, .int 0, .int 0, .null, .null]))] := hD
  refine lv_aload_n hx hb dX0_init_48 rfl (lv_at hl 0 rfl) ?_
  refine va_new (ci := 1) (fs := [.int 0, .int 0, .int 0, .int 0]) (C := RX1) (T := TX1) (N := 4) hx hb hts hin_X1 tyX1 tyX1_ok hown (hts (.classLink RX0 37 RX1) (by decide +kernel)) (hts (.instantiable RX1 4) (by decide +kernel)) (hts (.initialized RX1) (by decide +kernel)) hK hP hD hS hA rfl dfX1 (Nat.le_of_ble_eq_true rfl) (Nat.le_of_ble_eq_true rfl) dX0_init_49 (fun q_9 H_10 hP hD hS => ?_)
  have hP : va_P D vwCl [(h0, .inr (0, [.int p0, .int p1, .int p2, .int p3, .int p4, .int p5, .ref lf, .null, .int 0, .int 0, .int 0, .int 0, .int 0, .int 0, .int 0, .null, .null])), (q_9, .inr (1, [.int 0, .int 0, .int 0, .int 0]))] H_10 := hP
  have hD : va_D A [(h0, .inr (0, [.int p0, .int p1, .int p2, .int p3, .int p4, .int p5, .ref lf, .null, .int 0, .int 0, .int 0, .int 0, .int 0, .int 0, .int 0, .null, .null])), (q_9, .inr (1, [.int 0, .int 0, .int 0, .int 0]))] := hD
  refine lv_dup hx hb dX0_init_52 rfl ?_
  refine lv_iload_n hx hb dX0_init_53 rfl (lv_at hl 1 rfl) ?_
  refine va_callv (zwI (As := [.int p0]) (rest := [.ref q_9, .ref h0]) (wc := [(q_9, .inr (1, [.int 0, .int 0, .int 0, .int 0]))]) ⟨hx, hb, hml, hown, hts⟩ hN hK hP hD (k_X1_init l D H_10.size q_9 p0 ) (cwI 1 hts gX0_init_X1_init rfl rfl rfl (hts (.initialized RX1) (by decide +kernel)) (hts (.methodLink RX0 39 yX1_init) (by decide +kernel)) (hts (.instanceMethod yX1_init) (by decide +kernel)) rfl (by decide +kernel) ⟨(Nat.le_of_ble_eq_true rfl), (Nat.le_of_ble_eq_true rfl)⟩) [] [1] rfl rfl (by decide) rfl hl.1 rfl (Nat.le_of_ble_eq_true rfl) dX0_init_54 ⟨(Nat.le_of_ble_eq_true rfl), (Nat.le_of_ble_eq_true rfl)⟩) hS (fun q _ h => va_free (wc := [(q_9, .inr (1, [.int 0, .int 0, .int 0, .int 0]))]) hD hS hA [1] rfl q h) (va_free (wc := [(q_9, .inr (1, [.int 0, .int 0, .int 0, .int 0]))]) hD hS hA [1] rfl) (fun u t H_11 locs1 ht hvm hw hB hz1 hk1 hS1 => ?_)
  obtain ⟨hP, hD, hK⟩ := zj (wc := [(q_9, .inr (1, [.int 0, .int 0, .int 0, .int 0]))]) (wr := [(h0, .inr (0, [.int p0, .int p1, .int p2, .int p3, .int p4, .int p5, .ref lf, .null, .int 0, .int 0, .int 0, .int 0, .int 0, .int 0, .int 0, .null, .null]))]) (w1 := [(q_9, .inr (1, [.int p0, .int 0, .int 0, .int 0]))]) hK hP hD hS hA [1] [0] rfl rfl (by decide) (by decide) hk1 ht hvm hB
  have hS := hS1
  have hP : va_P D vwCl [(h0, .inr (0, [.int p0, .int p1, .int p2, .int p3, .int p4, .int p5, .ref lf, .null, .int 0, .int 0, .int 0, .int 0, .int 0, .int 0, .int 0, .null, .null])), (q_9, .inr (1, [.int p0, .int 0, .int 0, .int 0]))] H_11 := hP
  have hD : va_D A [(h0, .inr (0, [.int p0, .int p1, .int p2, .int p3, .int p4, .int p5, .ref lf, .null, .int 0, .int 0, .int 0, .int 0, .int 0, .int 0, .int 0, .null, .null])), (q_9, .inr (1, [.int p0, .int 0, .int 0, .int 0]))] := hD
  have hK : va_K D vwCl [] s := hK
  refine va_putF (D := D) (ci := 0) (v := .ref q_9) (ty := .object "CryOrder$Case") (C := RX0) (T := TX0) (N := 17) hx hb hts hin_X0 tyX0 tyX0_ok nmX0 hown hK hP hD hS 0 rfl rfl 7 (by decide) (hts (.fieldLink RX0 42 "CryOrder$Alarm" "led" "LCryOrder$Case;") (by decide +kernel)) (fun _ h9 => h9) rfl hnm rfl (by decide +kernel) rfl rfl (Nat.le_of_ble_eq_true rfl) dX0_init_57 (fun H_12 locs hP hD hS => ?_)
  have hP : va_P D vwCl [(h0, .inr (0, [.int p0, .int p1, .int p2, .int p3, .int p4, .int p5, .ref lf, .ref q_9, .int 0, .int 0, .int 0, .int 0, .int 0, .int 0, .int 0, .null, .null])), (q_9, .inr (1, [.int p0, .int 0, .int 0, .int 0]))] H_12 := hP
  have hD : va_D A [(h0, .inr (0, [.int p0, .int p1, .int p2, .int p3, .int p4, .int p5, .ref lf, .ref q_9, .int 0, .int 0, .int 0, .int 0, .int 0, .int 0, .int 0, .null, .null])), (q_9, .inr (1, [.int p0, .int 0, .int 0, .int 0]))] := hD
  refine lv_aload_n hx hb dX0_init_60 rfl (lv_at hl 0 rfl) ?_
  refine lv_iload_n hx hb dX0_init_61 rfl (lv_at hl 2 rfl) ?_
  refine va_put (D := D) (ci := 0) (v := .int p1) (ty := .int) (C := RX0) (T := TX0) (N := 17) hx hb hts hin_X0 tyX0 tyX0_ok nmX0 hown hK hP hD hS 0 rfl rfl 10 (by decide) (hts (.fieldLink RX0 46 "CryOrder$Alarm" "heardLast" "I") (by decide +kernel)) (fun _ h9 => h9) rfl (by decide +kernel) rfl rfl (Nat.le_of_ble_eq_true rfl) dX0_init_62 (fun H_13 locs hP hD hS => ?_)
  have hP : va_P D vwCl [(h0, .inr (0, [.int p0, .int p1, .int p2, .int p3, .int p4, .int p5, .ref lf, .ref q_9, .int 0, .int 0, .int p1, .int 0, .int 0, .int 0, .int 0, .null, .null])), (q_9, .inr (1, [.int p0, .int 0, .int 0, .int 0]))] H_13 := hP
  have hD : va_D A [(h0, .inr (0, [.int p0, .int p1, .int p2, .int p3, .int p4, .int p5, .ref lf, .ref q_9, .int 0, .int 0, .int p1, .int 0, .int 0, .int 0, .int 0, .null, .null])), (q_9, .inr (1, [.int p0, .int 0, .int 0, .int 0]))] := hD
  refine W.widen (k := 1) (n := 4) (Nat.le_of_ble_eq_true rfl) (Nat.le_of_ble_eq_true rfl) ?_
  have hP9 := hP.sub (ws' := [(h0, .inr (0, [.int p0, .int p1, .int p2, .int p3, .int p4, .int p5, .ref lf, .ref q_9, .int 0, .int 0, .int p1, .int 0, .int 0, .int 0, .int 0, .null, .null]))]) [0] rfl
  have hD9 := hD.sub (ws' := [(h0, .inr (0, [.int p0, .int p1, .int p2, .int p3, .int p4, .int p5, .ref lf, .ref q_9, .int 0, .int 0, .int p1, .int 0, .int 0, .int 0, .int 0, .null, .null]))]) [0] (by decide) rfl
  have hK9 := hK.sub (tys' := []) [] rfl
  exact W.vret hx hb hr (fun t ht hW => ⟨⟨(), rfl, trivial, q_9, by rw [ht]; exact hP9, va_K.moved hW.alike hK9, hD9⟩, hS.F ht⟩) hS.2.2 dX0_init_65

set_option maxHeartbeats 4000000 in
set_option maxRecDepth 100000 in
theorem k_X6_init (l : Launch) (D : va_G) (sz : Nat) (h0 : Nat) (p0 : Int32) (p1 : Int32) (p2 : Int32) : Met l yX6_init wsX6_init ({ frames := 1, cells := 0, slots := 0, locals := 12 }) (va_Pc [.ref h0, .int p0, .int p1, .int p2] (wz sz D [] [(h0, .inr (6, [.int 0, .int 0, .int 0]))])) (va_Qv (fun (_ : Unit) => True) (fun _ t => wp D [] (va_A [(h0, .inr (6, [.int 0, .int 0, .int 0]))] sz) [(h0, .inr (6, [.int p0, .int p1, .int p2]))] t) (va_A [(h0, .inr (6, [.int 0, .int 0, .int 0]))] sz)) 0 0 (va_A [(h0, .inr (6, [.int 0, .int 0, .int 0]))] sz) := by
  refine Met.ofW (cc := cX6_init) (maxL := 4) (ret := none) (by decide) rfl ?_
  intro p e s m args below meth c s₁ B hml hv
  obtain ⟨rfl, hsz, hP, hK, hD0, hN⟩ := hv
  have hx := B.exec
  have hb := B.bytes
  have hr := B.returns
  have hts := atoms_spec (ws := wsX6_init) B.pre
  have hown : s.vm.findClass RX6 = some m.cls := findClass_of_methodNamed B.named
  have hlocks := B.notSynchronized
  have hnm : meth.name = "<init>" := (name_of_methodNamed B.named B.method).1
  subst hsz
  have hD := hD0.self (sz := s.heap.size)
  generalize hAe : va_A [(h0, .inr (6, [.int 0, .int 0, .int 0]))] s.heap.size = A at hD ⊢
  have hA : ∀ q : Nat, s.heap.size ≤ q → A q := fun q h => by rw [← hAe]; exact Or.inr h
  have hS : va_S A s.heap s.heap [] := va_S.rf
  have hin_X6 : ∀ w ∈ u_ws RX6 TX6 3, w ∈ wsX6_init := by decide +kernel
  have hl := lv_entry ([.ref h0, .int p0, .int p1, .int p2]) (n := 4) (Nat.le_of_ble_eq_true rfl)
  rw [lg_entry_eq]
  generalize (lg_sl ([.ref h0, .int p0, .int p1, .int p2]) ++ List.replicate (4 - (lg_sl ([.ref h0, .int p0, .int p1, .int p2])).length) Slot.unset).toArray = ls at hl ⊢
  have hl : lv_has ls 4 [(0, .ref h0), (1, .int p0), (2, .int p1), (3, .int p2)] := hl
  refine lv_aload_n hx hb dX6_init_0 rfl (lv_at hl 0 rfl) ?_
  refine W.objInit hx hb hown (hts (.methodLink RX6 1 objectInit) (by decide +kernel)) (hts (.instanceMethod objectInit) (by decide +kernel)) (hts (.code objectInit ⟨#[0xb1]⟩ 1 none) (by decide +kernel)) rfl (by rw [hml]; exact hl.1) rfl dX6_init_1 (Nat.le_of_ble_eq_true rfl) (Nat.le_of_ble_eq_true rfl) ?_
  refine W.eq (g2 := F0 m 4 ls []) rfl ?_
  refine lv_aload_n hx hb dX6_init_4 rfl (lv_at hl 0 rfl) ?_
  refine lv_iload_n hx hb dX6_init_5 rfl (lv_at hl 1 rfl) ?_
  refine va_putF (D := D) (ci := 6) (v := .int p0) (ty := .int) (C := RX6) (T := TX6) (N := 3) hx hb hts hin_X6 tyX6 tyX6_ok nmX6 hown hK hP hD hS 0 rfl rfl 0 (by decide) (hts (.fieldLink RX6 7 "CryOrder$Silence" "source" "I") (by decide +kernel)) (fun _ h9 => h9) rfl hnm rfl (by decide +kernel) rfl rfl (Nat.le_of_ble_eq_true rfl) dX6_init_6 (fun H_1 locs hP hD hS => ?_)
  have hP : va_P D vwCl [(h0, .inr (6, [.int p0, .int 0, .int 0]))] H_1 := hP
  have hD : va_D A [(h0, .inr (6, [.int p0, .int 0, .int 0]))] := hD
  refine lv_aload_n hx hb dX6_init_9 rfl (lv_at hl 0 rfl) ?_
  refine lv_iload_n hx hb dX6_init_10 rfl (lv_at hl 2 rfl) ?_
  refine va_putF (D := D) (ci := 6) (v := .int p1) (ty := .int) (C := RX6) (T := TX6) (N := 3) hx hb hts hin_X6 tyX6 tyX6_ok nmX6 hown hK hP hD hS 0 rfl rfl 1 (by decide) (hts (.fieldLink RX6 13 "CryOrder$Silence" "from" "I") (by decide +kernel)) (fun _ h9 => h9) rfl hnm rfl (by decide +kernel) rfl rfl (Nat.le_of_ble_eq_true rfl) dX6_init_11 (fun H_2 locs hP hD hS => ?_)
  have hP : va_P D vwCl [(h0, .inr (6, [.int p0, .int p1, .int 0]))] H_2 := hP
  have hD : va_D A [(h0, .inr (6, [.int p0, .int p1, .int 0]))] := hD
  refine lv_aload_n hx hb dX6_init_14 rfl (lv_at hl 0 rfl) ?_
  refine lv_iload_n hx hb dX6_init_15 rfl (lv_at hl 3 rfl) ?_
  refine va_putF (D := D) (ci := 6) (v := .int p2) (ty := .int) (C := RX6) (T := TX6) (N := 3) hx hb hts hin_X6 tyX6 tyX6_ok nmX6 hown hK hP hD hS 0 rfl rfl 2 (by decide) (hts (.fieldLink RX6 16 "CryOrder$Silence" "to" "I") (by decide +kernel)) (fun _ h9 => h9) rfl hnm rfl (by decide +kernel) rfl rfl (Nat.le_of_ble_eq_true rfl) dX6_init_16 (fun H_3 locs hP hD hS => ?_)
  have hP : va_P D vwCl [(h0, .inr (6, [.int p0, .int p1, .int p2]))] H_3 := hP
  have hD : va_D A [(h0, .inr (6, [.int p0, .int p1, .int p2]))] := hD
  refine W.widen (k := 0) (n := 0) (Nat.le_of_ble_eq_true rfl) (Nat.le_of_ble_eq_true rfl) ?_
  have hP9 := hP.sub (ws' := [(h0, .inr (6, [.int p0, .int p1, .int p2]))]) [0] rfl
  have hD9 := hD.sub (ws' := [(h0, .inr (6, [.int p0, .int p1, .int p2]))]) [0] (by decide) rfl
  have hK9 := hK.sub (tys' := []) [] rfl
  exact W.vret hx hb hr (fun t ht hW => ⟨⟨(), rfl, trivial, by rw [ht]; exact hP9, va_K.moved hW.alike hK9, hD9⟩, hS.F ht⟩) hS.2.2 dX6_init_19

set_option maxHeartbeats 4000000 in
set_option maxRecDepth 100000 in
theorem k_X7_init (l : Launch) (D : va_G) (sz : Nat) (h0 : Nat) : Met l yX7_init wsX7_init ({ frames := 1, cells := 1, slots := 60, locals := 12 }) (va_Pc [.ref h0] (wz sz D [] [(h0, .inr (7, [.null, .int 0]))])) (va_Qv (fun (_ : Unit) => True) (fun _ t => ∃ (q1 : Nat), ∃ (cA1 : ClassId), wp D [(cA1, .object RX4)] (va_A [(h0, .inr (7, [.null, .int 0]))] sz) [(h0, .inr (7, [.ref q1, .int 0])), (q1, .inl (cA1, 60, .inr (.inr (.inr (.inr (fun _ => none))))))] t) (va_A [(h0, .inr (7, [.null, .int 0]))] sz)) 1 60 (va_A [(h0, .inr (7, [.null, .int 0]))] sz) := by
  refine Met.ofW (cc := cX7_init) (maxL := 1) (ret := none) (by decide) rfl ?_
  intro p e s m args below meth c s₁ B hml hv
  obtain ⟨rfl, hsz, hP, hK, hD0, hN⟩ := hv
  have hx := B.exec
  have hb := B.bytes
  have hr := B.returns
  have hts := atoms_spec (ws := wsX7_init) B.pre
  have hown : s.vm.findClass RX7 = some m.cls := findClass_of_methodNamed B.named
  have hlocks := B.notSynchronized
  have hnm : meth.name = "<init>" := (name_of_methodNamed B.named B.method).1
  subst hsz
  have hD := hD0.self (sz := s.heap.size)
  generalize hAe : va_A [(h0, .inr (7, [.null, .int 0]))] s.heap.size = A at hD ⊢
  have hA : ∀ q : Nat, s.heap.size ≤ q → A q := fun q h => by rw [← hAe]; exact Or.inr h
  have hS : va_S A s.heap s.heap [] := va_S.rf
  have hin_X7 : ∀ w ∈ u_ws RX7 TX7 2, w ∈ wsX7_init := by decide +kernel
  have hl := lv_entry ([.ref h0]) (n := 1) (Nat.le_of_ble_eq_true rfl)
  rw [lg_entry_eq]
  generalize (lg_sl ([.ref h0]) ++ List.replicate (1 - (lg_sl ([.ref h0])).length) Slot.unset).toArray = ls at hl ⊢
  have hl : lv_has ls 1 [(0, .ref h0)] := hl
  refine lv_aload_n hx hb dX7_init_0 rfl (lv_at hl 0 rfl) ?_
  refine W.objInit hx hb hown (hts (.methodLink RX7 3 objectInit) (by decide +kernel)) (hts (.instanceMethod objectInit) (by decide +kernel)) (hts (.code objectInit ⟨#[0xb1]⟩ 1 none) (by decide +kernel)) rfl (by rw [hml]; exact hl.1) rfl dX7_init_1 (Nat.le_of_ble_eq_true rfl) (Nat.le_of_ble_eq_true rfl) ?_
  refine W.eq (g2 := F0 m 4 ls []) rfl ?_
  refine lv_aload_n hx hb dX7_init_4 rfl (lv_at hl 0 rfl) ?_
  refine lv_bipush (v := 60) hx hb dX7_init_5 (by decide) ?_
  refine va_newq (N' := 60) hx hb hown (hts (.classLink RX7 9 RX4) (by decide +kernel)) hN.1.2.2.1 hK hP hD hS hA (by decide) (by decide) (by decide) (Nat.le_of_ble_eq_true rfl) (Nat.le_of_ble_eq_true rfl) dX7_init_7 (fun q_1 cA_2 H_3 hK hP hD hS => ?_)
  have hP : va_P D vwCl [(h0, .inr (7, [.null, .int 0])), (q_1, .inl (cA_2, 60, .inr (.inr (.inr (.inr (fun _ => none))))))] H_3 := hP
  have hD : va_D A [(h0, .inr (7, [.null, .int 0])), (q_1, .inl (cA_2, 60, .inr (.inr (.inr (.inr (fun _ => none))))))] := hD
  have hK : va_K D vwCl [(cA_2, .object RX4)] s := hK
  refine va_putF (D := D) (ci := 7) (v := .ref q_1) (ty := .array (.object "CryOrder$Pair")) (C := RX7) (T := TX7) (N := 2) hx hb hts hin_X7 tyX7 tyX7_ok nmX7 hown hK hP hD hS 0 rfl rfl 0 (by decide) (hts (.fieldLink RX7 11 "CryOrder$Ties" "pairs" "[LCryOrder$Pair;") (by decide +kernel)) (fun _ h9 => h9) rfl hnm rfl (by decide +kernel) rfl rfl (Nat.le_of_ble_eq_true rfl) dX7_init_10 (fun H_4 locs hP hD hS => ?_)
  have hP : va_P D vwCl [(h0, .inr (7, [.ref q_1, .int 0])), (q_1, .inl (cA_2, 60, .inr (.inr (.inr (.inr (fun _ => none))))))] H_4 := hP
  have hD : va_D A [(h0, .inr (7, [.ref q_1, .int 0])), (q_1, .inl (cA_2, 60, .inr (.inr (.inr (.inr (fun _ => none))))))] := hD
  refine W.widen (k := 1) (n := 60) (Nat.le_of_ble_eq_true rfl) (Nat.le_of_ble_eq_true rfl) ?_
  have hP9 := hP.sub (ws' := [(h0, .inr (7, [.ref q_1, .int 0])), (q_1, .inl (cA_2, 60, .inr (.inr (.inr (.inr (fun _ => none))))))]) [0, 1] rfl
  have hD9 := hD.sub (ws' := [(h0, .inr (7, [.ref q_1, .int 0])), (q_1, .inl (cA_2, 60, .inr (.inr (.inr (.inr (fun _ => none))))))]) [0, 1] (by decide) rfl
  have hK9 := hK.sub (tys' := [(cA_2, .object RX4)]) [0] rfl
  exact W.vret hx hb hr (fun t ht hW => ⟨⟨(), rfl, trivial, q_1, cA_2, by rw [ht]; exact hP9, va_K.moved hW.alike hK9, hD9⟩, hS.F ht⟩) hS.2.2 dX7_init_13

set_option maxHeartbeats 4000000 in
set_option maxRecDepth 100000 in
theorem k_X2_init (l : Launch) (D : va_G) (sz : Nat) (h0 : Nat) : Met l yX2_init wsX2_init ({ frames := 1, cells := 1, slots := 200, locals := 12 }) (va_Pc [.ref h0] (wz sz D [] [(h0, .inr (2, [.null, .int 0]))])) (va_Qv (fun (_ : Unit) => True) (fun _ t => ∃ (q1 : Nat), ∃ (cA1 : ClassId), wp D [(cA1, .object RX1)] (va_A [(h0, .inr (2, [.null, .int 0]))] sz) [(h0, .inr (2, [.ref q1, .int 0])), (q1, .inl (cA1, 200, .inr (.inr (.inr (.inr (fun _ => none))))))] t) (va_A [(h0, .inr (2, [.null, .int 0]))] sz)) 1 200 (va_A [(h0, .inr (2, [.null, .int 0]))] sz) := by
  refine Met.ofW (cc := cX2_init) (maxL := 1) (ret := none) (by decide) rfl ?_
  intro p e s m args below meth c s₁ B hml hv
  obtain ⟨rfl, hsz, hP, hK, hD0, hN⟩ := hv
  have hx := B.exec
  have hb := B.bytes
  have hr := B.returns
  have hts := atoms_spec (ws := wsX2_init) B.pre
  have hown : s.vm.findClass RX2 = some m.cls := findClass_of_methodNamed B.named
  have hlocks := B.notSynchronized
  have hnm : meth.name = "<init>" := (name_of_methodNamed B.named B.method).1
  subst hsz
  have hD := hD0.self (sz := s.heap.size)
  generalize hAe : va_A [(h0, .inr (2, [.null, .int 0]))] s.heap.size = A at hD ⊢
  have hA : ∀ q : Nat, s.heap.size ≤ q → A q := fun q h => by rw [← hAe]; exact Or.inr h
  have hS : va_S A s.heap s.heap [] := va_S.rf
  have hin_X2 : ∀ w ∈ u_ws RX2 TX2 2, w ∈ wsX2_init := by decide +kernel
  have hl := lv_entry ([.ref h0]) (n := 1) (Nat.le_of_ble_eq_true rfl)
  rw [lg_entry_eq]
  generalize (lg_sl ([.ref h0]) ++ List.replicate (1 - (lg_sl ([.ref h0])).length) Slot.unset).toArray = ls at hl ⊢
  have hl : lv_has ls 1 [(0, .ref h0)] := hl
  refine lv_aload_n hx hb dX2_init_0 rfl (lv_at hl 0 rfl) ?_
  refine W.objInit hx hb hown (hts (.methodLink RX2 3 objectInit) (by decide +kernel)) (hts (.instanceMethod objectInit) (by decide +kernel)) (hts (.code objectInit ⟨#[0xb1]⟩ 1 none) (by decide +kernel)) rfl (by rw [hml]; exact hl.1) rfl dX2_init_1 (Nat.le_of_ble_eq_true rfl) (Nat.le_of_ble_eq_true rfl) ?_
  refine W.eq (g2 := F0 m 4 ls []) rfl ?_
  refine lv_aload_n hx hb dX2_init_4 rfl (lv_at hl 0 rfl) ?_
  refine lv_sipush (v := 200) hx hb dX2_init_5 (by decide) ?_
  refine va_newq (N' := 200) hx hb hown (hts (.classLink RX2 9 RX1) (by decide +kernel)) hN.1.2.1 hK hP hD hS hA (by decide) (by decide) (by decide) (Nat.le_of_ble_eq_true rfl) (Nat.le_of_ble_eq_true rfl) dX2_init_8 (fun q_1 cA_2 H_3 hK hP hD hS => ?_)
  have hP : va_P D vwCl [(h0, .inr (2, [.null, .int 0])), (q_1, .inl (cA_2, 200, .inr (.inr (.inr (.inr (fun _ => none))))))] H_3 := hP
  have hD : va_D A [(h0, .inr (2, [.null, .int 0])), (q_1, .inl (cA_2, 200, .inr (.inr (.inr (.inr (fun _ => none))))))] := hD
  have hK : va_K D vwCl [(cA_2, .object RX1)] s := hK
  refine va_putF (D := D) (ci := 2) (v := .ref q_1) (ty := .array (.object "CryOrder$Case")) (C := RX2) (T := TX2) (N := 2) hx hb hts hin_X2 tyX2 tyX2_ok nmX2 hown hK hP hD hS 0 rfl rfl 0 (by decide) (hts (.fieldLink RX2 11 "CryOrder$Cases" "ordered" "[LCryOrder$Case;") (by decide +kernel)) (fun _ h9 => h9) rfl hnm rfl (by decide +kernel) rfl rfl (Nat.le_of_ble_eq_true rfl) dX2_init_11 (fun H_4 locs hP hD hS => ?_)
  have hP : va_P D vwCl [(h0, .inr (2, [.ref q_1, .int 0])), (q_1, .inl (cA_2, 200, .inr (.inr (.inr (.inr (fun _ => none))))))] H_4 := hP
  have hD : va_D A [(h0, .inr (2, [.ref q_1, .int 0])), (q_1, .inl (cA_2, 200, .inr (.inr (.inr (.inr (fun _ => none))))))] := hD
  refine W.widen (k := 1) (n := 200) (Nat.le_of_ble_eq_true rfl) (Nat.le_of_ble_eq_true rfl) ?_
  have hP9 := hP.sub (ws' := [(h0, .inr (2, [.ref q_1, .int 0])), (q_1, .inl (cA_2, 200, .inr (.inr (.inr (.inr (fun _ => none))))))]) [0, 1] rfl
  have hD9 := hD.sub (ws' := [(h0, .inr (2, [.ref q_1, .int 0])), (q_1, .inl (cA_2, 200, .inr (.inr (.inr (.inr (fun _ => none))))))]) [0, 1] (by decide) rfl
  have hK9 := hK.sub (tys' := [(cA_2, .object RX1)]) [0] rfl
  exact W.vret hx hb hr (fun t ht hW => ⟨⟨(), rfl, trivial, q_1, cA_2, by rw [ht]; exact hP9, va_K.moved hW.alike hK9, hD9⟩, hS.F ht⟩) hS.2.2 dX2_init_14

set_option maxHeartbeats 4000000 in
set_option maxRecDepth 100000 in
theorem k_X5_init (l : Launch) (D : va_G) (sz : Nat) (h0 : Nat) : Met l yX5_init wsX5_init ({ frames := 1, cells := 4, slots := 631, locals := 12 }) (va_Pc [.ref h0] (wz sz D [] [(h0, .inr (5, [.null, .null, .null, .null, .int 0, .int 0, .int 0, .int 0]))])) (va_Qv (fun (_ : Unit) => True) (fun _ t => ∃ (q1 : Nat), ∃ (cA1 : ClassId), ∃ (q2 : Nat), ∃ (cA2 : ClassId), ∃ (q3 : Nat), ∃ (cA3 : ClassId), ∃ (q4 : Nat), ∃ (cA4 : ClassId), wp D [(cA1, .object RX1), (cA2, .object RX1), (cA3, .int), (cA4, .int)] (va_A [(h0, .inr (5, [.null, .null, .null, .null, .int 0, .int 0, .int 0, .int 0]))] sz) [(h0, .inr (5, [.ref q1, .ref q2, .ref q3, .ref q4, .int 0, .int 0, .int 0, .int 0])), (q1, .inl (cA1, 17, .inr (.inr (.inr (.inr (fun _ => none)))))), (q2, .inl (cA2, 12, .inr (.inr (.inr (.inr (fun _ => none)))))), (q3, .inl (cA3, 301, .inl (fun _ => 0))), (q4, .inl (cA4, 301, .inl (fun _ => 0)))] t) (va_A [(h0, .inr (5, [.null, .null, .null, .null, .int 0, .int 0, .int 0, .int 0]))] sz)) 4 631 (va_A [(h0, .inr (5, [.null, .null, .null, .null, .int 0, .int 0, .int 0, .int 0]))] sz) := by
  refine Met.ofW (cc := cX5_init) (maxL := 1) (ret := none) (by decide) rfl ?_
  intro p e s m args below meth c s₁ B hml hv
  obtain ⟨rfl, hsz, hP, hK, hD0, hN⟩ := hv
  have hx := B.exec
  have hb := B.bytes
  have hr := B.returns
  have hts := atoms_spec (ws := wsX5_init) B.pre
  have hown : s.vm.findClass RX5 = some m.cls := findClass_of_methodNamed B.named
  have hlocks := B.notSynchronized
  have hnm : meth.name = "<init>" := (name_of_methodNamed B.named B.method).1
  subst hsz
  have hD := hD0.self (sz := s.heap.size)
  generalize hAe : va_A [(h0, .inr (5, [.null, .null, .null, .null, .int 0, .int 0, .int 0, .int 0]))] s.heap.size = A at hD ⊢
  have hA : ∀ q : Nat, s.heap.size ≤ q → A q := fun q h => by rw [← hAe]; exact Or.inr h
  have hS : va_S A s.heap s.heap [] := va_S.rf
  have hin_X5 : ∀ w ∈ u_ws RX5 TX5 8, w ∈ wsX5_init := by decide +kernel
  have hl := lv_entry ([.ref h0]) (n := 1) (Nat.le_of_ble_eq_true rfl)
  rw [lg_entry_eq]
  generalize (lg_sl ([.ref h0]) ++ List.replicate (1 - (lg_sl ([.ref h0])).length) Slot.unset).toArray = ls at hl ⊢
  have hl : lv_has ls 1 [(0, .ref h0)] := hl
  refine lv_aload_n hx hb dX5_init_0 rfl (lv_at hl 0 rfl) ?_
  refine W.objInit hx hb hown (hts (.methodLink RX5 3 objectInit) (by decide +kernel)) (hts (.instanceMethod objectInit) (by decide +kernel)) (hts (.code objectInit ⟨#[0xb1]⟩ 1 none) (by decide +kernel)) rfl (by rw [hml]; exact hl.1) rfl dX5_init_1 (Nat.le_of_ble_eq_true rfl) (Nat.le_of_ble_eq_true rfl) ?_
  refine W.eq (g2 := F0 m 4 ls []) rfl ?_
  refine lv_aload_n hx hb dX5_init_4 rfl (lv_at hl 0 rfl) ?_
  refine lv_bipush (v := 17) hx hb dX5_init_5 (by decide) ?_
  refine va_newq (N' := 17) hx hb hown (hts (.classLink RX5 9 RX1) (by decide +kernel)) hN.1.2.1 hK hP hD hS hA (by decide) (by decide) (by decide) (Nat.le_of_ble_eq_true rfl) (Nat.le_of_ble_eq_true rfl) dX5_init_7 (fun q_1 cA_2 H_3 hK hP hD hS => ?_)
  have hP : va_P D vwCl [(h0, .inr (5, [.null, .null, .null, .null, .int 0, .int 0, .int 0, .int 0])), (q_1, .inl (cA_2, 17, .inr (.inr (.inr (.inr (fun _ => none))))))] H_3 := hP
  have hD : va_D A [(h0, .inr (5, [.null, .null, .null, .null, .int 0, .int 0, .int 0, .int 0])), (q_1, .inl (cA_2, 17, .inr (.inr (.inr (.inr (fun _ => none))))))] := hD
  have hK : va_K D vwCl [(cA_2, .object RX1)] s := hK
  refine va_putF (D := D) (ci := 5) (v := .ref q_1) (ty := .array (.object "CryOrder$Case")) (C := RX5) (T := TX5) (N := 8) hx hb hts hin_X5 tyX5 tyX5_ok nmX5 hown hK hP hD hS 0 rfl rfl 0 (by decide) (hts (.fieldLink RX5 11 "CryOrder$Plan" "taken" "[LCryOrder$Case;") (by decide +kernel)) (fun _ h9 => h9) rfl hnm rfl (by decide +kernel) rfl rfl (Nat.le_of_ble_eq_true rfl) dX5_init_10 (fun H_4 locs hP hD hS => ?_)
  have hP : va_P D vwCl [(h0, .inr (5, [.ref q_1, .null, .null, .null, .int 0, .int 0, .int 0, .int 0])), (q_1, .inl (cA_2, 17, .inr (.inr (.inr (.inr (fun _ => none))))))] H_4 := hP
  have hD : va_D A [(h0, .inr (5, [.ref q_1, .null, .null, .null, .int 0, .int 0, .int 0, .int 0])), (q_1, .inl (cA_2, 17, .inr (.inr (.inr (.inr (fun _ => none))))))] := hD
  refine lv_aload_n hx hb dX5_init_13 rfl (lv_at hl 0 rfl) ?_
  refine lv_bipush (v := 12) hx hb dX5_init_14 (by decide) ?_
  refine va_newq (N' := 12) hx hb hown (hts (.classLink RX5 9 RX1) (by decide +kernel)) hN.1.2.1 hK hP hD hS hA (by decide) (by decide) (by decide) (Nat.le_of_ble_eq_true rfl) (Nat.le_of_ble_eq_true rfl) dX5_init_16 (fun q_5 cA_6 H_7 hK hP hD hS => ?_)
  have hP : va_P D vwCl [(h0, .inr (5, [.ref q_1, .null, .null, .null, .int 0, .int 0, .int 0, .int 0])), (q_1, .inl (cA_2, 17, .inr (.inr (.inr (.inr (fun _ => none)))))), (q_5, .inl (cA_6, 12, .inr (.inr (.inr (.inr (fun _ => none))))))] H_7 := hP
  have hD : va_D A [(h0, .inr (5, [.ref q_1, .null, .null, .null, .int 0, .int 0, .int 0, .int 0])), (q_1, .inl (cA_2, 17, .inr (.inr (.inr (.inr (fun _ => none)))))), (q_5, .inl (cA_6, 12, .inr (.inr (.inr (.inr (fun _ => none))))))] := hD
  have hK : va_K D vwCl [(cA_2, .object RX1), (cA_6, .object RX1)] s := hK
  refine va_putF (D := D) (ci := 5) (v := .ref q_5) (ty := .array (.object "CryOrder$Case")) (C := RX5) (T := TX5) (N := 8) hx hb hts hin_X5 tyX5 tyX5_ok nmX5 hown hK hP hD hS 0 rfl rfl 1 (by decide) (hts (.fieldLink RX5 17 "CryOrder$Plan" "pool" "[LCryOrder$Case;") (by decide +kernel)) (fun _ h9 => h9) rfl hnm rfl (by decide +kernel) rfl rfl (Nat.le_of_ble_eq_true rfl) dX5_init_19 (fun H_8 locs hP hD hS => ?_)
  have hP : va_P D vwCl [(h0, .inr (5, [.ref q_1, .ref q_5, .null, .null, .int 0, .int 0, .int 0, .int 0])), (q_1, .inl (cA_2, 17, .inr (.inr (.inr (.inr (fun _ => none)))))), (q_5, .inl (cA_6, 12, .inr (.inr (.inr (.inr (fun _ => none))))))] H_8 := hP
  have hD : va_D A [(h0, .inr (5, [.ref q_1, .ref q_5, .null, .null, .int 0, .int 0, .int 0, .int 0])), (q_1, .inl (cA_2, 17, .inr (.inr (.inr (.inr (fun _ => none)))))), (q_5, .inl (cA_6, 12, .inr (.inr (.inr (.inr (fun _ => none))))))] := hD
  refine lv_aload_n hx hb dX5_init_22 rfl (lv_at hl 0 rfl) ?_
  refine lv_sipush (v := 301) hx hb dX5_init_23 (by decide) ?_
  refine va_newa (atype := .int) (N' := 301) (ty := .int) (a0 := (301, .inl (fun _ => 0))) hx hb (hts (.arrayClass .int) (by decide +kernel)) rfl hK hP hD hS hA (ar_I 301) (by decide) (by decide) (by decide) (Nat.le_of_ble_eq_true rfl) (Nat.le_of_ble_eq_true rfl) dX5_init_26 (fun q_9 cA_10 H_11 hK hP hD hS => ?_)
  have hP : va_P D vwCl [(h0, .inr (5, [.ref q_1, .ref q_5, .null, .null, .int 0, .int 0, .int 0, .int 0])), (q_1, .inl (cA_2, 17, .inr (.inr (.inr (.inr (fun _ => none)))))), (q_5, .inl (cA_6, 12, .inr (.inr (.inr (.inr (fun _ => none)))))), (q_9, .inl (cA_10, 301, .inl (fun _ => 0)))] H_11 := hP
  have hD : va_D A [(h0, .inr (5, [.ref q_1, .ref q_5, .null, .null, .int 0, .int 0, .int 0, .int 0])), (q_1, .inl (cA_2, 17, .inr (.inr (.inr (.inr (fun _ => none)))))), (q_5, .inl (cA_6, 12, .inr (.inr (.inr (.inr (fun _ => none)))))), (q_9, .inl (cA_10, 301, .inl (fun _ => 0)))] := hD
  have hK : va_K D vwCl [(cA_2, .object RX1), (cA_6, .object RX1), (cA_10, .int)] s := hK
  refine va_putF (D := D) (ci := 5) (v := .ref q_9) (ty := .array (.int)) (C := RX5) (T := TX5) (N := 8) hx hb hts hin_X5 tyX5 tyX5_ok nmX5 hown hK hP hD hS 0 rfl rfl 2 (by decide) (hts (.fieldLink RX5 20 "CryOrder$Plan" "best" "[I") (by decide +kernel)) (fun _ h9 => h9) rfl hnm rfl (by decide +kernel) rfl rfl (Nat.le_of_ble_eq_true rfl) dX5_init_28 (fun H_12 locs hP hD hS => ?_)
  have hP : va_P D vwCl [(h0, .inr (5, [.ref q_1, .ref q_5, .ref q_9, .null, .int 0, .int 0, .int 0, .int 0])), (q_1, .inl (cA_2, 17, .inr (.inr (.inr (.inr (fun _ => none)))))), (q_5, .inl (cA_6, 12, .inr (.inr (.inr (.inr (fun _ => none)))))), (q_9, .inl (cA_10, 301, .inl (fun _ => 0)))] H_12 := hP
  have hD : va_D A [(h0, .inr (5, [.ref q_1, .ref q_5, .ref q_9, .null, .int 0, .int 0, .int 0, .int 0])), (q_1, .inl (cA_2, 17, .inr (.inr (.inr (.inr (fun _ => none)))))), (q_5, .inl (cA_6, 12, .inr (.inr (.inr (.inr (fun _ => none)))))), (q_9, .inl (cA_10, 301, .inl (fun _ => 0)))] := hD
  refine lv_aload_n hx hb dX5_init_31 rfl (lv_at hl 0 rfl) ?_
  refine lv_sipush (v := 301) hx hb dX5_init_32 (by decide) ?_
  refine va_newa (atype := .int) (N' := 301) (ty := .int) (a0 := (301, .inl (fun _ => 0))) hx hb (hts (.arrayClass .int) (by decide +kernel)) rfl hK hP hD hS hA (ar_I 301) (by decide) (by decide) (by decide) (Nat.le_of_ble_eq_true rfl) (Nat.le_of_ble_eq_true rfl) dX5_init_35 (fun q_13 cA_14 H_15 hK hP hD hS => ?_)
  have hP : va_P D vwCl [(h0, .inr (5, [.ref q_1, .ref q_5, .ref q_9, .null, .int 0, .int 0, .int 0, .int 0])), (q_1, .inl (cA_2, 17, .inr (.inr (.inr (.inr (fun _ => none)))))), (q_5, .inl (cA_6, 12, .inr (.inr (.inr (.inr (fun _ => none)))))), (q_9, .inl (cA_10, 301, .inl (fun _ => 0))), (q_13, .inl (cA_14, 301, .inl (fun _ => 0)))] H_15 := hP
  have hD : va_D A [(h0, .inr (5, [.ref q_1, .ref q_5, .ref q_9, .null, .int 0, .int 0, .int 0, .int 0])), (q_1, .inl (cA_2, 17, .inr (.inr (.inr (.inr (fun _ => none)))))), (q_5, .inl (cA_6, 12, .inr (.inr (.inr (.inr (fun _ => none)))))), (q_9, .inl (cA_10, 301, .inl (fun _ => 0))), (q_13, .inl (cA_14, 301, .inl (fun _ => 0)))] := hD
  have hK : va_K D vwCl [(cA_2, .object RX1), (cA_6, .object RX1), (cA_10, .int), (cA_14, .int)] s := hK
  refine va_putF (D := D) (ci := 5) (v := .ref q_13) (ty := .array (.int)) (C := RX5) (T := TX5) (N := 8) hx hb hts hin_X5 tyX5 tyX5_ok nmX5 hown hK hP hD hS 0 rfl rfl 3 (by decide) (hts (.fieldLink RX5 24 "CryOrder$Plan" "needed" "[I") (by decide +kernel)) (fun _ h9 => h9) rfl hnm rfl (by decide +kernel) rfl rfl (Nat.le_of_ble_eq_true rfl) dX5_init_37 (fun H_16 locs hP hD hS => ?_)
  have hP : va_P D vwCl [(h0, .inr (5, [.ref q_1, .ref q_5, .ref q_9, .ref q_13, .int 0, .int 0, .int 0, .int 0])), (q_1, .inl (cA_2, 17, .inr (.inr (.inr (.inr (fun _ => none)))))), (q_5, .inl (cA_6, 12, .inr (.inr (.inr (.inr (fun _ => none)))))), (q_9, .inl (cA_10, 301, .inl (fun _ => 0))), (q_13, .inl (cA_14, 301, .inl (fun _ => 0)))] H_16 := hP
  have hD : va_D A [(h0, .inr (5, [.ref q_1, .ref q_5, .ref q_9, .ref q_13, .int 0, .int 0, .int 0, .int 0])), (q_1, .inl (cA_2, 17, .inr (.inr (.inr (.inr (fun _ => none)))))), (q_5, .inl (cA_6, 12, .inr (.inr (.inr (.inr (fun _ => none)))))), (q_9, .inl (cA_10, 301, .inl (fun _ => 0))), (q_13, .inl (cA_14, 301, .inl (fun _ => 0)))] := hD
  refine W.widen (k := 4) (n := 631) (Nat.le_of_ble_eq_true rfl) (Nat.le_of_ble_eq_true rfl) ?_
  have hP9 := hP.sub (ws' := [(h0, .inr (5, [.ref q_1, .ref q_5, .ref q_9, .ref q_13, .int 0, .int 0, .int 0, .int 0])), (q_1, .inl (cA_2, 17, .inr (.inr (.inr (.inr (fun _ => none)))))), (q_5, .inl (cA_6, 12, .inr (.inr (.inr (.inr (fun _ => none)))))), (q_9, .inl (cA_10, 301, .inl (fun _ => 0))), (q_13, .inl (cA_14, 301, .inl (fun _ => 0)))]) [0, 1, 2, 3, 4] rfl
  have hD9 := hD.sub (ws' := [(h0, .inr (5, [.ref q_1, .ref q_5, .ref q_9, .ref q_13, .int 0, .int 0, .int 0, .int 0])), (q_1, .inl (cA_2, 17, .inr (.inr (.inr (.inr (fun _ => none)))))), (q_5, .inl (cA_6, 12, .inr (.inr (.inr (.inr (fun _ => none)))))), (q_9, .inl (cA_10, 301, .inl (fun _ => 0))), (q_13, .inl (cA_14, 301, .inl (fun _ => 0)))]) [0, 1, 2, 3, 4] (by decide) rfl
  have hK9 := hK.sub (tys' := [(cA_2, .object RX1), (cA_6, .object RX1), (cA_10, .int), (cA_14, .int)]) [0, 1, 2, 3] rfl
  exact W.vret hx hb hr (fun t ht hW => ⟨⟨(), rfl, trivial, q_1, cA_2, q_5, cA_6, q_9, cA_10, q_13, cA_14, by rw [ht]; exact hP9, va_K.moved hW.alike hK9, hD9⟩, hS.F ht⟩) hS.2.2 dX5_init_40

set_option maxHeartbeats 4000000 in
set_option maxRecDepth 100000 in
theorem k_X8_init (l : Launch) (D : va_G) (sz : Nat) (h0 : Nat) : Met l yX8_init wsX8_init ({ frames := 2, cells := 13, slots := 1181, locals := 35 }) (va_Pc [.ref h0] (wz sz D [] [(h0, .inr (8, [.null, .null, .null, .null, .null, .null, .null, .int 0, .int 0, .int 0, .int 0, .int 0, .int 0, .int 0]))])) (va_Qv (fun (_ : Unit) => True) (fun _ t => ∃ (a1 : Nat), ∃ (a2 : Nat), ∃ (a3 : Nat), ∃ (a4 : Nat), ∃ (a5 : Nat), ∃ (a6 : Nat), ∃ (a7 : Nat), ∃ (o5 : Nat), ∃ (o6 : Nat), ∃ (t1 : Nat), ∃ (t2 : Nat), ∃ (t3 : Nat), ∃ (t4 : Nat), ∃ (c1 : ClassId), ∃ (c2 : ClassId), ∃ (c3 : ClassId), ∃ (c6 : ClassId), ∃ (c7 : ClassId), wp D [(c1, .object RX0), (c2, .object RX0), (c3, .object RX6), (c6, .int), (c7, .int)] (va_A [(h0, .inr (8, [.null, .null, .null, .null, .null, .null, .null, .int 0, .int 0, .int 0, .int 0, .int 0, .int 0, .int 0]))] sz) [(h0, .inr (8, [.ref a1, .ref a2, .ref a3, .ref a4, .ref a5, .ref a6, .ref a7, .int 0, .int 0, .int 0, .int 50, .int 3, .int 0, .int 0])), (a1, .inl (c1, 200, .inr (.inr (.inr (.inr (fun _ => none)))))), (a2, .inl (c2, 40, .inr (.inr (.inr (.inr (fun _ => none)))))), (a3, .inl (c3, 30, .inr (.inr (.inr (.inr (fun _ => none)))))), (a4, .inr (3, [.null, .int 0, .int 0, .null, .null, .int 0, .int 0, .int 0])), (a5, .inr (7, [.ref o5, .int 0])), (a6, .inr (2, [.ref o6, .int 0])), (a7, .inr (5, [.ref t1, .ref t2, .ref t3, .ref t4, .int 0, .int 0, .int 0, .int 0])), (t3, .inl (c6, 301, .inl (fun _ => 0))), (t4, .inl (c7, 301, .inl (fun _ => 0)))] t) (va_A [(h0, .inr (8, [.null, .null, .null, .null, .null, .null, .null, .int 0, .int 0, .int 0, .int 0, .int 0, .int 0, .int 0]))] sz)) 13 1181 (va_A [(h0, .inr (8, [.null, .null, .null, .null, .null, .null, .null, .int 0, .int 0, .int 0, .int 0, .int 0, .int 0, .int 0]))] sz) := by
  refine Met.ofW (cc := cX8_init) (maxL := 1) (ret := none) (by decide) rfl ?_
  intro p e s m args below meth c s₁ B hml hv
  obtain ⟨rfl, hsz, hP, hK, hD0, hN⟩ := hv
  have hx := B.exec
  have hb := B.bytes
  have hr := B.returns
  have hts := atoms_spec (ws := wsX8_init) B.pre
  have hown : s.vm.findClass RX8 = some m.cls := findClass_of_methodNamed B.named
  have hlocks := B.notSynchronized
  have hnm : meth.name = "<init>" := (name_of_methodNamed B.named B.method).1
  subst hsz
  have hD := hD0.self (sz := s.heap.size)
  generalize hAe : va_A [(h0, .inr (8, [.null, .null, .null, .null, .null, .null, .null, .int 0, .int 0, .int 0, .int 0, .int 0, .int 0, .int 0]))] s.heap.size = A at hD ⊢
  have hA : ∀ q : Nat, s.heap.size ≤ q → A q := fun q h => by rw [← hAe]; exact Or.inr h
  have hS : va_S A s.heap s.heap [] := va_S.rf
  have hin_X2 : ∀ w ∈ u_ws RX2 TX2 2, w ∈ wsX8_init := by decide +kernel
  have hin_X3 : ∀ w ∈ u_ws RX3 TX3 8, w ∈ wsX8_init := by decide +kernel
  have hin_X5 : ∀ w ∈ u_ws RX5 TX5 8, w ∈ wsX8_init := by decide +kernel
  have hin_X7 : ∀ w ∈ u_ws RX7 TX7 2, w ∈ wsX8_init := by decide +kernel
  have hin_X8 : ∀ w ∈ u_ws RX8 TX8 14, w ∈ wsX8_init := by decide +kernel
  have hl := lv_entry ([.ref h0]) (n := 1) (Nat.le_of_ble_eq_true rfl)
  rw [lg_entry_eq]
  generalize (lg_sl ([.ref h0]) ++ List.replicate (1 - (lg_sl ([.ref h0])).length) Slot.unset).toArray = ls at hl ⊢
  have hl : lv_has ls 1 [(0, .ref h0)] := hl
  refine lv_aload_n hx hb dX8_init_0 rfl (lv_at hl 0 rfl) ?_
  refine W.objInit hx hb hown (hts (.methodLink RX8 1 objectInit) (by decide +kernel)) (hts (.instanceMethod objectInit) (by decide +kernel)) (hts (.code objectInit ⟨#[0xb1]⟩ 1 none) (by decide +kernel)) rfl (by rw [hml]; exact hl.1) rfl dX8_init_1 (Nat.le_of_ble_eq_true rfl) (Nat.le_of_ble_eq_true rfl) ?_
  refine W.eq (g2 := F0 m 4 ls []) rfl ?_
  refine lv_aload_n hx hb dX8_init_4 rfl (lv_at hl 0 rfl) ?_
  refine lv_sipush (v := 200) hx hb dX8_init_5 (by decide) ?_
  refine va_newq (N' := 200) hx hb hown (hts (.classLink RX8 9 RX0) (by decide +kernel)) hN.1.1 hK hP hD hS hA (by decide) (by decide) (by decide) (Nat.le_of_ble_eq_true rfl) (Nat.le_of_ble_eq_true rfl) dX8_init_8 (fun q_1 cA_2 H_3 hK hP hD hS => ?_)
  have hP : va_P D vwCl [(h0, .inr (8, [.null, .null, .null, .null, .null, .null, .null, .int 0, .int 0, .int 0, .int 0, .int 0, .int 0, .int 0])), (q_1, .inl (cA_2, 200, .inr (.inr (.inr (.inr (fun _ => none))))))] H_3 := hP
  have hD : va_D A [(h0, .inr (8, [.null, .null, .null, .null, .null, .null, .null, .int 0, .int 0, .int 0, .int 0, .int 0, .int 0, .int 0])), (q_1, .inl (cA_2, 200, .inr (.inr (.inr (.inr (fun _ => none))))))] := hD
  have hK : va_K D vwCl [(cA_2, .object RX0)] s := hK
  refine va_putF (D := D) (ci := 8) (v := .ref q_1) (ty := .array (.object "CryOrder$Alarm")) (C := RX8) (T := TX8) (N := 14) hx hb hts hin_X8 tyX8 tyX8_ok nmX8 hown hK hP hD hS 0 rfl rfl 0 (by decide) (hts (.fieldLink RX8 11 "CryOrder" "alarms" "[LCryOrder$Alarm;") (by decide +kernel)) (fun _ h9 => h9) rfl hnm rfl (by decide +kernel) rfl rfl (Nat.le_of_ble_eq_true rfl) dX8_init_11 (fun H_4 locs hP hD hS => ?_)
  have hP : va_P D vwCl [(h0, .inr (8, [.ref q_1, .null, .null, .null, .null, .null, .null, .int 0, .int 0, .int 0, .int 0, .int 0, .int 0, .int 0])), (q_1, .inl (cA_2, 200, .inr (.inr (.inr (.inr (fun _ => none))))))] H_4 := hP
  have hD : va_D A [(h0, .inr (8, [.ref q_1, .null, .null, .null, .null, .null, .null, .int 0, .int 0, .int 0, .int 0, .int 0, .int 0, .int 0])), (q_1, .inl (cA_2, 200, .inr (.inr (.inr (.inr (fun _ => none))))))] := hD
  refine lv_aload_n hx hb dX8_init_14 rfl (lv_at hl 0 rfl) ?_
  refine lv_bipush (v := 40) hx hb dX8_init_15 (by decide) ?_
  refine va_newq (N' := 40) hx hb hown (hts (.classLink RX8 9 RX0) (by decide +kernel)) hN.1.1 hK hP hD hS hA (by decide) (by decide) (by decide) (Nat.le_of_ble_eq_true rfl) (Nat.le_of_ble_eq_true rfl) dX8_init_17 (fun q_5 cA_6 H_7 hK hP hD hS => ?_)
  have hP : va_P D vwCl [(h0, .inr (8, [.ref q_1, .null, .null, .null, .null, .null, .null, .int 0, .int 0, .int 0, .int 0, .int 0, .int 0, .int 0])), (q_1, .inl (cA_2, 200, .inr (.inr (.inr (.inr (fun _ => none)))))), (q_5, .inl (cA_6, 40, .inr (.inr (.inr (.inr (fun _ => none))))))] H_7 := hP
  have hD : va_D A [(h0, .inr (8, [.ref q_1, .null, .null, .null, .null, .null, .null, .int 0, .int 0, .int 0, .int 0, .int 0, .int 0, .int 0])), (q_1, .inl (cA_2, 200, .inr (.inr (.inr (.inr (fun _ => none)))))), (q_5, .inl (cA_6, 40, .inr (.inr (.inr (.inr (fun _ => none))))))] := hD
  have hK : va_K D vwCl [(cA_2, .object RX0), (cA_6, .object RX0)] s := hK
  refine va_putF (D := D) (ci := 8) (v := .ref q_5) (ty := .array (.object "CryOrder$Alarm")) (C := RX8) (T := TX8) (N := 14) hx hb hts hin_X8 tyX8 tyX8_ok nmX8 hown hK hP hD hS 0 rfl rfl 1 (by decide) (hts (.fieldLink RX8 15 "CryOrder" "latestOfThing" "[LCryOrder$Alarm;") (by decide +kernel)) (fun _ h9 => h9) rfl hnm rfl (by decide +kernel) rfl rfl (Nat.le_of_ble_eq_true rfl) dX8_init_20 (fun H_8 locs hP hD hS => ?_)
  have hP : va_P D vwCl [(h0, .inr (8, [.ref q_1, .ref q_5, .null, .null, .null, .null, .null, .int 0, .int 0, .int 0, .int 0, .int 0, .int 0, .int 0])), (q_1, .inl (cA_2, 200, .inr (.inr (.inr (.inr (fun _ => none)))))), (q_5, .inl (cA_6, 40, .inr (.inr (.inr (.inr (fun _ => none))))))] H_8 := hP
  have hD : va_D A [(h0, .inr (8, [.ref q_1, .ref q_5, .null, .null, .null, .null, .null, .int 0, .int 0, .int 0, .int 0, .int 0, .int 0, .int 0])), (q_1, .inl (cA_2, 200, .inr (.inr (.inr (.inr (fun _ => none)))))), (q_5, .inl (cA_6, 40, .inr (.inr (.inr (.inr (fun _ => none))))))] := hD
  refine lv_aload_n hx hb dX8_init_23 rfl (lv_at hl 0 rfl) ?_
  refine lv_bipush (v := 30) hx hb dX8_init_24 (by decide) ?_
  refine va_newq (N' := 30) hx hb hown (hts (.classLink RX8 18 RX6) (by decide +kernel)) hN.1.2.2.2 hK hP hD hS hA (by decide) (by decide) (by decide) (Nat.le_of_ble_eq_true rfl) (Nat.le_of_ble_eq_true rfl) dX8_init_26 (fun q_9 cA_10 H_11 hK hP hD hS => ?_)
  have hP : va_P D vwCl [(h0, .inr (8, [.ref q_1, .ref q_5, .null, .null, .null, .null, .null, .int 0, .int 0, .int 0, .int 0, .int 0, .int 0, .int 0])), (q_1, .inl (cA_2, 200, .inr (.inr (.inr (.inr (fun _ => none)))))), (q_5, .inl (cA_6, 40, .inr (.inr (.inr (.inr (fun _ => none)))))), (q_9, .inl (cA_10, 30, .inr (.inr (.inr (.inr (fun _ => none))))))] H_11 := hP
  have hD : va_D A [(h0, .inr (8, [.ref q_1, .ref q_5, .null, .null, .null, .null, .null, .int 0, .int 0, .int 0, .int 0, .int 0, .int 0, .int 0])), (q_1, .inl (cA_2, 200, .inr (.inr (.inr (.inr (fun _ => none)))))), (q_5, .inl (cA_6, 40, .inr (.inr (.inr (.inr (fun _ => none)))))), (q_9, .inl (cA_10, 30, .inr (.inr (.inr (.inr (fun _ => none))))))] := hD
  have hK : va_K D vwCl [(cA_2, .object RX0), (cA_6, .object RX0), (cA_10, .object RX6)] s := hK
  refine va_putF (D := D) (ci := 8) (v := .ref q_9) (ty := .array (.object "CryOrder$Silence")) (C := RX8) (T := TX8) (N := 14) hx hb hts hin_X8 tyX8 tyX8_ok nmX8 hown hK hP hD hS 0 rfl rfl 2 (by decide) (hts (.fieldLink RX8 20 "CryOrder" "silences" "[LCryOrder$Silence;") (by decide +kernel)) (fun _ h9 => h9) rfl hnm rfl (by decide +kernel) rfl rfl (Nat.le_of_ble_eq_true rfl) dX8_init_29 (fun H_12 locs hP hD hS => ?_)
  have hP : va_P D vwCl [(h0, .inr (8, [.ref q_1, .ref q_5, .ref q_9, .null, .null, .null, .null, .int 0, .int 0, .int 0, .int 0, .int 0, .int 0, .int 0])), (q_1, .inl (cA_2, 200, .inr (.inr (.inr (.inr (fun _ => none)))))), (q_5, .inl (cA_6, 40, .inr (.inr (.inr (.inr (fun _ => none)))))), (q_9, .inl (cA_10, 30, .inr (.inr (.inr (.inr (fun _ => none))))))] H_12 := hP
  have hD : va_D A [(h0, .inr (8, [.ref q_1, .ref q_5, .ref q_9, .null, .null, .null, .null, .int 0, .int 0, .int 0, .int 0, .int 0, .int 0, .int 0])), (q_1, .inl (cA_2, 200, .inr (.inr (.inr (.inr (fun _ => none)))))), (q_5, .inl (cA_6, 40, .inr (.inr (.inr (.inr (fun _ => none)))))), (q_9, .inl (cA_10, 30, .inr (.inr (.inr (.inr (fun _ => none))))))] := hD
  refine lv_aload_n hx hb dX8_init_32 rfl (lv_at hl 0 rfl) ?_
  refine va_new (ci := 3) (fs := [.null, .int 0, .int 0, .null, .null, .int 0, .int 0, .int 0]) (C := RX3) (T := TX3) (N := 8) hx hb hts hin_X3 tyX3 tyX3_ok hown (hts (.classLink RX8 24 RX3) (by decide +kernel)) (hts (.instantiable RX3 8) (by decide +kernel)) (hts (.initialized RX3) (by decide +kernel)) hK hP hD hS hA rfl dfX3 (Nat.le_of_ble_eq_true rfl) (Nat.le_of_ble_eq_true rfl) dX8_init_33 (fun q_13 H_14 hP hD hS => ?_)
  have hP : va_P D vwCl [(h0, .inr (8, [.ref q_1, .ref q_5, .ref q_9, .null, .null, .null, .null, .int 0, .int 0, .int 0, .int 0, .int 0, .int 0, .int 0])), (q_1, .inl (cA_2, 200, .inr (.inr (.inr (.inr (fun _ => none)))))), (q_5, .inl (cA_6, 40, .inr (.inr (.inr (.inr (fun _ => none)))))), (q_9, .inl (cA_10, 30, .inr (.inr (.inr (.inr (fun _ => none)))))), (q_13, .inr (3, [.null, .int 0, .int 0, .null, .null, .int 0, .int 0, .int 0]))] H_14 := hP
  have hD : va_D A [(h0, .inr (8, [.ref q_1, .ref q_5, .ref q_9, .null, .null, .null, .null, .int 0, .int 0, .int 0, .int 0, .int 0, .int 0, .int 0])), (q_1, .inl (cA_2, 200, .inr (.inr (.inr (.inr (fun _ => none)))))), (q_5, .inl (cA_6, 40, .inr (.inr (.inr (.inr (fun _ => none)))))), (q_9, .inl (cA_10, 30, .inr (.inr (.inr (.inr (fun _ => none)))))), (q_13, .inr (3, [.null, .int 0, .int 0, .null, .null, .int 0, .int 0, .int 0]))] := hD
  refine lv_dup hx hb dX8_init_36 rfl ?_
  refine lv_null hx hb dX8_init_37 ?_
  refine lv_iconst (v := 0) hx hb dX8_init_38 (by decide) ?_
  refine lv_null hx hb dX8_init_39 ?_
  refine va_callv (zwI (As := [.null, .int 0, .null]) (rest := [.ref q_13, .ref h0]) (wc := [(q_13, .inr (3, [.null, .int 0, .int 0, .null, .null, .int 0, .int 0, .int 0]))]) ⟨hx, hb, hml, hown, hts⟩ hN hK hP hD (k_X3_initA l D H_14.size q_13 0 ) (cwI 3 hts gX8_init_X3_init rfl rfl rfl (hts (.initialized RX3) (by decide +kernel)) (hts (.methodLink RX8 26 yX3_init) (by decide +kernel)) (hts (.instanceMethod yX3_init) (by decide +kernel)) rfl (by decide +kernel) ⟨(Nat.le_of_ble_eq_true rfl), (Nat.le_of_ble_eq_true rfl)⟩) [] [4] rfl rfl (by decide) rfl hl.1 rfl (Nat.le_of_ble_eq_true rfl) dX8_init_40 ⟨(Nat.le_of_ble_eq_true rfl), (Nat.le_of_ble_eq_true rfl)⟩) hS (fun q _ h => va_free (wc := [(q_13, .inr (3, [.null, .int 0, .int 0, .null, .null, .int 0, .int 0, .int 0]))]) hD hS hA [4] rfl q h) (va_free (wc := [(q_13, .inr (3, [.null, .int 0, .int 0, .null, .null, .int 0, .int 0, .int 0]))]) hD hS hA [4] rfl) (fun u t H_15 locs1 ht hvm hw hB hz1 hk1 hS1 => ?_)
  obtain ⟨hP, hD, hK⟩ := zj (wc := [(q_13, .inr (3, [.null, .int 0, .int 0, .null, .null, .int 0, .int 0, .int 0]))]) (wr := [(h0, .inr (8, [.ref q_1, .ref q_5, .ref q_9, .null, .null, .null, .null, .int 0, .int 0, .int 0, .int 0, .int 0, .int 0, .int 0])), (q_1, .inl (cA_2, 200, .inr (.inr (.inr (.inr (fun _ => none)))))), (q_5, .inl (cA_6, 40, .inr (.inr (.inr (.inr (fun _ => none)))))), (q_9, .inl (cA_10, 30, .inr (.inr (.inr (.inr (fun _ => none))))))]) (w1 := [(q_13, .inr (3, [.null, .int 0, .int 0, .null, .null, .int 0, .int 0, .int 0]))]) hK hP hD hS hA [4] [0, 1, 2, 3] rfl rfl (by decide) (by decide) hk1 ht hvm hB
  have hS := hS1
  have hP : va_P D vwCl [(h0, .inr (8, [.ref q_1, .ref q_5, .ref q_9, .null, .null, .null, .null, .int 0, .int 0, .int 0, .int 0, .int 0, .int 0, .int 0])), (q_1, .inl (cA_2, 200, .inr (.inr (.inr (.inr (fun _ => none)))))), (q_5, .inl (cA_6, 40, .inr (.inr (.inr (.inr (fun _ => none)))))), (q_9, .inl (cA_10, 30, .inr (.inr (.inr (.inr (fun _ => none)))))), (q_13, .inr (3, [.null, .int 0, .int 0, .null, .null, .int 0, .int 0, .int 0]))] H_15 := hP
  have hD : va_D A [(h0, .inr (8, [.ref q_1, .ref q_5, .ref q_9, .null, .null, .null, .null, .int 0, .int 0, .int 0, .int 0, .int 0, .int 0, .int 0])), (q_1, .inl (cA_2, 200, .inr (.inr (.inr (.inr (fun _ => none)))))), (q_5, .inl (cA_6, 40, .inr (.inr (.inr (.inr (fun _ => none)))))), (q_9, .inl (cA_10, 30, .inr (.inr (.inr (.inr (fun _ => none)))))), (q_13, .inr (3, [.null, .int 0, .int 0, .null, .null, .int 0, .int 0, .int 0]))] := hD
  have hK : va_K D vwCl [(cA_2, .object RX0), (cA_6, .object RX0), (cA_10, .object RX6)] s := hK
  refine va_putF (D := D) (ci := 8) (v := .ref q_13) (ty := .object "CryOrder$Node") (C := RX8) (T := TX8) (N := 14) hx hb hts hin_X8 tyX8 tyX8_ok nmX8 hown hK hP hD hS 0 rfl rfl 3 (by decide) (hts (.fieldLink RX8 29 "CryOrder" "root" "LCryOrder$Node;") (by decide +kernel)) (fun _ h9 => h9) rfl hnm rfl (by decide +kernel) rfl rfl (Nat.le_of_ble_eq_true rfl) dX8_init_43 (fun H_16 locs hP hD hS => ?_)
  have hP : va_P D vwCl [(h0, .inr (8, [.ref q_1, .ref q_5, .ref q_9, .ref q_13, .null, .null, .null, .int 0, .int 0, .int 0, .int 0, .int 0, .int 0, .int 0])), (q_1, .inl (cA_2, 200, .inr (.inr (.inr (.inr (fun _ => none)))))), (q_5, .inl (cA_6, 40, .inr (.inr (.inr (.inr (fun _ => none)))))), (q_9, .inl (cA_10, 30, .inr (.inr (.inr (.inr (fun _ => none)))))), (q_13, .inr (3, [.null, .int 0, .int 0, .null, .null, .int 0, .int 0, .int 0]))] H_16 := hP
  have hD : va_D A [(h0, .inr (8, [.ref q_1, .ref q_5, .ref q_9, .ref q_13, .null, .null, .null, .int 0, .int 0, .int 0, .int 0, .int 0, .int 0, .int 0])), (q_1, .inl (cA_2, 200, .inr (.inr (.inr (.inr (fun _ => none)))))), (q_5, .inl (cA_6, 40, .inr (.inr (.inr (.inr (fun _ => none)))))), (q_9, .inl (cA_10, 30, .inr (.inr (.inr (.inr (fun _ => none)))))), (q_13, .inr (3, [.null, .int 0, .int 0, .null, .null, .int 0, .int 0, .int 0]))] := hD
  refine lv_aload_n hx hb dX8_init_46 rfl (lv_at hl 0 rfl) ?_
  refine va_new (ci := 7) (fs := [.null, .int 0]) (C := RX7) (T := TX7) (N := 2) hx hb hts hin_X7 tyX7 tyX7_ok hown (hts (.classLink RX8 33 RX7) (by decide +kernel)) (hts (.instantiable RX7 2) (by decide +kernel)) (hts (.initialized RX7) (by decide +kernel)) hK hP hD hS hA rfl dfX7 (Nat.le_of_ble_eq_true rfl) (Nat.le_of_ble_eq_true rfl) dX8_init_47 (fun q_17 H_18 hP hD hS => ?_)
  have hP : va_P D vwCl [(h0, .inr (8, [.ref q_1, .ref q_5, .ref q_9, .ref q_13, .null, .null, .null, .int 0, .int 0, .int 0, .int 0, .int 0, .int 0, .int 0])), (q_1, .inl (cA_2, 200, .inr (.inr (.inr (.inr (fun _ => none)))))), (q_5, .inl (cA_6, 40, .inr (.inr (.inr (.inr (fun _ => none)))))), (q_9, .inl (cA_10, 30, .inr (.inr (.inr (.inr (fun _ => none)))))), (q_13, .inr (3, [.null, .int 0, .int 0, .null, .null, .int 0, .int 0, .int 0])), (q_17, .inr (7, [.null, .int 0]))] H_18 := hP
  have hD : va_D A [(h0, .inr (8, [.ref q_1, .ref q_5, .ref q_9, .ref q_13, .null, .null, .null, .int 0, .int 0, .int 0, .int 0, .int 0, .int 0, .int 0])), (q_1, .inl (cA_2, 200, .inr (.inr (.inr (.inr (fun _ => none)))))), (q_5, .inl (cA_6, 40, .inr (.inr (.inr (.inr (fun _ => none)))))), (q_9, .inl (cA_10, 30, .inr (.inr (.inr (.inr (fun _ => none)))))), (q_13, .inr (3, [.null, .int 0, .int 0, .null, .null, .int 0, .int 0, .int 0])), (q_17, .inr (7, [.null, .int 0]))] := hD
  refine lv_dup hx hb dX8_init_50 rfl ?_
  refine va_callv (zwN (As := []) (rest := [.ref q_17, .ref h0]) (wc := [(q_17, .inr (7, [.null, .int 0]))]) ⟨hx, hb, hml, hown, hts⟩ hN hK hP hD (k_X7_init l D H_18.size q_17 ) ⟨va_cnB 0 hts gX8_init_X7_init_n35 rfl rfl rfl hN.2.1.1 (hts (.initialized RX7) (by decide +kernel)) (by decide +kernel) ⟨(Nat.le_of_ble_eq_true rfl), (Nat.le_of_ble_eq_true rfl)⟩, rfl, (hts (.instanceMethod yX7_init) (by decide +kernel))⟩ [] [5] rfl rfl (by decide) rfl hl.1 rfl (Nat.le_of_ble_eq_true rfl) dX8_init_51 ⟨(Nat.le_of_ble_eq_true rfl), (Nat.le_of_ble_eq_true rfl)⟩) hS (fun q _ h => va_free (wc := [(q_17, .inr (7, [.null, .int 0]))]) hD hS hA [5] rfl q h) (va_free (wc := [(q_17, .inr (7, [.null, .int 0]))]) hD hS hA [5] rfl) (fun u t H_19 locs1 ht hvm hw hB hz1 hk1 hS1 => ?_)
  obtain ⟨q_20, cA_21, hB⟩ := hB
  obtain ⟨hP, hD, hK⟩ := zj (wc := [(q_17, .inr (7, [.null, .int 0]))]) (wr := [(h0, .inr (8, [.ref q_1, .ref q_5, .ref q_9, .ref q_13, .null, .null, .null, .int 0, .int 0, .int 0, .int 0, .int 0, .int 0, .int 0])), (q_1, .inl (cA_2, 200, .inr (.inr (.inr (.inr (fun _ => none)))))), (q_5, .inl (cA_6, 40, .inr (.inr (.inr (.inr (fun _ => none)))))), (q_9, .inl (cA_10, 30, .inr (.inr (.inr (.inr (fun _ => none)))))), (q_13, .inr (3, [.null, .int 0, .int 0, .null, .null, .int 0, .int 0, .int 0]))]) (w1 := [(q_17, .inr (7, [.ref q_20, .int 0])), (q_20, .inl (cA_21, 60, .inr (.inr (.inr (.inr (fun _ => none))))))]) hK hP hD hS hA [5] [0, 1, 2, 3, 4] rfl rfl (by decide) (by decide) hk1 ht hvm hB
  have hS := hS1
  have hP : va_P D vwCl [(h0, .inr (8, [.ref q_1, .ref q_5, .ref q_9, .ref q_13, .null, .null, .null, .int 0, .int 0, .int 0, .int 0, .int 0, .int 0, .int 0])), (q_1, .inl (cA_2, 200, .inr (.inr (.inr (.inr (fun _ => none)))))), (q_5, .inl (cA_6, 40, .inr (.inr (.inr (.inr (fun _ => none)))))), (q_9, .inl (cA_10, 30, .inr (.inr (.inr (.inr (fun _ => none)))))), (q_13, .inr (3, [.null, .int 0, .int 0, .null, .null, .int 0, .int 0, .int 0])), (q_17, .inr (7, [.ref q_20, .int 0])), (q_20, .inl (cA_21, 60, .inr (.inr (.inr (.inr (fun _ => none))))))] H_19 := hP
  have hD : va_D A [(h0, .inr (8, [.ref q_1, .ref q_5, .ref q_9, .ref q_13, .null, .null, .null, .int 0, .int 0, .int 0, .int 0, .int 0, .int 0, .int 0])), (q_1, .inl (cA_2, 200, .inr (.inr (.inr (.inr (fun _ => none)))))), (q_5, .inl (cA_6, 40, .inr (.inr (.inr (.inr (fun _ => none)))))), (q_9, .inl (cA_10, 30, .inr (.inr (.inr (.inr (fun _ => none)))))), (q_13, .inr (3, [.null, .int 0, .int 0, .null, .null, .int 0, .int 0, .int 0])), (q_17, .inr (7, [.ref q_20, .int 0])), (q_20, .inl (cA_21, 60, .inr (.inr (.inr (.inr (fun _ => none))))))] := hD
  have hK : va_K D vwCl [(cA_2, .object RX0), (cA_6, .object RX0), (cA_10, .object RX6), (cA_21, .object RX4)] s := hK
  refine va_putF (D := D) (ci := 8) (v := .ref q_17) (ty := .object "CryOrder$Ties") (C := RX8) (T := TX8) (N := 14) hx hb hts hin_X8 tyX8 tyX8_ok nmX8 hown hK hP hD hS 0 rfl rfl 4 (by decide) (hts (.fieldLink RX8 36 "CryOrder" "ties" "LCryOrder$Ties;") (by decide +kernel)) (fun _ h9 => h9) rfl hnm rfl (by decide +kernel) rfl rfl (Nat.le_of_ble_eq_true rfl) dX8_init_54 (fun H_22 locs hP hD hS => ?_)
  have hP : va_P D vwCl [(h0, .inr (8, [.ref q_1, .ref q_5, .ref q_9, .ref q_13, .ref q_17, .null, .null, .int 0, .int 0, .int 0, .int 0, .int 0, .int 0, .int 0])), (q_1, .inl (cA_2, 200, .inr (.inr (.inr (.inr (fun _ => none)))))), (q_5, .inl (cA_6, 40, .inr (.inr (.inr (.inr (fun _ => none)))))), (q_9, .inl (cA_10, 30, .inr (.inr (.inr (.inr (fun _ => none)))))), (q_13, .inr (3, [.null, .int 0, .int 0, .null, .null, .int 0, .int 0, .int 0])), (q_17, .inr (7, [.ref q_20, .int 0])), (q_20, .inl (cA_21, 60, .inr (.inr (.inr (.inr (fun _ => none))))))] H_22 := hP
  have hD : va_D A [(h0, .inr (8, [.ref q_1, .ref q_5, .ref q_9, .ref q_13, .ref q_17, .null, .null, .int 0, .int 0, .int 0, .int 0, .int 0, .int 0, .int 0])), (q_1, .inl (cA_2, 200, .inr (.inr (.inr (.inr (fun _ => none)))))), (q_5, .inl (cA_6, 40, .inr (.inr (.inr (.inr (fun _ => none)))))), (q_9, .inl (cA_10, 30, .inr (.inr (.inr (.inr (fun _ => none)))))), (q_13, .inr (3, [.null, .int 0, .int 0, .null, .null, .int 0, .int 0, .int 0])), (q_17, .inr (7, [.ref q_20, .int 0])), (q_20, .inl (cA_21, 60, .inr (.inr (.inr (.inr (fun _ => none))))))] := hD
  refine lv_aload_n hx hb dX8_init_57 rfl (lv_at hl 0 rfl) ?_
  refine va_new (ci := 2) (fs := [.null, .int 0]) (C := RX2) (T := TX2) (N := 2) hx hb hts hin_X2 tyX2 tyX2_ok hown (hts (.classLink RX8 40 RX2) (by decide +kernel)) (hts (.instantiable RX2 2) (by decide +kernel)) (hts (.initialized RX2) (by decide +kernel)) hK hP hD hS hA rfl dfX2 (Nat.le_of_ble_eq_true rfl) (Nat.le_of_ble_eq_true rfl) dX8_init_58 (fun q_23 H_24 hP hD hS => ?_)
  have hP : va_P D vwCl [(h0, .inr (8, [.ref q_1, .ref q_5, .ref q_9, .ref q_13, .ref q_17, .null, .null, .int 0, .int 0, .int 0, .int 0, .int 0, .int 0, .int 0])), (q_1, .inl (cA_2, 200, .inr (.inr (.inr (.inr (fun _ => none)))))), (q_5, .inl (cA_6, 40, .inr (.inr (.inr (.inr (fun _ => none)))))), (q_9, .inl (cA_10, 30, .inr (.inr (.inr (.inr (fun _ => none)))))), (q_13, .inr (3, [.null, .int 0, .int 0, .null, .null, .int 0, .int 0, .int 0])), (q_17, .inr (7, [.ref q_20, .int 0])), (q_20, .inl (cA_21, 60, .inr (.inr (.inr (.inr (fun _ => none)))))), (q_23, .inr (2, [.null, .int 0]))] H_24 := hP
  have hD : va_D A [(h0, .inr (8, [.ref q_1, .ref q_5, .ref q_9, .ref q_13, .ref q_17, .null, .null, .int 0, .int 0, .int 0, .int 0, .int 0, .int 0, .int 0])), (q_1, .inl (cA_2, 200, .inr (.inr (.inr (.inr (fun _ => none)))))), (q_5, .inl (cA_6, 40, .inr (.inr (.inr (.inr (fun _ => none)))))), (q_9, .inl (cA_10, 30, .inr (.inr (.inr (.inr (fun _ => none)))))), (q_13, .inr (3, [.null, .int 0, .int 0, .null, .null, .int 0, .int 0, .int 0])), (q_17, .inr (7, [.ref q_20, .int 0])), (q_20, .inl (cA_21, 60, .inr (.inr (.inr (.inr (fun _ => none)))))), (q_23, .inr (2, [.null, .int 0]))] := hD
  refine lv_dup hx hb dX8_init_61 rfl ?_
  refine va_callv (zwN (As := []) (rest := [.ref q_23, .ref h0]) (wc := [(q_23, .inr (2, [.null, .int 0]))]) ⟨hx, hb, hml, hown, hts⟩ hN hK hP hD (k_X2_init l D H_24.size q_23 ) ⟨va_cnB 0 hts gX8_init_X2_init_n42 rfl rfl rfl hN.2.1.2.1 (hts (.initialized RX2) (by decide +kernel)) (by decide +kernel) ⟨(Nat.le_of_ble_eq_true rfl), (Nat.le_of_ble_eq_true rfl)⟩, rfl, (hts (.instanceMethod yX2_init) (by decide +kernel))⟩ [] [7] rfl rfl (by decide) rfl hl.1 rfl (Nat.le_of_ble_eq_true rfl) dX8_init_62 ⟨(Nat.le_of_ble_eq_true rfl), (Nat.le_of_ble_eq_true rfl)⟩) hS (fun q _ h => va_free (wc := [(q_23, .inr (2, [.null, .int 0]))]) hD hS hA [7] rfl q h) (va_free (wc := [(q_23, .inr (2, [.null, .int 0]))]) hD hS hA [7] rfl) (fun u t H_25 locs1 ht hvm hw hB hz1 hk1 hS1 => ?_)
  obtain ⟨q_26, cA_27, hB⟩ := hB
  obtain ⟨hP, hD, hK⟩ := zj (wc := [(q_23, .inr (2, [.null, .int 0]))]) (wr := [(h0, .inr (8, [.ref q_1, .ref q_5, .ref q_9, .ref q_13, .ref q_17, .null, .null, .int 0, .int 0, .int 0, .int 0, .int 0, .int 0, .int 0])), (q_1, .inl (cA_2, 200, .inr (.inr (.inr (.inr (fun _ => none)))))), (q_5, .inl (cA_6, 40, .inr (.inr (.inr (.inr (fun _ => none)))))), (q_9, .inl (cA_10, 30, .inr (.inr (.inr (.inr (fun _ => none)))))), (q_13, .inr (3, [.null, .int 0, .int 0, .null, .null, .int 0, .int 0, .int 0])), (q_17, .inr (7, [.ref q_20, .int 0])), (q_20, .inl (cA_21, 60, .inr (.inr (.inr (.inr (fun _ => none))))))]) (w1 := [(q_23, .inr (2, [.ref q_26, .int 0])), (q_26, .inl (cA_27, 200, .inr (.inr (.inr (.inr (fun _ => none))))))]) hK hP hD hS hA [7] [0, 1, 2, 3, 4, 5, 6] rfl rfl (by decide) (by decide) hk1 ht hvm hB
  have hS := hS1
  have hP : va_P D vwCl [(h0, .inr (8, [.ref q_1, .ref q_5, .ref q_9, .ref q_13, .ref q_17, .null, .null, .int 0, .int 0, .int 0, .int 0, .int 0, .int 0, .int 0])), (q_1, .inl (cA_2, 200, .inr (.inr (.inr (.inr (fun _ => none)))))), (q_5, .inl (cA_6, 40, .inr (.inr (.inr (.inr (fun _ => none)))))), (q_9, .inl (cA_10, 30, .inr (.inr (.inr (.inr (fun _ => none)))))), (q_13, .inr (3, [.null, .int 0, .int 0, .null, .null, .int 0, .int 0, .int 0])), (q_17, .inr (7, [.ref q_20, .int 0])), (q_20, .inl (cA_21, 60, .inr (.inr (.inr (.inr (fun _ => none)))))), (q_23, .inr (2, [.ref q_26, .int 0])), (q_26, .inl (cA_27, 200, .inr (.inr (.inr (.inr (fun _ => none))))))] H_25 := hP
  have hD : va_D A [(h0, .inr (8, [.ref q_1, .ref q_5, .ref q_9, .ref q_13, .ref q_17, .null, .null, .int 0, .int 0, .int 0, .int 0, .int 0, .int 0, .int 0])), (q_1, .inl (cA_2, 200, .inr (.inr (.inr (.inr (fun _ => none)))))), (q_5, .inl (cA_6, 40, .inr (.inr (.inr (.inr (fun _ => none)))))), (q_9, .inl (cA_10, 30, .inr (.inr (.inr (.inr (fun _ => none)))))), (q_13, .inr (3, [.null, .int 0, .int 0, .null, .null, .int 0, .int 0, .int 0])), (q_17, .inr (7, [.ref q_20, .int 0])), (q_20, .inl (cA_21, 60, .inr (.inr (.inr (.inr (fun _ => none)))))), (q_23, .inr (2, [.ref q_26, .int 0])), (q_26, .inl (cA_27, 200, .inr (.inr (.inr (.inr (fun _ => none))))))] := hD
  have hK : va_K D vwCl [(cA_2, .object RX0), (cA_6, .object RX0), (cA_10, .object RX6), (cA_21, .object RX4), (cA_27, .object RX1)] s := hK
  refine va_putF (D := D) (ci := 8) (v := .ref q_23) (ty := .object "CryOrder$Cases") (C := RX8) (T := TX8) (N := 14) hx hb hts hin_X8 tyX8 tyX8_ok nmX8 hown hK hP hD hS 0 rfl rfl 5 (by decide) (hts (.fieldLink RX8 43 "CryOrder" "cases" "LCryOrder$Cases;") (by decide +kernel)) (fun _ h9 => h9) rfl hnm rfl (by decide +kernel) rfl rfl (Nat.le_of_ble_eq_true rfl) dX8_init_65 (fun H_28 locs hP hD hS => ?_)
  have hP : va_P D vwCl [(h0, .inr (8, [.ref q_1, .ref q_5, .ref q_9, .ref q_13, .ref q_17, .ref q_23, .null, .int 0, .int 0, .int 0, .int 0, .int 0, .int 0, .int 0])), (q_1, .inl (cA_2, 200, .inr (.inr (.inr (.inr (fun _ => none)))))), (q_5, .inl (cA_6, 40, .inr (.inr (.inr (.inr (fun _ => none)))))), (q_9, .inl (cA_10, 30, .inr (.inr (.inr (.inr (fun _ => none)))))), (q_13, .inr (3, [.null, .int 0, .int 0, .null, .null, .int 0, .int 0, .int 0])), (q_17, .inr (7, [.ref q_20, .int 0])), (q_20, .inl (cA_21, 60, .inr (.inr (.inr (.inr (fun _ => none)))))), (q_23, .inr (2, [.ref q_26, .int 0])), (q_26, .inl (cA_27, 200, .inr (.inr (.inr (.inr (fun _ => none))))))] H_28 := hP
  have hD : va_D A [(h0, .inr (8, [.ref q_1, .ref q_5, .ref q_9, .ref q_13, .ref q_17, .ref q_23, .null, .int 0, .int 0, .int 0, .int 0, .int 0, .int 0, .int 0])), (q_1, .inl (cA_2, 200, .inr (.inr (.inr (.inr (fun _ => none)))))), (q_5, .inl (cA_6, 40, .inr (.inr (.inr (.inr (fun _ => none)))))), (q_9, .inl (cA_10, 30, .inr (.inr (.inr (.inr (fun _ => none)))))), (q_13, .inr (3, [.null, .int 0, .int 0, .null, .null, .int 0, .int 0, .int 0])), (q_17, .inr (7, [.ref q_20, .int 0])), (q_20, .inl (cA_21, 60, .inr (.inr (.inr (.inr (fun _ => none)))))), (q_23, .inr (2, [.ref q_26, .int 0])), (q_26, .inl (cA_27, 200, .inr (.inr (.inr (.inr (fun _ => none))))))] := hD
  refine lv_aload_n hx hb dX8_init_68 rfl (lv_at hl 0 rfl) ?_
  refine va_new (ci := 5) (fs := [.null, .null, .null, .null, .int 0, .int 0, .int 0, .int 0]) (C := RX5) (T := TX5) (N := 8) hx hb hts hin_X5 tyX5 tyX5_ok hown (hts (.classLink RX8 47 RX5) (by decide +kernel)) (hts (.instantiable RX5 8) (by decide +kernel)) (hts (.initialized RX5) (by decide +kernel)) hK hP hD hS hA rfl dfX5 (Nat.le_of_ble_eq_true rfl) (Nat.le_of_ble_eq_true rfl) dX8_init_69 (fun q_29 H_30 hP hD hS => ?_)
  have hP : va_P D vwCl [(h0, .inr (8, [.ref q_1, .ref q_5, .ref q_9, .ref q_13, .ref q_17, .ref q_23, .null, .int 0, .int 0, .int 0, .int 0, .int 0, .int 0, .int 0])), (q_1, .inl (cA_2, 200, .inr (.inr (.inr (.inr (fun _ => none)))))), (q_5, .inl (cA_6, 40, .inr (.inr (.inr (.inr (fun _ => none)))))), (q_9, .inl (cA_10, 30, .inr (.inr (.inr (.inr (fun _ => none)))))), (q_13, .inr (3, [.null, .int 0, .int 0, .null, .null, .int 0, .int 0, .int 0])), (q_17, .inr (7, [.ref q_20, .int 0])), (q_20, .inl (cA_21, 60, .inr (.inr (.inr (.inr (fun _ => none)))))), (q_23, .inr (2, [.ref q_26, .int 0])), (q_26, .inl (cA_27, 200, .inr (.inr (.inr (.inr (fun _ => none)))))), (q_29, .inr (5, [.null, .null, .null, .null, .int 0, .int 0, .int 0, .int 0]))] H_30 := hP
  have hD : va_D A [(h0, .inr (8, [.ref q_1, .ref q_5, .ref q_9, .ref q_13, .ref q_17, .ref q_23, .null, .int 0, .int 0, .int 0, .int 0, .int 0, .int 0, .int 0])), (q_1, .inl (cA_2, 200, .inr (.inr (.inr (.inr (fun _ => none)))))), (q_5, .inl (cA_6, 40, .inr (.inr (.inr (.inr (fun _ => none)))))), (q_9, .inl (cA_10, 30, .inr (.inr (.inr (.inr (fun _ => none)))))), (q_13, .inr (3, [.null, .int 0, .int 0, .null, .null, .int 0, .int 0, .int 0])), (q_17, .inr (7, [.ref q_20, .int 0])), (q_20, .inl (cA_21, 60, .inr (.inr (.inr (.inr (fun _ => none)))))), (q_23, .inr (2, [.ref q_26, .int 0])), (q_26, .inl (cA_27, 200, .inr (.inr (.inr (.inr (fun _ => none)))))), (q_29, .inr (5, [.null, .null, .null, .null, .int 0, .int 0, .int 0, .int 0]))] := hD
  refine lv_dup hx hb dX8_init_72 rfl ?_
  refine va_callv (zwN (As := []) (rest := [.ref q_29, .ref h0]) (wc := [(q_29, .inr (5, [.null, .null, .null, .null, .int 0, .int 0, .int 0, .int 0]))]) ⟨hx, hb, hml, hown, hts⟩ hN hK hP hD (k_X5_init l D H_30.size q_29 ) ⟨va_cnB 0 hts gX8_init_X5_init_n49 rfl rfl rfl hN.2.1.2.2 (hts (.initialized RX5) (by decide +kernel)) (by decide +kernel) ⟨(Nat.le_of_ble_eq_true rfl), (Nat.le_of_ble_eq_true rfl)⟩, rfl, (hts (.instanceMethod yX5_init) (by decide +kernel))⟩ [] [9] rfl rfl (by decide) rfl hl.1 rfl (Nat.le_of_ble_eq_true rfl) dX8_init_73 ⟨(Nat.le_of_ble_eq_true rfl), (Nat.le_of_ble_eq_true rfl)⟩) hS (fun q _ h => va_free (wc := [(q_29, .inr (5, [.null, .null, .null, .null, .int 0, .int 0, .int 0, .int 0]))]) hD hS hA [9] rfl q h) (va_free (wc := [(q_29, .inr (5, [.null, .null, .null, .null, .int 0, .int 0, .int 0, .int 0]))]) hD hS hA [9] rfl) (fun u t H_31 locs1 ht hvm hw hB hz1 hk1 hS1 => ?_)
  obtain ⟨q_32, cA_33, q_34, cA_35, q_36, cA_37, q_38, cA_39, hB⟩ := hB
  obtain ⟨hP, hD, hK⟩ := zj (wc := [(q_29, .inr (5, [.null, .null, .null, .null, .int 0, .int 0, .int 0, .int 0]))]) (wr := [(h0, .inr (8, [.ref q_1, .ref q_5, .ref q_9, .ref q_13, .ref q_17, .ref q_23, .null, .int 0, .int 0, .int 0, .int 0, .int 0, .int 0, .int 0])), (q_1, .inl (cA_2, 200, .inr (.inr (.inr (.inr (fun _ => none)))))), (q_5, .inl (cA_6, 40, .inr (.inr (.inr (.inr (fun _ => none)))))), (q_9, .inl (cA_10, 30, .inr (.inr (.inr (.inr (fun _ => none)))))), (q_13, .inr (3, [.null, .int 0, .int 0, .null, .null, .int 0, .int 0, .int 0])), (q_17, .inr (7, [.ref q_20, .int 0])), (q_20, .inl (cA_21, 60, .inr (.inr (.inr (.inr (fun _ => none)))))), (q_23, .inr (2, [.ref q_26, .int 0])), (q_26, .inl (cA_27, 200, .inr (.inr (.inr (.inr (fun _ => none))))))]) (w1 := [(q_29, .inr (5, [.ref q_32, .ref q_34, .ref q_36, .ref q_38, .int 0, .int 0, .int 0, .int 0])), (q_32, .inl (cA_33, 17, .inr (.inr (.inr (.inr (fun _ => none)))))), (q_34, .inl (cA_35, 12, .inr (.inr (.inr (.inr (fun _ => none)))))), (q_36, .inl (cA_37, 301, .inl (fun _ => 0))), (q_38, .inl (cA_39, 301, .inl (fun _ => 0)))]) hK hP hD hS hA [9] [0, 1, 2, 3, 4, 5, 6, 7, 8] rfl rfl (by decide) (by decide) hk1 ht hvm hB
  have hS := hS1
  have hP : va_P D vwCl [(h0, .inr (8, [.ref q_1, .ref q_5, .ref q_9, .ref q_13, .ref q_17, .ref q_23, .null, .int 0, .int 0, .int 0, .int 0, .int 0, .int 0, .int 0])), (q_1, .inl (cA_2, 200, .inr (.inr (.inr (.inr (fun _ => none)))))), (q_5, .inl (cA_6, 40, .inr (.inr (.inr (.inr (fun _ => none)))))), (q_9, .inl (cA_10, 30, .inr (.inr (.inr (.inr (fun _ => none)))))), (q_13, .inr (3, [.null, .int 0, .int 0, .null, .null, .int 0, .int 0, .int 0])), (q_17, .inr (7, [.ref q_20, .int 0])), (q_20, .inl (cA_21, 60, .inr (.inr (.inr (.inr (fun _ => none)))))), (q_23, .inr (2, [.ref q_26, .int 0])), (q_26, .inl (cA_27, 200, .inr (.inr (.inr (.inr (fun _ => none)))))), (q_29, .inr (5, [.ref q_32, .ref q_34, .ref q_36, .ref q_38, .int 0, .int 0, .int 0, .int 0])), (q_32, .inl (cA_33, 17, .inr (.inr (.inr (.inr (fun _ => none)))))), (q_34, .inl (cA_35, 12, .inr (.inr (.inr (.inr (fun _ => none)))))), (q_36, .inl (cA_37, 301, .inl (fun _ => 0))), (q_38, .inl (cA_39, 301, .inl (fun _ => 0)))] H_31 := hP
  have hD : va_D A [(h0, .inr (8, [.ref q_1, .ref q_5, .ref q_9, .ref q_13, .ref q_17, .ref q_23, .null, .int 0, .int 0, .int 0, .int 0, .int 0, .int 0, .int 0])), (q_1, .inl (cA_2, 200, .inr (.inr (.inr (.inr (fun _ => none)))))), (q_5, .inl (cA_6, 40, .inr (.inr (.inr (.inr (fun _ => none)))))), (q_9, .inl (cA_10, 30, .inr (.inr (.inr (.inr (fun _ => none)))))), (q_13, .inr (3, [.null, .int 0, .int 0, .null, .null, .int 0, .int 0, .int 0])), (q_17, .inr (7, [.ref q_20, .int 0])), (q_20, .inl (cA_21, 60, .inr (.inr (.inr (.inr (fun _ => none)))))), (q_23, .inr (2, [.ref q_26, .int 0])), (q_26, .inl (cA_27, 200, .inr (.inr (.inr (.inr (fun _ => none)))))), (q_29, .inr (5, [.ref q_32, .ref q_34, .ref q_36, .ref q_38, .int 0, .int 0, .int 0, .int 0])), (q_32, .inl (cA_33, 17, .inr (.inr (.inr (.inr (fun _ => none)))))), (q_34, .inl (cA_35, 12, .inr (.inr (.inr (.inr (fun _ => none)))))), (q_36, .inl (cA_37, 301, .inl (fun _ => 0))), (q_38, .inl (cA_39, 301, .inl (fun _ => 0)))] := hD
  have hK : va_K D vwCl [(cA_2, .object RX0), (cA_6, .object RX0), (cA_10, .object RX6), (cA_21, .object RX4), (cA_27, .object RX1), (cA_33, .object RX1), (cA_35, .object RX1), (cA_37, .int), (cA_39, .int)] s := hK
  refine va_putF (D := D) (ci := 8) (v := .ref q_29) (ty := .object "CryOrder$Plan") (C := RX8) (T := TX8) (N := 14) hx hb hts hin_X8 tyX8 tyX8_ok nmX8 hown hK hP hD hS 0 rfl rfl 6 (by decide) (hts (.fieldLink RX8 50 "CryOrder" "planner" "LCryOrder$Plan;") (by decide +kernel)) (fun _ h9 => h9) rfl hnm rfl (by decide +kernel) rfl rfl (Nat.le_of_ble_eq_true rfl) dX8_init_76 (fun H_40 locs hP hD hS => ?_)
  have hP : va_P D vwCl [(h0, .inr (8, [.ref q_1, .ref q_5, .ref q_9, .ref q_13, .ref q_17, .ref q_23, .ref q_29, .int 0, .int 0, .int 0, .int 0, .int 0, .int 0, .int 0])), (q_1, .inl (cA_2, 200, .inr (.inr (.inr (.inr (fun _ => none)))))), (q_5, .inl (cA_6, 40, .inr (.inr (.inr (.inr (fun _ => none)))))), (q_9, .inl (cA_10, 30, .inr (.inr (.inr (.inr (fun _ => none)))))), (q_13, .inr (3, [.null, .int 0, .int 0, .null, .null, .int 0, .int 0, .int 0])), (q_17, .inr (7, [.ref q_20, .int 0])), (q_20, .inl (cA_21, 60, .inr (.inr (.inr (.inr (fun _ => none)))))), (q_23, .inr (2, [.ref q_26, .int 0])), (q_26, .inl (cA_27, 200, .inr (.inr (.inr (.inr (fun _ => none)))))), (q_29, .inr (5, [.ref q_32, .ref q_34, .ref q_36, .ref q_38, .int 0, .int 0, .int 0, .int 0])), (q_32, .inl (cA_33, 17, .inr (.inr (.inr (.inr (fun _ => none)))))), (q_34, .inl (cA_35, 12, .inr (.inr (.inr (.inr (fun _ => none)))))), (q_36, .inl (cA_37, 301, .inl (fun _ => 0))), (q_38, .inl (cA_39, 301, .inl (fun _ => 0)))] H_40 := hP
  have hD : va_D A [(h0, .inr (8, [.ref q_1, .ref q_5, .ref q_9, .ref q_13, .ref q_17, .ref q_23, .ref q_29, .int 0, .int 0, .int 0, .int 0, .int 0, .int 0, .int 0])), (q_1, .inl (cA_2, 200, .inr (.inr (.inr (.inr (fun _ => none)))))), (q_5, .inl (cA_6, 40, .inr (.inr (.inr (.inr (fun _ => none)))))), (q_9, .inl (cA_10, 30, .inr (.inr (.inr (.inr (fun _ => none)))))), (q_13, .inr (3, [.null, .int 0, .int 0, .null, .null, .int 0, .int 0, .int 0])), (q_17, .inr (7, [.ref q_20, .int 0])), (q_20, .inl (cA_21, 60, .inr (.inr (.inr (.inr (fun _ => none)))))), (q_23, .inr (2, [.ref q_26, .int 0])), (q_26, .inl (cA_27, 200, .inr (.inr (.inr (.inr (fun _ => none)))))), (q_29, .inr (5, [.ref q_32, .ref q_34, .ref q_36, .ref q_38, .int 0, .int 0, .int 0, .int 0])), (q_32, .inl (cA_33, 17, .inr (.inr (.inr (.inr (fun _ => none)))))), (q_34, .inl (cA_35, 12, .inr (.inr (.inr (.inr (fun _ => none)))))), (q_36, .inl (cA_37, 301, .inl (fun _ => 0))), (q_38, .inl (cA_39, 301, .inl (fun _ => 0)))] := hD
  refine lv_aload_n hx hb dX8_init_79 rfl (lv_at hl 0 rfl) ?_
  refine lv_bipush (v := 50) hx hb dX8_init_80 (by decide) ?_
  refine va_put (D := D) (ci := 8) (v := .int 50) (ty := .int) (C := RX8) (T := TX8) (N := 14) hx hb hts hin_X8 tyX8 tyX8_ok nmX8 hown hK hP hD hS 0 rfl rfl 10 (by decide) (hts (.fieldLink RX8 54 "CryOrder" "cap" "I") (by decide +kernel)) (fun _ h9 => h9) rfl (by decide +kernel) rfl rfl (Nat.le_of_ble_eq_true rfl) dX8_init_82 (fun H_41 locs hP hD hS => ?_)
  have hP : va_P D vwCl [(h0, .inr (8, [.ref q_1, .ref q_5, .ref q_9, .ref q_13, .ref q_17, .ref q_23, .ref q_29, .int 0, .int 0, .int 0, .int 50, .int 0, .int 0, .int 0])), (q_1, .inl (cA_2, 200, .inr (.inr (.inr (.inr (fun _ => none)))))), (q_5, .inl (cA_6, 40, .inr (.inr (.inr (.inr (fun _ => none)))))), (q_9, .inl (cA_10, 30, .inr (.inr (.inr (.inr (fun _ => none)))))), (q_13, .inr (3, [.null, .int 0, .int 0, .null, .null, .int 0, .int 0, .int 0])), (q_17, .inr (7, [.ref q_20, .int 0])), (q_20, .inl (cA_21, 60, .inr (.inr (.inr (.inr (fun _ => none)))))), (q_23, .inr (2, [.ref q_26, .int 0])), (q_26, .inl (cA_27, 200, .inr (.inr (.inr (.inr (fun _ => none)))))), (q_29, .inr (5, [.ref q_32, .ref q_34, .ref q_36, .ref q_38, .int 0, .int 0, .int 0, .int 0])), (q_32, .inl (cA_33, 17, .inr (.inr (.inr (.inr (fun _ => none)))))), (q_34, .inl (cA_35, 12, .inr (.inr (.inr (.inr (fun _ => none)))))), (q_36, .inl (cA_37, 301, .inl (fun _ => 0))), (q_38, .inl (cA_39, 301, .inl (fun _ => 0)))] H_41 := hP
  have hD : va_D A [(h0, .inr (8, [.ref q_1, .ref q_5, .ref q_9, .ref q_13, .ref q_17, .ref q_23, .ref q_29, .int 0, .int 0, .int 0, .int 50, .int 0, .int 0, .int 0])), (q_1, .inl (cA_2, 200, .inr (.inr (.inr (.inr (fun _ => none)))))), (q_5, .inl (cA_6, 40, .inr (.inr (.inr (.inr (fun _ => none)))))), (q_9, .inl (cA_10, 30, .inr (.inr (.inr (.inr (fun _ => none)))))), (q_13, .inr (3, [.null, .int 0, .int 0, .null, .null, .int 0, .int 0, .int 0])), (q_17, .inr (7, [.ref q_20, .int 0])), (q_20, .inl (cA_21, 60, .inr (.inr (.inr (.inr (fun _ => none)))))), (q_23, .inr (2, [.ref q_26, .int 0])), (q_26, .inl (cA_27, 200, .inr (.inr (.inr (.inr (fun _ => none)))))), (q_29, .inr (5, [.ref q_32, .ref q_34, .ref q_36, .ref q_38, .int 0, .int 0, .int 0, .int 0])), (q_32, .inl (cA_33, 17, .inr (.inr (.inr (.inr (fun _ => none)))))), (q_34, .inl (cA_35, 12, .inr (.inr (.inr (.inr (fun _ => none)))))), (q_36, .inl (cA_37, 301, .inl (fun _ => 0))), (q_38, .inl (cA_39, 301, .inl (fun _ => 0)))] := hD
  refine lv_aload_n hx hb dX8_init_85 rfl (lv_at hl 0 rfl) ?_
  refine lv_iconst (v := 3) hx hb dX8_init_86 (by decide) ?_
  refine va_put (D := D) (ci := 8) (v := .int 3) (ty := .int) (C := RX8) (T := TX8) (N := 14) hx hb hts hin_X8 tyX8 tyX8_ok nmX8 hown hK hP hD hS 0 rfl rfl 11 (by decide) (hts (.fieldLink RX8 58 "CryOrder" "leastSettled" "I") (by decide +kernel)) (fun _ h9 => h9) rfl (by decide +kernel) rfl rfl (Nat.le_of_ble_eq_true rfl) dX8_init_87 (fun H_42 locs hP hD hS => ?_)
  have hP : va_P D vwCl [(h0, .inr (8, [.ref q_1, .ref q_5, .ref q_9, .ref q_13, .ref q_17, .ref q_23, .ref q_29, .int 0, .int 0, .int 0, .int 50, .int 3, .int 0, .int 0])), (q_1, .inl (cA_2, 200, .inr (.inr (.inr (.inr (fun _ => none)))))), (q_5, .inl (cA_6, 40, .inr (.inr (.inr (.inr (fun _ => none)))))), (q_9, .inl (cA_10, 30, .inr (.inr (.inr (.inr (fun _ => none)))))), (q_13, .inr (3, [.null, .int 0, .int 0, .null, .null, .int 0, .int 0, .int 0])), (q_17, .inr (7, [.ref q_20, .int 0])), (q_20, .inl (cA_21, 60, .inr (.inr (.inr (.inr (fun _ => none)))))), (q_23, .inr (2, [.ref q_26, .int 0])), (q_26, .inl (cA_27, 200, .inr (.inr (.inr (.inr (fun _ => none)))))), (q_29, .inr (5, [.ref q_32, .ref q_34, .ref q_36, .ref q_38, .int 0, .int 0, .int 0, .int 0])), (q_32, .inl (cA_33, 17, .inr (.inr (.inr (.inr (fun _ => none)))))), (q_34, .inl (cA_35, 12, .inr (.inr (.inr (.inr (fun _ => none)))))), (q_36, .inl (cA_37, 301, .inl (fun _ => 0))), (q_38, .inl (cA_39, 301, .inl (fun _ => 0)))] H_42 := hP
  have hD : va_D A [(h0, .inr (8, [.ref q_1, .ref q_5, .ref q_9, .ref q_13, .ref q_17, .ref q_23, .ref q_29, .int 0, .int 0, .int 0, .int 50, .int 3, .int 0, .int 0])), (q_1, .inl (cA_2, 200, .inr (.inr (.inr (.inr (fun _ => none)))))), (q_5, .inl (cA_6, 40, .inr (.inr (.inr (.inr (fun _ => none)))))), (q_9, .inl (cA_10, 30, .inr (.inr (.inr (.inr (fun _ => none)))))), (q_13, .inr (3, [.null, .int 0, .int 0, .null, .null, .int 0, .int 0, .int 0])), (q_17, .inr (7, [.ref q_20, .int 0])), (q_20, .inl (cA_21, 60, .inr (.inr (.inr (.inr (fun _ => none)))))), (q_23, .inr (2, [.ref q_26, .int 0])), (q_26, .inl (cA_27, 200, .inr (.inr (.inr (.inr (fun _ => none)))))), (q_29, .inr (5, [.ref q_32, .ref q_34, .ref q_36, .ref q_38, .int 0, .int 0, .int 0, .int 0])), (q_32, .inl (cA_33, 17, .inr (.inr (.inr (.inr (fun _ => none)))))), (q_34, .inl (cA_35, 12, .inr (.inr (.inr (.inr (fun _ => none)))))), (q_36, .inl (cA_37, 301, .inl (fun _ => 0))), (q_38, .inl (cA_39, 301, .inl (fun _ => 0)))] := hD
  refine W.widen (k := 13) (n := 1181) (Nat.le_of_ble_eq_true rfl) (Nat.le_of_ble_eq_true rfl) ?_
  have hP9 := hP.sub (ws' := [(h0, .inr (8, [.ref q_1, .ref q_5, .ref q_9, .ref q_13, .ref q_17, .ref q_23, .ref q_29, .int 0, .int 0, .int 0, .int 50, .int 3, .int 0, .int 0])), (q_1, .inl (cA_2, 200, .inr (.inr (.inr (.inr (fun _ => none)))))), (q_5, .inl (cA_6, 40, .inr (.inr (.inr (.inr (fun _ => none)))))), (q_9, .inl (cA_10, 30, .inr (.inr (.inr (.inr (fun _ => none)))))), (q_13, .inr (3, [.null, .int 0, .int 0, .null, .null, .int 0, .int 0, .int 0])), (q_17, .inr (7, [.ref q_20, .int 0])), (q_23, .inr (2, [.ref q_26, .int 0])), (q_29, .inr (5, [.ref q_32, .ref q_34, .ref q_36, .ref q_38, .int 0, .int 0, .int 0, .int 0])), (q_36, .inl (cA_37, 301, .inl (fun _ => 0))), (q_38, .inl (cA_39, 301, .inl (fun _ => 0)))]) [0, 1, 2, 3, 4, 5, 7, 9, 12, 13] rfl
  have hD9 := hD.sub (ws' := [(h0, .inr (8, [.ref q_1, .ref q_5, .ref q_9, .ref q_13, .ref q_17, .ref q_23, .ref q_29, .int 0, .int 0, .int 0, .int 50, .int 3, .int 0, .int 0])), (q_1, .inl (cA_2, 200, .inr (.inr (.inr (.inr (fun _ => none)))))), (q_5, .inl (cA_6, 40, .inr (.inr (.inr (.inr (fun _ => none)))))), (q_9, .inl (cA_10, 30, .inr (.inr (.inr (.inr (fun _ => none)))))), (q_13, .inr (3, [.null, .int 0, .int 0, .null, .null, .int 0, .int 0, .int 0])), (q_17, .inr (7, [.ref q_20, .int 0])), (q_23, .inr (2, [.ref q_26, .int 0])), (q_29, .inr (5, [.ref q_32, .ref q_34, .ref q_36, .ref q_38, .int 0, .int 0, .int 0, .int 0])), (q_36, .inl (cA_37, 301, .inl (fun _ => 0))), (q_38, .inl (cA_39, 301, .inl (fun _ => 0)))]) [0, 1, 2, 3, 4, 5, 7, 9, 12, 13] (by decide) rfl
  have hK9 := hK.sub (tys' := [(cA_2, .object RX0), (cA_6, .object RX0), (cA_10, .object RX6), (cA_37, .int), (cA_39, .int)]) [0, 1, 2, 7, 8] rfl
  exact W.vret hx hb hr (fun t ht hW => ⟨⟨(), rfl, trivial, q_1, q_5, q_9, q_13, q_17, q_23, q_29, q_20, q_26, q_32, q_34, q_36, q_38, cA_2, cA_6, cA_10, cA_37, cA_39, by rw [ht]; exact hP9, va_K.moved hW.alike hK9, hD9⟩, hS.F ht⟩) hS.2.2 dX8_init_90
