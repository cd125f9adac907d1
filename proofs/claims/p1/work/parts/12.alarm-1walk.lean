set_option maxHeartbeats 4000000 in
set_option maxRecDepth 100000 in
theorem k_X3_grow (l : Launch) (D : va_G) (sz : Nat) (h0 : Nat) (x1 : Int32) (x2 : Int32) (x5 : Int32) (x6 : Int32) (x7 : Int32) (p0 : Int32) : Met l yX3_grow wsX3_grow ({ frames := 2, cells := 4, slots := 32, locals := 35 }) (va_Pc [.ref h0, .int p0] (wz sz D [] [(h0, .inr (3, [.null, .int x1, .int x2, .null, .null, .int x5, .int x6, .int x7]))])) (va_Qr (fun (_ : Unit) => True) (fun _ ra t => ∃ (q1 : Nat), ∃ (q2 : Nat), ∃ (q3 : Nat), ∃ (e1 : Int32), ∃ (k1 : Int32), ∃ (e2 : Int32), ∃ (k2 : Int32), ∃ (e3 : Int32), ∃ (k3 : Int32), ∃ (e4 : Int32), ∃ (k4 : Int32), wp D [] (va_A [(h0, .inr (3, [.null, .int x1, .int x2, .null, .null, .int x5, .int x6, .int x7]))] sz) [(h0, .inr (3, [.null, .int x1, .int x2, .null, .ref q1, .int x5, .int x6, .int x7])), (q1, .inr (3, [.ref h0, .int e1, .int k1, .null, .ref q2, .int 0, .int 0, .int 0])), (q2, .inr (3, [.ref q1, .int e2, .int k2, .null, .ref q3, .int 0, .int 0, .int 0])), (q3, .inr (3, [.ref q2, .int e3, .int k3, .null, .ref ra, .int 0, .int 0, .int 0])), (ra, .inr (3, [.ref q3, .int e4, .int k4, .null, .null, .int 0, .int 0, .int 0]))] t) (va_A [(h0, .inr (3, [.null, .int x1, .int x2, .null, .null, .int x5, .int x6, .int x7]))] sz)) 4 32 (va_A [(h0, .inr (3, [.null, .int x1, .int x2, .null, .null, .int x5, .int x6, .int x7]))] sz) := by
  refine Met.ofW (cc := cX3_grow) (maxL := 6) (ret := (some (.object "CryOrder$Node"))) (by decide) rfl ?_
  intro p e s m args below meth c s₁ B hml hv
  obtain ⟨rfl, hsz, hP, hK, hD0, hN⟩ := hv
  have hx := B.exec
  have hb := B.bytes
  have hr := B.returns
  have hts := atoms_spec (ws := wsX3_grow) B.pre
  have hown : s.vm.findClass RX3 = some m.cls := findClass_of_methodNamed B.named
  have hlocks := B.notSynchronized
  subst hsz
  have hD := hD0.self (sz := s.heap.size)
  generalize hAe : va_A [(h0, .inr (3, [.null, .int x1, .int x2, .null, .null, .int x5, .int x6, .int x7]))] s.heap.size = A at hD ⊢
  have hA : ∀ q : Nat, s.heap.size ≤ q → A q := fun q h => by rw [← hAe]; exact Or.inr h
  have hS : va_S A s.heap s.heap [] := va_S.rf
  have hin_X3 : ∀ w ∈ u_ws RX3 TX3 8, w ∈ wsX3_grow := by decide +kernel
  have hl := lv_entry ([.ref h0, .int p0]) (n := 6) (Nat.le_of_ble_eq_true rfl)
  rw [lg_entry_eq]
  generalize (lg_sl ([.ref h0, .int p0]) ++ List.replicate (6 - (lg_sl ([.ref h0, .int p0])).length) Slot.unset).toArray = ls at hl ⊢
  have hl : lv_has ls 6 [(0, .ref h0), (1, .int p0)] := hl
  refine lv_aload_n hx hb dX3_grow_0 rfl (lv_at hl 0 rfl) ?_
  refine lv_astore_n (lv' := [(2, .ref h0), (0, .ref h0), (1, .int p0)]) hx hb dX3_grow_1 rfl hl (by decide) rfl (fun ls hl => ?_)
  refine lv_iconst (v := 0) hx hb dX3_grow_2 (by decide) ?_
  refine lv_istore_n (lv' := [(3, .int 0), (2, .ref h0), (0, .ref h0), (1, .int p0)]) hx hb dX3_grow_3 rfl hl (by decide) rfl (fun ls hl => ?_)
  refine lv_iload_n hx hb dX3_grow_4 rfl (lv_at hl 0 rfl) ?_
  refine lv_iconst (v := 4) hx hb dX3_grow_5 (by decide) ?_
  refine lv_icmp_ge (tgt := 60) hx hb dX3_grow_6 (by decide) (fun c_ => absurd c_ (by decide)) (fun _ => ?_)
  refine lv_iload_n hx hb dX3_grow_9 rfl (lv_at hl 3 rfl) ?_
  refine lv_iload_n hx hb dX3_grow_10 rfl (lv_at hl 0 rfl) ?_
  refine vp_callSi (zrS (As := [.int p0, .int 0]) (rest := []) (wc := []) ⟨hx, hb, hml, hown, hts⟩ hN hK hP hD (k_X3_markAt l D p0 0 ) (va_cwS 2 hts gX3_grow_X3_markAt rfl rfl rfl (by decide +kernel) ⟨(Nat.le_of_ble_eq_true rfl), (Nat.le_of_ble_eq_true rfl)⟩) [] [] rfl rfl (by decide) rfl hl.1 rfl (Nat.le_of_ble_eq_true rfl) dX3_grow_11 ⟨(Nat.le_of_ble_eq_true rfl), (Nat.le_of_ble_eq_true rfl)⟩) (fun r_1 h_2 => ?_)
  refine lv_istore (lv' := [(4, .int r_1), (3, .int 0), (2, .ref h0), (0, .ref h0), (1, .int p0)]) hx hb dX3_grow_14 hl (by decide) rfl (fun ls hl => ?_)
  refine lv_aload_n hx hb dX3_grow_16 rfl (lv_at hl 2 rfl) ?_
  refine lv_iload hx hb dX3_grow_17 (lv_at hl 0 rfl) ?_
  refine va_csq (zrV (As := [.int r_1]) (rest := []) (wc := [(h0, .inr (3, [.null, .int x1, .int x2, .null, .null, .int x5, .int x6, .int x7]))]) ⟨hx, hb, hml, hown, hts⟩ hN hK hP hD (k_X3_child l D h0 (.null) (.null) x1 x2 x5 x6 x7 r_1 ) (cwV 1 hts gX3_grow_X3_child rfl rfl rfl (by decide +kernel) ⟨(Nat.le_of_ble_eq_true rfl), (Nat.le_of_ble_eq_true rfl)⟩) [] [0] rfl rfl (by decide) 3 0 rfl rfl rfl hl.1 rfl (Nat.le_of_ble_eq_true rfl) dX3_grow_19 ⟨(Nat.le_of_ble_eq_true rfl), (Nat.le_of_ble_eq_true rfl)⟩) (fun r_3 h_4 => ?_)
  subst h_4
  refine lv_topv (z := .null) rfl ?_
  refine lv_astoreN (lv' := [(5, .null), (4, .int r_1), (3, .int 0), (2, .ref h0), (0, .ref h0), (1, .int p0)]) hx hb dX3_grow_22 hl (by decide) rfl (fun ls hl => ?_)
  refine lv_aloadN hx hb dX3_grow_24 (lv_at hl 0 rfl) ?_
  refine lv_ifnonnullN hx hb dX3_grow_26 ?_
  refine va_new (ci := 3) (fs := [.null, .int 0, .int 0, .null, .null, .int 0, .int 0, .int 0]) (C := RX3) (T := TX3) (N := 8) hx hb hts hin_X3 tyX3 tyX3_ok hown (hts (.classLink RX3 10 RX3) (by decide +kernel)) (hts (.instantiable RX3 8) (by decide +kernel)) (hts (.initialized RX3) (by decide +kernel)) hK hP hD hS hA rfl dfX3 (Nat.le_of_ble_eq_true rfl) (Nat.le_of_ble_eq_true rfl) dX3_grow_29 (fun q_5 H_6 hP hD hS => ?_)
  have hP : va_P D vwCl [(h0, .inr (3, [.null, .int x1, .int x2, .null, .null, .int x5, .int x6, .int x7])), (q_5, .inr (3, [.null, .int 0, .int 0, .null, .null, .int 0, .int 0, .int 0]))] H_6 := hP
  have hD : va_D A [(h0, .inr (3, [.null, .int x1, .int x2, .null, .null, .int x5, .int x6, .int x7])), (q_5, .inr (3, [.null, .int 0, .int 0, .null, .null, .int 0, .int 0, .int 0]))] := hD
  refine lv_dup hx hb dX3_grow_32 rfl ?_
  refine lv_aload_n hx hb dX3_grow_33 rfl (lv_at hl 3 rfl) ?_
  refine lv_iload hx hb dX3_grow_34 (lv_at hl 1 rfl) ?_
  refine lv_aload_n hx hb dX3_grow_36 rfl (lv_at hl 3 rfl) ?_
  refine va_get (D := D) (ci := 3) (v := .null) (C := RX3) (T := TX3) (N := 8) hx hb hts hin_X3 hown hK hP 0 rfl rfl 4 (by decide) (hts (.fieldLink RX3 25 "CryOrder$Node" "firstChild" "LCryOrder$Node;") (by decide +kernel)) (fun _ h9 => h9) rfl dX3_grow_37 ?_
  refine va_callv (zwI (As := [.ref h0, .int r_1, .null]) (rest := [.ref q_5]) (wc := [(q_5, .inr (3, [.null, .int 0, .int 0, .null, .null, .int 0, .int 0, .int 0])), (h0, .inr (3, [.null, .int x1, .int x2, .null, .null, .int x5, .int x6, .int x7]))]) ⟨hx, hb, hml, hown, hts⟩ hN hK hP hD (k_X3_initB l D H_6.size q_5 h0 (.null) (.null) (.null) r_1 x1 x2 x5 x6 x7 ) (cwI 3 hts gX3_grow_X3_init rfl rfl rfl (hts (.initialized RX3) (by decide +kernel)) (hts (.methodLink RX3 36 yX3_init) (by decide +kernel)) (hts (.instanceMethod yX3_init) (by decide +kernel)) rfl (by decide +kernel) ⟨(Nat.le_of_ble_eq_true rfl), (Nat.le_of_ble_eq_true rfl)⟩) [] [1, 0] rfl rfl (by decide) rfl hl.1 rfl (Nat.le_of_ble_eq_true rfl) dX3_grow_40 ⟨(Nat.le_of_ble_eq_true rfl), (Nat.le_of_ble_eq_true rfl)⟩) hS (fun q _ h => va_free (wc := [(q_5, .inr (3, [.null, .int 0, .int 0, .null, .null, .int 0, .int 0, .int 0])), (h0, .inr (3, [.null, .int x1, .int x2, .null, .null, .int x5, .int x6, .int x7]))]) hD hS hA [1, 0] rfl q h) (va_free (wc := [(q_5, .inr (3, [.null, .int 0, .int 0, .null, .null, .int 0, .int 0, .int 0])), (h0, .inr (3, [.null, .int x1, .int x2, .null, .null, .int x5, .int x6, .int x7]))]) hD hS hA [1, 0] rfl) (fun u t H_7 locs1 ht hvm hw hB hz1 hk1 hS1 => ?_)
  obtain ⟨dz_8, hB⟩ := hB
  obtain ⟨hP, hD, hK⟩ := zj (wc := [(q_5, .inr (3, [.null, .int 0, .int 0, .null, .null, .int 0, .int 0, .int 0])), (h0, .inr (3, [.null, .int x1, .int x2, .null, .null, .int x5, .int x6, .int x7]))]) (wr := []) (w1 := [(q_5, .inr (3, [.ref h0, .int dz_8, .int r_1, .null, .null, .int 0, .int 0, .int 0])), (h0, .inr (3, [.null, .int x1, .int x2, .null, .null, .int x5, .int x6, .int x7]))]) hK hP hD hS hA [1, 0] [] rfl rfl (by decide) (by decide) hk1 ht hvm hB
  have hS := hS1
  have hP : va_P D vwCl [(q_5, .inr (3, [.ref h0, .int dz_8, .int r_1, .null, .null, .int 0, .int 0, .int 0])), (h0, .inr (3, [.null, .int x1, .int x2, .null, .null, .int x5, .int x6, .int x7]))] H_7 := hP
  have hD : va_D A [(q_5, .inr (3, [.ref h0, .int dz_8, .int r_1, .null, .null, .int 0, .int 0, .int 0])), (h0, .inr (3, [.null, .int x1, .int x2, .null, .null, .int x5, .int x6, .int x7]))] := hD
  have hK : va_K D vwCl [] s := hK
  refine lv_astore (lv' := [(5, .ref q_5), (4, .int r_1), (3, .int 0), (2, .ref h0), (0, .ref h0), (1, .int p0)]) hx hb dX3_grow_43 hl (by decide) rfl (fun ls hl => ?_)
  refine lv_aload_n hx hb dX3_grow_45 rfl (lv_at hl 3 rfl) ?_
  refine lv_aload hx hb dX3_grow_46 (lv_at hl 0 rfl) ?_
  refine va_put (D := D) (ci := 3) (v := .ref q_5) (ty := .object "CryOrder$Node") (C := RX3) (T := TX3) (N := 8) hx hb hts hin_X3 tyX3 tyX3_ok nmX3 hown hK hP hD hS 1 rfl rfl 4 (by decide) (hts (.fieldLink RX3 25 "CryOrder$Node" "firstChild" "LCryOrder$Node;") (by decide +kernel)) (fun _ h9 => h9) rfl (by decide +kernel) rfl rfl (Nat.le_of_ble_eq_true rfl) dX3_grow_48 (fun H_9 locs hP hD hS => ?_)
  have hP : va_P D vwCl [(q_5, .inr (3, [.ref h0, .int dz_8, .int r_1, .null, .null, .int 0, .int 0, .int 0])), (h0, .inr (3, [.null, .int x1, .int x2, .null, .ref q_5, .int x5, .int x6, .int x7]))] H_9 := hP
  have hD : va_D A [(q_5, .inr (3, [.ref h0, .int dz_8, .int r_1, .null, .null, .int 0, .int 0, .int 0])), (h0, .inr (3, [.null, .int x1, .int x2, .null, .ref q_5, .int x5, .int x6, .int x7]))] := hD
  refine lv_aload hx hb dX3_grow_51 (lv_at hl 0 rfl) ?_
  refine lv_astore_n (lv' := [(2, .ref q_5), (5, .ref q_5), (4, .int r_1), (3, .int 0), (0, .ref h0), (1, .int p0)]) hx hb dX3_grow_53 rfl hl (by decide) rfl (fun ls hl => ?_)
  refine lv_iinc (v := 1) (lv' := [(3, .int 1), (2, .ref q_5), (5, .ref q_5), (4, .int r_1), (0, .ref h0), (1, .int p0)]) hx hb dX3_grow_54 hl (k := 3) rfl (by decide) (by decide) rfl (fun ls hl => ?_)
  refine lv_goto (tgt := 4) hx hb dX3_grow_57 (by decide) ?_
  refine lv_iload_n hx hb dX3_grow_4 rfl (lv_at hl 0 rfl) ?_
  refine lv_iconst (v := 4) hx hb dX3_grow_5 (by decide) ?_
  refine lv_icmp_ge (tgt := 60) hx hb dX3_grow_6 (by decide) (fun c_ => absurd c_ (by decide)) (fun _ => ?_)
  refine lv_iload_n hx hb dX3_grow_9 rfl (lv_at hl 5 rfl) ?_
  refine lv_iload_n hx hb dX3_grow_10 rfl (lv_at hl 0 rfl) ?_
  refine vp_callSi (zrS (As := [.int p0, .int 1]) (rest := []) (wc := []) ⟨hx, hb, hml, hown, hts⟩ hN hK hP hD (k_X3_markAt l D p0 1 ) (va_cwS 2 hts gX3_grow_X3_markAt rfl rfl rfl (by decide +kernel) ⟨(Nat.le_of_ble_eq_true rfl), (Nat.le_of_ble_eq_true rfl)⟩) [] [] rfl rfl (by decide) rfl hl.1 rfl (Nat.le_of_ble_eq_true rfl) dX3_grow_11 ⟨(Nat.le_of_ble_eq_true rfl), (Nat.le_of_ble_eq_true rfl)⟩) (fun r_10 h_11 => ?_)
  refine lv_istore (lv' := [(4, .int r_10), (3, .int 1), (2, .ref q_5), (5, .ref q_5), (0, .ref h0), (1, .int p0)]) hx hb dX3_grow_14 hl (by decide) rfl (fun ls hl => ?_)
  refine lv_aload_n hx hb dX3_grow_16 rfl (lv_at hl 2 rfl) ?_
  refine lv_iload hx hb dX3_grow_17 (lv_at hl 0 rfl) ?_
  refine va_csq (zrV (As := [.int r_10]) (rest := []) (wc := [(q_5, .inr (3, [.ref h0, .int dz_8, .int r_1, .null, .null, .int 0, .int 0, .int 0]))]) ⟨hx, hb, hml, hown, hts⟩ hN hK hP hD (k_X3_child l D q_5 (.ref h0) (.null) dz_8 r_1 0 0 0 r_10 ) (cwV 1 hts gX3_grow_X3_child rfl rfl rfl (by decide +kernel) ⟨(Nat.le_of_ble_eq_true rfl), (Nat.le_of_ble_eq_true rfl)⟩) [] [0] rfl rfl (by decide) 3 0 rfl rfl rfl hl.1 rfl (Nat.le_of_ble_eq_true rfl) dX3_grow_19 ⟨(Nat.le_of_ble_eq_true rfl), (Nat.le_of_ble_eq_true rfl)⟩) (fun r_12 h_13 => ?_)
  subst h_13
  refine lv_topv (z := .null) rfl ?_
  refine lv_astoreN (lv' := [(5, .null), (4, .int r_10), (3, .int 1), (2, .ref q_5), (0, .ref h0), (1, .int p0)]) hx hb dX3_grow_22 hl (by decide) rfl (fun ls hl => ?_)
  refine lv_aloadN hx hb dX3_grow_24 (lv_at hl 0 rfl) ?_
  refine lv_ifnonnullN hx hb dX3_grow_26 ?_
  refine va_new (ci := 3) (fs := [.null, .int 0, .int 0, .null, .null, .int 0, .int 0, .int 0]) (C := RX3) (T := TX3) (N := 8) hx hb hts hin_X3 tyX3 tyX3_ok hown (hts (.classLink RX3 10 RX3) (by decide +kernel)) (hts (.instantiable RX3 8) (by decide +kernel)) (hts (.initialized RX3) (by decide +kernel)) hK hP hD hS hA rfl dfX3 (Nat.le_of_ble_eq_true rfl) (Nat.le_of_ble_eq_true rfl) dX3_grow_29 (fun q_14 H_15 hP hD hS => ?_)
  have hP : va_P D vwCl [(q_5, .inr (3, [.ref h0, .int dz_8, .int r_1, .null, .null, .int 0, .int 0, .int 0])), (h0, .inr (3, [.null, .int x1, .int x2, .null, .ref q_5, .int x5, .int x6, .int x7])), (q_14, .inr (3, [.null, .int 0, .int 0, .null, .null, .int 0, .int 0, .int 0]))] H_15 := hP
  have hD : va_D A [(q_5, .inr (3, [.ref h0, .int dz_8, .int r_1, .null, .null, .int 0, .int 0, .int 0])), (h0, .inr (3, [.null, .int x1, .int x2, .null, .ref q_5, .int x5, .int x6, .int x7])), (q_14, .inr (3, [.null, .int 0, .int 0, .null, .null, .int 0, .int 0, .int 0]))] := hD
  refine lv_dup hx hb dX3_grow_32 rfl ?_
  refine lv_aload_n hx hb dX3_grow_33 rfl (lv_at hl 3 rfl) ?_
  refine lv_iload hx hb dX3_grow_34 (lv_at hl 1 rfl) ?_
  refine lv_aload_n hx hb dX3_grow_36 rfl (lv_at hl 3 rfl) ?_
  refine va_get (D := D) (ci := 3) (v := .null) (C := RX3) (T := TX3) (N := 8) hx hb hts hin_X3 hown hK hP 0 rfl rfl 4 (by decide) (hts (.fieldLink RX3 25 "CryOrder$Node" "firstChild" "LCryOrder$Node;") (by decide +kernel)) (fun _ h9 => h9) rfl dX3_grow_37 ?_
  refine va_callv (zwI (As := [.ref q_5, .int r_10, .null]) (rest := [.ref q_14]) (wc := [(q_14, .inr (3, [.null, .int 0, .int 0, .null, .null, .int 0, .int 0, .int 0])), (q_5, .inr (3, [.ref h0, .int dz_8, .int r_1, .null, .null, .int 0, .int 0, .int 0]))]) ⟨hx, hb, hml, hown, hts⟩ hN hK hP hD (k_X3_initB l D H_15.size q_14 q_5 (.ref h0) (.null) (.null) r_10 dz_8 r_1 0 0 0 ) (cwI 3 hts gX3_grow_X3_init rfl rfl rfl (hts (.initialized RX3) (by decide +kernel)) (hts (.methodLink RX3 36 yX3_init) (by decide +kernel)) (hts (.instanceMethod yX3_init) (by decide +kernel)) rfl (by decide +kernel) ⟨(Nat.le_of_ble_eq_true rfl), (Nat.le_of_ble_eq_true rfl)⟩) [] [2, 0] rfl rfl (by decide) rfl hl.1 rfl (Nat.le_of_ble_eq_true rfl) dX3_grow_40 ⟨(Nat.le_of_ble_eq_true rfl), (Nat.le_of_ble_eq_true rfl)⟩) hS (fun q _ h => va_free (wc := [(q_14, .inr (3, [.null, .int 0, .int 0, .null, .null, .int 0, .int 0, .int 0])), (q_5, .inr (3, [.ref h0, .int dz_8, .int r_1, .null, .null, .int 0, .int 0, .int 0]))]) hD hS hA [2, 0] rfl q h) (va_free (wc := [(q_14, .inr (3, [.null, .int 0, .int 0, .null, .null, .int 0, .int 0, .int 0])), (q_5, .inr (3, [.ref h0, .int dz_8, .int r_1, .null, .null, .int 0, .int 0, .int 0]))]) hD hS hA [2, 0] rfl) (fun u t H_16 locs1 ht hvm hw hB hz1 hk1 hS1 => ?_)
  obtain ⟨dz_17, hB⟩ := hB
  obtain ⟨hP, hD, hK⟩ := zj (wc := [(q_14, .inr (3, [.null, .int 0, .int 0, .null, .null, .int 0, .int 0, .int 0])), (q_5, .inr (3, [.ref h0, .int dz_8, .int r_1, .null, .null, .int 0, .int 0, .int 0]))]) (wr := [(h0, .inr (3, [.null, .int x1, .int x2, .null, .ref q_5, .int x5, .int x6, .int x7]))]) (w1 := [(q_14, .inr (3, [.ref q_5, .int dz_17, .int r_10, .null, .null, .int 0, .int 0, .int 0])), (q_5, .inr (3, [.ref h0, .int dz_8, .int r_1, .null, .null, .int 0, .int 0, .int 0]))]) hK hP hD hS hA [2, 0] [1] rfl rfl (by decide) (by decide) hk1 ht hvm hB
  have hS := hS1
  have hP : va_P D vwCl [(h0, .inr (3, [.null, .int x1, .int x2, .null, .ref q_5, .int x5, .int x6, .int x7])), (q_14, .inr (3, [.ref q_5, .int dz_17, .int r_10, .null, .null, .int 0, .int 0, .int 0])), (q_5, .inr (3, [.ref h0, .int dz_8, .int r_1, .null, .null, .int 0, .int 0, .int 0]))] H_16 := hP
  have hD : va_D A [(h0, .inr (3, [.null, .int x1, .int x2, .null, .ref q_5, .int x5, .int x6, .int x7])), (q_14, .inr (3, [.ref q_5, .int dz_17, .int r_10, .null, .null, .int 0, .int 0, .int 0])), (q_5, .inr (3, [.ref h0, .int dz_8, .int r_1, .null, .null, .int 0, .int 0, .int 0]))] := hD
  have hK : va_K D vwCl [] s := hK
  refine lv_astore (lv' := [(5, .ref q_14), (4, .int r_10), (3, .int 1), (2, .ref q_5), (0, .ref h0), (1, .int p0)]) hx hb dX3_grow_43 hl (by decide) rfl (fun ls hl => ?_)
  refine lv_aload_n hx hb dX3_grow_45 rfl (lv_at hl 3 rfl) ?_
  refine lv_aload hx hb dX3_grow_46 (lv_at hl 0 rfl) ?_
  refine va_put (D := D) (ci := 3) (v := .ref q_14) (ty := .object "CryOrder$Node") (C := RX3) (T := TX3) (N := 8) hx hb hts hin_X3 tyX3 tyX3_ok nmX3 hown hK hP hD hS 2 rfl rfl 4 (by decide) (hts (.fieldLink RX3 25 "CryOrder$Node" "firstChild" "LCryOrder$Node;") (by decide +kernel)) (fun _ h9 => h9) rfl (by decide +kernel) rfl rfl (Nat.le_of_ble_eq_true rfl) dX3_grow_48 (fun H_18 locs hP hD hS => ?_)
  have hP : va_P D vwCl [(h0, .inr (3, [.null, .int x1, .int x2, .null, .ref q_5, .int x5, .int x6, .int x7])), (q_14, .inr (3, [.ref q_5, .int dz_17, .int r_10, .null, .null, .int 0, .int 0, .int 0])), (q_5, .inr (3, [.ref h0, .int dz_8, .int r_1, .null, .ref q_14, .int 0, .int 0, .int 0]))] H_18 := hP
  have hD : va_D A [(h0, .inr (3, [.null, .int x1, .int x2, .null, .ref q_5, .int x5, .int x6, .int x7])), (q_14, .inr (3, [.ref q_5, .int dz_17, .int r_10, .null, .null, .int 0, .int 0, .int 0])), (q_5, .inr (3, [.ref h0, .int dz_8, .int r_1, .null, .ref q_14, .int 0, .int 0, .int 0]))] := hD
  refine lv_aload hx hb dX3_grow_51 (lv_at hl 0 rfl) ?_
  refine lv_astore_n (lv' := [(2, .ref q_14), (5, .ref q_14), (4, .int r_10), (3, .int 1), (0, .ref h0), (1, .int p0)]) hx hb dX3_grow_53 rfl hl (by decide) rfl (fun ls hl => ?_)
  refine lv_iinc (v := 2) (lv' := [(3, .int 2), (2, .ref q_14), (5, .ref q_14), (4, .int r_10), (0, .ref h0), (1, .int p0)]) hx hb dX3_grow_54 hl (k := 3) rfl (by decide) (by decide) rfl (fun ls hl => ?_)
  refine lv_goto (tgt := 4) hx hb dX3_grow_57 (by decide) ?_
  refine lv_iload_n hx hb dX3_grow_4 rfl (lv_at hl 0 rfl) ?_
  refine lv_iconst (v := 4) hx hb dX3_grow_5 (by decide) ?_
  refine lv_icmp_ge (tgt := 60) hx hb dX3_grow_6 (by decide) (fun c_ => absurd c_ (by decide)) (fun _ => ?_)
  refine lv_iload_n hx hb dX3_grow_9 rfl (lv_at hl 5 rfl) ?_
  refine lv_iload_n hx hb dX3_grow_10 rfl (lv_at hl 0 rfl) ?_
  refine vp_callSi (zrS (As := [.int p0, .int 2]) (rest := []) (wc := []) ⟨hx, hb, hml, hown, hts⟩ hN hK hP hD (k_X3_markAt l D p0 2 ) (va_cwS 2 hts gX3_grow_X3_markAt rfl rfl rfl (by decide +kernel) ⟨(Nat.le_of_ble_eq_true rfl), (Nat.le_of_ble_eq_true rfl)⟩) [] [] rfl rfl (by decide) rfl hl.1 rfl (Nat.le_of_ble_eq_true rfl) dX3_grow_11 ⟨(Nat.le_of_ble_eq_true rfl), (Nat.le_of_ble_eq_true rfl)⟩) (fun r_19 h_20 => ?_)
  refine lv_istore (lv' := [(4, .int r_19), (3, .int 2), (2, .ref q_14), (5, .ref q_14), (0, .ref h0), (1, .int p0)]) hx hb dX3_grow_14 hl (by decide) rfl (fun ls hl => ?_)
  refine lv_aload_n hx hb dX3_grow_16 rfl (lv_at hl 2 rfl) ?_
  refine lv_iload hx hb dX3_grow_17 (lv_at hl 0 rfl) ?_
  refine va_csq (zrV (As := [.int r_19]) (rest := []) (wc := [(q_14, .inr (3, [.ref q_5, .int dz_17, .int r_10, .null, .null, .int 0, .int 0, .int 0]))]) ⟨hx, hb, hml, hown, hts⟩ hN hK hP hD (k_X3_child l D q_14 (.ref q_5) (.null) dz_17 r_10 0 0 0 r_19 ) (cwV 1 hts gX3_grow_X3_child rfl rfl rfl (by decide +kernel) ⟨(Nat.le_of_ble_eq_true rfl), (Nat.le_of_ble_eq_true rfl)⟩) [] [1] rfl rfl (by decide) 3 0 rfl rfl rfl hl.1 rfl (Nat.le_of_ble_eq_true rfl) dX3_grow_19 ⟨(Nat.le_of_ble_eq_true rfl), (Nat.le_of_ble_eq_true rfl)⟩) (fun r_21 h_22 => ?_)
  subst h_22
  refine lv_topv (z := .null) rfl ?_
  refine lv_astoreN (lv' := [(5, .null), (4, .int r_19), (3, .int 2), (2, .ref q_14), (0, .ref h0), (1, .int p0)]) hx hb dX3_grow_22 hl (by decide) rfl (fun ls hl => ?_)
  refine lv_aloadN hx hb dX3_grow_24 (lv_at hl 0 rfl) ?_
  refine lv_ifnonnullN hx hb dX3_grow_26 ?_
  refine va_new (ci := 3) (fs := [.null, .int 0, .int 0, .null, .null, .int 0, .int 0, .int 0]) (C := RX3) (T := TX3) (N := 8) hx hb hts hin_X3 tyX3 tyX3_ok hown (hts (.classLink RX3 10 RX3) (by decide +kernel)) (hts (.instantiable RX3 8) (by decide +kernel)) (hts (.initialized RX3) (by decide +kernel)) hK hP hD hS hA rfl dfX3 (Nat.le_of_ble_eq_true rfl) (Nat.le_of_ble_eq_true rfl) dX3_grow_29 (fun q_23 H_24 hP hD hS => ?_)
  have hP : va_P D vwCl [(h0, .inr (3, [.null, .int x1, .int x2, .null, .ref q_5, .int x5, .int x6, .int x7])), (q_14, .inr (3, [.ref q_5, .int dz_17, .int r_10, .null, .null, .int 0, .int 0, .int 0])), (q_5, .inr (3, [.ref h0, .int dz_8, .int r_1, .null, .ref q_14, .int 0, .int 0, .int 0])), (q_23, .inr (3, [.null, .int 0, .int 0, .null, .null, .int 0, .int 0, .int 0]))] H_24 := hP
  have hD : va_D A [(h0, .inr (3, [.null, .int x1, .int x2, .null, .ref q_5, .int x5, .int x6, .int x7])), (q_14, .inr (3, [.ref q_5, .int dz_17, .int r_10, .null, .null, .int 0, .int 0, .int 0])), (q_5, .inr (3, [.ref h0, .int dz_8, .int r_1, .null, .ref q_14, .int 0, .int 0, .int 0])), (q_23, .inr (3, [.null, .int 0, .int 0, .null, .null, .int 0, .int 0, .int 0]))] := hD
  refine lv_dup hx hb dX3_grow_32 rfl ?_
  refine lv_aload_n hx hb dX3_grow_33 rfl (lv_at hl 3 rfl) ?_
  refine lv_iload hx hb dX3_grow_34 (lv_at hl 1 rfl) ?_
  refine lv_aload_n hx hb dX3_grow_36 rfl (lv_at hl 3 rfl) ?_
  refine va_get (D := D) (ci := 3) (v := .null) (C := RX3) (T := TX3) (N := 8) hx hb hts hin_X3 hown hK hP 1 rfl rfl 4 (by decide) (hts (.fieldLink RX3 25 "CryOrder$Node" "firstChild" "LCryOrder$Node;") (by decide +kernel)) (fun _ h9 => h9) rfl dX3_grow_37 ?_
  refine va_callv (zwI (As := [.ref q_14, .int r_19, .null]) (rest := [.ref q_23]) (wc := [(q_23, .inr (3, [.null, .int 0, .int 0, .null, .null, .int 0, .int 0, .int 0])), (q_14, .inr (3, [.ref q_5, .int dz_17, .int r_10, .null, .null, .int 0, .int 0, .int 0]))]) ⟨hx, hb, hml, hown, hts⟩ hN hK hP hD (k_X3_initB l D H_24.size q_23 q_14 (.ref q_5) (.null) (.null) r_19 dz_17 r_10 0 0 0 ) (cwI 3 hts gX3_grow_X3_init rfl rfl rfl (hts (.initialized RX3) (by decide +kernel)) (hts (.methodLink RX3 36 yX3_init) (by decide +kernel)) (hts (.instanceMethod yX3_init) (by decide +kernel)) rfl (by decide +kernel) ⟨(Nat.le_of_ble_eq_true rfl), (Nat.le_of_ble_eq_true rfl)⟩) [] [3, 1] rfl rfl (by decide) rfl hl.1 rfl (Nat.le_of_ble_eq_true rfl) dX3_grow_40 ⟨(Nat.le_of_ble_eq_true rfl), (Nat.le_of_ble_eq_true rfl)⟩) hS (fun q _ h => va_free (wc := [(q_23, .inr (3, [.null, .int 0, .int 0, .null, .null, .int 0, .int 0, .int 0])), (q_14, .inr (3, [.ref q_5, .int dz_17, .int r_10, .null, .null, .int 0, .int 0, .int 0]))]) hD hS hA [3, 1] rfl q h) (va_free (wc := [(q_23, .inr (3, [.null, .int 0, .int 0, .null, .null, .int 0, .int 0, .int 0])), (q_14, .inr (3, [.ref q_5, .int dz_17, .int r_10, .null, .null, .int 0, .int 0, .int 0]))]) hD hS hA [3, 1] rfl) (fun u t H_25 locs1 ht hvm hw hB hz1 hk1 hS1 => ?_)
  obtain ⟨dz_26, hB⟩ := hB
  obtain ⟨hP, hD, hK⟩ := zj (wc := [(q_23, .inr (3, [.null, .int 0, .int 0, .null, .null, .int 0, .int 0, .int 0])), (q_14, .inr (3, [.ref q_5, .int dz_17, .int r_10, .null, .null, .int 0, .int 0, .int 0]))]) (wr := [(h0, .inr (3, [.null, .int x1, .int x2, .null, .ref q_5, .int x5, .int x6, .int x7])), (q_5, .inr (3, [.ref h0, .int dz_8, .int r_1, .null, .ref q_14, .int 0, .int 0, .int 0]))]) (w1 := [(q_23, .inr (3, [.ref q_14, .int dz_26, .int r_19, .null, .null, .int 0, .int 0, .int 0])), (q_14, .inr (3, [.ref q_5, .int dz_17, .int r_10, .null, .null, .int 0, .int 0, .int 0]))]) hK hP hD hS hA [3, 1] [0, 2] rfl rfl (by decide) (by decide) hk1 ht hvm hB
  have hS := hS1
  have hP : va_P D vwCl [(h0, .inr (3, [.null, .int x1, .int x2, .null, .ref q_5, .int x5, .int x6, .int x7])), (q_5, .inr (3, [.ref h0, .int dz_8, .int r_1, .null, .ref q_14, .int 0, .int 0, .int 0])), (q_23, .inr (3, [.ref q_14, .int dz_26, .int r_19, .null, .null, .int 0, .int 0, .int 0])), (q_14, .inr (3, [.ref q_5, .int dz_17, .int r_10, .null, .null, .int 0, .int 0, .int 0]))] H_25 := hP
  have hD : va_D A [(h0, .inr (3, [.null, .int x1, .int x2, .null, .ref q_5, .int x5, .int x6, .int x7])), (q_5, .inr (3, [.ref h0, .int dz_8, .int r_1, .null, .ref q_14, .int 0, .int 0, .int 0])), (q_23, .inr (3, [.ref q_14, .int dz_26, .int r_19, .null, .null, .int 0, .int 0, .int 0])), (q_14, .inr (3, [.ref q_5, .int dz_17, .int r_10, .null, .null, .int 0, .int 0, .int 0]))] := hD
  have hK : va_K D vwCl [] s := hK
  refine lv_astore (lv' := [(5, .ref q_23), (4, .int r_19), (3, .int 2), (2, .ref q_14), (0, .ref h0), (1, .int p0)]) hx hb dX3_grow_43 hl (by decide) rfl (fun ls hl => ?_)
  refine lv_aload_n hx hb dX3_grow_45 rfl (lv_at hl 3 rfl) ?_
  refine lv_aload hx hb dX3_grow_46 (lv_at hl 0 rfl) ?_
  refine va_put (D := D) (ci := 3) (v := .ref q_23) (ty := .object "CryOrder$Node") (C := RX3) (T := TX3) (N := 8) hx hb hts hin_X3 tyX3 tyX3_ok nmX3 hown hK hP hD hS 3 rfl rfl 4 (by decide) (hts (.fieldLink RX3 25 "CryOrder$Node" "firstChild" "LCryOrder$Node;") (by decide +kernel)) (fun _ h9 => h9) rfl (by decide +kernel) rfl rfl (Nat.le_of_ble_eq_true rfl) dX3_grow_48 (fun H_27 locs hP hD hS => ?_)
  have hP : va_P D vwCl [(h0, .inr (3, [.null, .int x1, .int x2, .null, .ref q_5, .int x5, .int x6, .int x7])), (q_5, .inr (3, [.ref h0, .int dz_8, .int r_1, .null, .ref q_14, .int 0, .int 0, .int 0])), (q_23, .inr (3, [.ref q_14, .int dz_26, .int r_19, .null, .null, .int 0, .int 0, .int 0])), (q_14, .inr (3, [.ref q_5, .int dz_17, .int r_10, .null, .ref q_23, .int 0, .int 0, .int 0]))] H_27 := hP
  have hD : va_D A [(h0, .inr (3, [.null, .int x1, .int x2, .null, .ref q_5, .int x5, .int x6, .int x7])), (q_5, .inr (3, [.ref h0, .int dz_8, .int r_1, .null, .ref q_14, .int 0, .int 0, .int 0])), (q_23, .inr (3, [.ref q_14, .int dz_26, .int r_19, .null, .null, .int 0, .int 0, .int 0])), (q_14, .inr (3, [.ref q_5, .int dz_17, .int r_10, .null, .ref q_23, .int 0, .int 0, .int 0]))] := hD
  refine lv_aload hx hb dX3_grow_51 (lv_at hl 0 rfl) ?_
  refine lv_astore_n (lv' := [(2, .ref q_23), (5, .ref q_23), (4, .int r_19), (3, .int 2), (0, .ref h0), (1, .int p0)]) hx hb dX3_grow_53 rfl hl (by decide) rfl (fun ls hl => ?_)
  refine lv_iinc (v := 3) (lv' := [(3, .int 3), (2, .ref q_23), (5, .ref q_23), (4, .int r_19), (0, .ref h0), (1, .int p0)]) hx hb dX3_grow_54 hl (k := 3) rfl (by decide) (by decide) rfl (fun ls hl => ?_)
  refine lv_goto (tgt := 4) hx hb dX3_grow_57 (by decide) ?_
  refine lv_iload_n hx hb dX3_grow_4 rfl (lv_at hl 0 rfl) ?_
  refine lv_iconst (v := 4) hx hb dX3_grow_5 (by decide) ?_
  refine lv_icmp_ge (tgt := 60) hx hb dX3_grow_6 (by decide) (fun c_ => absurd c_ (by decide)) (fun _ => ?_)
  refine lv_iload_n hx hb dX3_grow_9 rfl (lv_at hl 5 rfl) ?_
  refine lv_iload_n hx hb dX3_grow_10 rfl (lv_at hl 0 rfl) ?_
  refine vp_callSi (zrS (As := [.int p0, .int 3]) (rest := []) (wc := []) ⟨hx, hb, hml, hown, hts⟩ hN hK hP hD (k_X3_markAt l D p0 3 ) (va_cwS 2 hts gX3_grow_X3_markAt rfl rfl rfl (by decide +kernel) ⟨(Nat.le_of_ble_eq_true rfl), (Nat.le_of_ble_eq_true rfl)⟩) [] [] rfl rfl (by decide) rfl hl.1 rfl (Nat.le_of_ble_eq_true rfl) dX3_grow_11 ⟨(Nat.le_of_ble_eq_true rfl), (Nat.le_of_ble_eq_true rfl)⟩) (fun r_28 h_29 => ?_)
  refine lv_istore (lv' := [(4, .int r_28), (3, .int 3), (2, .ref q_23), (5, .ref q_23), (0, .ref h0), (1, .int p0)]) hx hb dX3_grow_14 hl (by decide) rfl (fun ls hl => ?_)
  refine lv_aload_n hx hb dX3_grow_16 rfl (lv_at hl 2 rfl) ?_
  refine lv_iload hx hb dX3_grow_17 (lv_at hl 0 rfl) ?_
  refine va_csq (zrV (As := [.int r_28]) (rest := []) (wc := [(q_23, .inr (3, [.ref q_14, .int dz_26, .int r_19, .null, .null, .int 0, .int 0, .int 0]))]) ⟨hx, hb, hml, hown, hts⟩ hN hK hP hD (k_X3_child l D q_23 (.ref q_14) (.null) dz_26 r_19 0 0 0 r_28 ) (cwV 1 hts gX3_grow_X3_child rfl rfl rfl (by decide +kernel) ⟨(Nat.le_of_ble_eq_true rfl), (Nat.le_of_ble_eq_true rfl)⟩) [] [2] rfl rfl (by decide) 3 0 rfl rfl rfl hl.1 rfl (Nat.le_of_ble_eq_true rfl) dX3_grow_19 ⟨(Nat.le_of_ble_eq_true rfl), (Nat.le_of_ble_eq_true rfl)⟩) (fun r_30 h_31 => ?_)
  subst h_31
  refine lv_topv (z := .null) rfl ?_
  refine lv_astoreN (lv' := [(5, .null), (4, .int r_28), (3, .int 3), (2, .ref q_23), (0, .ref h0), (1, .int p0)]) hx hb dX3_grow_22 hl (by decide) rfl (fun ls hl => ?_)
  refine lv_aloadN hx hb dX3_grow_24 (lv_at hl 0 rfl) ?_
  refine lv_ifnonnullN hx hb dX3_grow_26 ?_
  refine va_new (ci := 3) (fs := [.null, .int 0, .int 0, .null, .null, .int 0, .int 0, .int 0]) (C := RX3) (T := TX3) (N := 8) hx hb hts hin_X3 tyX3 tyX3_ok hown (hts (.classLink RX3 10 RX3) (by decide +kernel)) (hts (.instantiable RX3 8) (by decide +kernel)) (hts (.initialized RX3) (by decide +kernel)) hK hP hD hS hA rfl dfX3 (Nat.le_of_ble_eq_true rfl) (Nat.le_of_ble_eq_true rfl) dX3_grow_29 (fun q_32 H_33 hP hD hS => ?_)
  have hP : va_P D vwCl [(h0, .inr (3, [.null, .int x1, .int x2, .null, .ref q_5, .int x5, .int x6, .int x7])), (q_5, .inr (3, [.ref h0, .int dz_8, .int r_1, .null, .ref q_14, .int 0, .int 0, .int 0])), (q_23, .inr (3, [.ref q_14, .int dz_26, .int r_19, .null, .null, .int 0, .int 0, .int 0])), (q_14, .inr (3, [.ref q_5, .int dz_17, .int r_10, .null, .ref q_23, .int 0, .int 0, .int 0])), (q_32, .inr (3, [.null, .int 0, .int 0, .null, .null, .int 0, .int 0, .int 0]))] H_33 := hP
  have hD : va_D A [(h0, .inr (3, [.null, .int x1, .int x2, .null, .ref q_5, .int x5, .int x6, .int x7])), (q_5, .inr (3, [.ref h0, .int dz_8, .int r_1, .null, .ref q_14, .int 0, .int 0, .int 0])), (q_23, .inr (3, [.ref q_14, .int dz_26, .int r_19, .null, .null, .int 0, .int 0, .int 0])), (q_14, .inr (3, [.ref q_5, .int dz_17, .int r_10, .null, .ref q_23, .int 0, .int 0, .int 0])), (q_32, .inr (3, [.null, .int 0, .int 0, .null, .null, .int 0, .int 0, .int 0]))] := hD
  refine lv_dup hx hb dX3_grow_32 rfl ?_
  refine lv_aload_n hx hb dX3_grow_33 rfl (lv_at hl 3 rfl) ?_
  refine lv_iload hx hb dX3_grow_34 (lv_at hl 1 rfl) ?_
  refine lv_aload_n hx hb dX3_grow_36 rfl (lv_at hl 3 rfl) ?_
  refine va_get (D := D) (ci := 3) (v := .null) (C := RX3) (T := TX3) (N := 8) hx hb hts hin_X3 hown hK hP 2 rfl rfl 4 (by decide) (hts (.fieldLink RX3 25 "CryOrder$Node" "firstChild" "LCryOrder$Node;") (by decide +kernel)) (fun _ h9 => h9) rfl dX3_grow_37 ?_
  refine va_callv (zwI (As := [.ref q_23, .int r_28, .null]) (rest := [.ref q_32]) (wc := [(q_32, .inr (3, [.null, .int 0, .int 0, .null, .null, .int 0, .int 0, .int 0])), (q_23, .inr (3, [.ref q_14, .int dz_26, .int r_19, .null, .null, .int 0, .int 0, .int 0]))]) ⟨hx, hb, hml, hown, hts⟩ hN hK hP hD (k_X3_initB l D H_33.size q_32 q_23 (.ref q_14) (.null) (.null) r_28 dz_26 r_19 0 0 0 ) (cwI 3 hts gX3_grow_X3_init rfl rfl rfl (hts (.initialized RX3) (by decide +kernel)) (hts (.methodLink RX3 36 yX3_init) (by decide +kernel)) (hts (.instanceMethod yX3_init) (by decide +kernel)) rfl (by decide +kernel) ⟨(Nat.le_of_ble_eq_true rfl), (Nat.le_of_ble_eq_true rfl)⟩) [] [4, 2] rfl rfl (by decide) rfl hl.1 rfl (Nat.le_of_ble_eq_true rfl) dX3_grow_40 ⟨(Nat.le_of_ble_eq_true rfl), (Nat.le_of_ble_eq_true rfl)⟩) hS (fun q _ h => va_free (wc := [(q_32, .inr (3, [.null, .int 0, .int 0, .null, .null, .int 0, .int 0, .int 0])), (q_23, .inr (3, [.ref q_14, .int dz_26, .int r_19, .null, .null, .int 0, .int 0, .int 0]))]) hD hS hA [4, 2] rfl q h) (va_free (wc := [(q_32, .inr (3, [.null, .int 0, .int 0, .null, .null, .int 0, .int 0, .int 0])), (q_23, .inr (3, [.ref q_14, .int dz_26, .int r_19, .null, .null, .int 0, .int 0, .int 0]))]) hD hS hA [4, 2] rfl) (fun u t H_34 locs1 ht hvm hw hB hz1 hk1 hS1 => ?_)
  obtain ⟨dz_35, hB⟩ := hB
  obtain ⟨hP, hD, hK⟩ := zj (wc := [(q_32, .inr (3, [.null, .int 0, .int 0, .null, .null, .int 0, .int 0, .int 0])), (q_23, .inr (3, [.ref q_14, .int dz_26, .int r_19, .null, .null, .int 0, .int 0, .int 0]))]) (wr := [(h0, .inr (3, [.null, .int x1, .int x2, .null, .ref q_5, .int x5, .int x6, .int x7])), (q_5, .inr (3, [.ref h0, .int dz_8, .int r_1, .null, .ref q_14, .int 0, .int 0, .int 0])), (q_14, .inr (3, [.ref q_5, .int dz_17, .int r_10, .null, .ref q_23, .int 0, .int 0, .int 0]))]) (w1 := [(q_32, .inr (3, [.ref q_23, .int dz_35, .int r_28, .null, .null, .int 0, .int 0, .int 0])), (q_23, .inr (3, [.ref q_14, .int dz_26, .int r_19, .null, .null, .int 0, .int 0, .int 0]))]) hK hP hD hS hA [4, 2] [0, 1, 3] rfl rfl (by decide) (by decide) hk1 ht hvm hB
  have hS := hS1
  have hP : va_P D vwCl [(h0, .inr (3, [.null, .int x1, .int x2, .null, .ref q_5, .int x5, .int x6, .int x7])), (q_5, .inr (3, [.ref h0, .int dz_8, .int r_1, .null, .ref q_14, .int 0, .int 0, .int 0])), (q_14, .inr (3, [.ref q_5, .int dz_17, .int r_10, .null, .ref q_23, .int 0, .int 0, .int 0])), (q_32, .inr (3, [.ref q_23, .int dz_35, .int r_28, .null, .null, .int 0, .int 0, .int 0])), (q_23, .inr (3, [.ref q_14, .int dz_26, .int r_19, .null, .null, .int 0, .int 0, .int 0]))] H_34 := hP
  have hD : va_D A [(h0, .inr (3, [.null, .int x1, .int x2, .null, .ref q_5, .int x5, .int x6, .int x7])), (q_5, .inr (3, [.ref h0, .int dz_8, .int r_1, .null, .ref q_14, .int 0, .int 0, .int 0])), (q_14, .inr (3, [.ref q_5, .int dz_17, .int r_10, .null, .ref q_23, .int 0, .int 0, .int 0])), (q_32, .inr (3, [.ref q_23, .int dz_35, .int r_28, .null, .null, .int 0, .int 0, .int 0])), (q_23, .inr (3, [.ref q_14, .int dz_26, .int r_19, .null, .null, .int 0, .int 0, .int 0]))] := hD
  have hK : va_K D vwCl [] s := hK
  refine lv_astore (lv' := [(5, .ref q_32), (4, .int r_28), (3, .int 3), (2, .ref q_23), (0, .ref h0), (1, .int p0)]) hx hb dX3_grow_43 hl (by decide) rfl (fun ls hl => ?_)
  refine lv_aload_n hx hb dX3_grow_45 rfl (lv_at hl 3 rfl) ?_
  refine lv_aload hx hb dX3_grow_46 (lv_at hl 0 rfl) ?_
  refine va_put (D := D) (ci := 3) (v := .ref q_32) (ty := .object "CryOrder$Node") (C := RX3) (T := TX3) (N := 8) hx hb hts hin_X3 tyX3 tyX3_ok nmX3 hown hK hP hD hS 4 rfl rfl 4 (by decide) (hts (.fieldLink RX3 25 "CryOrder$Node" "firstChild" "LCryOrder$Node;") (by decide +kernel)) (fun _ h9 => h9) rfl (by decide +kernel) rfl rfl (Nat.le_of_ble_eq_true rfl) dX3_grow_48 (fun H_36 locs hP hD hS => ?_)
  have hP : va_P D vwCl [(h0, .inr (3, [.null, .int x1, .int x2, .null, .ref q_5, .int x5, .int x6, .int x7])), (q_5, .inr (3, [.ref h0, .int dz_8, .int r_1, .null, .ref q_14, .int 0, .int 0, .int 0])), (q_14, .inr (3, [.ref q_5, .int dz_17, .int r_10, .null, .ref q_23, .int 0, .int 0, .int 0])), (q_32, .inr (3, [.ref q_23, .int dz_35, .int r_28, .null, .null, .int 0, .int 0, .int 0])), (q_23, .inr (3, [.ref q_14, .int dz_26, .int r_19, .null, .ref q_32, .int 0, .int 0, .int 0]))] H_36 := hP
  have hD : va_D A [(h0, .inr (3, [.null, .int x1, .int x2, .null, .ref q_5, .int x5, .int x6, .int x7])), (q_5, .inr (3, [.ref h0, .int dz_8, .int r_1, .null, .ref q_14, .int 0, .int 0, .int 0])), (q_14, .inr (3, [.ref q_5, .int dz_17, .int r_10, .null, .ref q_23, .int 0, .int 0, .int 0])), (q_32, .inr (3, [.ref q_23, .int dz_35, .int r_28, .null, .null, .int 0, .int 0, .int 0])), (q_23, .inr (3, [.ref q_14, .int dz_26, .int r_19, .null, .ref q_32, .int 0, .int 0, .int 0]))] := hD
  refine lv_aload hx hb dX3_grow_51 (lv_at hl 0 rfl) ?_
  refine lv_astore_n (lv' := [(2, .ref q_32), (5, .ref q_32), (4, .int r_28), (3, .int 3), (0, .ref h0), (1, .int p0)]) hx hb dX3_grow_53 rfl hl (by decide) rfl (fun ls hl => ?_)
  refine lv_iinc (v := 4) (lv' := [(3, .int 4), (2, .ref q_32), (5, .ref q_32), (4, .int r_28), (0, .ref h0), (1, .int p0)]) hx hb dX3_grow_54 hl (k := 3) rfl (by decide) (by decide) rfl (fun ls hl => ?_)
  refine lv_goto (tgt := 4) hx hb dX3_grow_57 (by decide) ?_
  refine lv_iload_n hx hb dX3_grow_4 rfl (lv_at hl 0 rfl) ?_
  refine lv_iconst (v := 4) hx hb dX3_grow_5 (by decide) ?_
  refine lv_icmp_ge (tgt := 60) hx hb dX3_grow_6 (by decide) (fun _ => ?_) (fun c_ => absurd c_ (by decide))
  refine lv_aload_n hx hb dX3_grow_60 rfl (lv_at hl 1 rfl) ?_
  refine W.widen (k := 4) (n := 32) (Nat.le_of_ble_eq_true rfl) (Nat.le_of_ble_eq_true rfl) ?_
  have hP9 := hP.sub (ws' := [(h0, .inr (3, [.null, .int x1, .int x2, .null, .ref q_5, .int x5, .int x6, .int x7])), (q_5, .inr (3, [.ref h0, .int dz_8, .int r_1, .null, .ref q_14, .int 0, .int 0, .int 0])), (q_14, .inr (3, [.ref q_5, .int dz_17, .int r_10, .null, .ref q_23, .int 0, .int 0, .int 0])), (q_23, .inr (3, [.ref q_14, .int dz_26, .int r_19, .null, .ref q_32, .int 0, .int 0, .int 0])), (q_32, .inr (3, [.ref q_23, .int dz_35, .int r_28, .null, .null, .int 0, .int 0, .int 0]))]) [0, 1, 2, 4, 3] rfl
  have hD9 := hD.sub (ws' := [(h0, .inr (3, [.null, .int x1, .int x2, .null, .ref q_5, .int x5, .int x6, .int x7])), (q_5, .inr (3, [.ref h0, .int dz_8, .int r_1, .null, .ref q_14, .int 0, .int 0, .int 0])), (q_14, .inr (3, [.ref q_5, .int dz_17, .int r_10, .null, .ref q_23, .int 0, .int 0, .int 0])), (q_23, .inr (3, [.ref q_14, .int dz_26, .int r_19, .null, .ref q_32, .int 0, .int 0, .int 0])), (q_32, .inr (3, [.ref q_23, .int dz_35, .int r_28, .null, .null, .int 0, .int 0, .int 0]))]) [0, 1, 2, 4, 3] (by decide) rfl
  have hK9 := hK.sub (tys' := []) [] rfl
  exact W.aret hx hb hr (Or.inl ⟨_, rfl⟩) (Or.inr ⟨_, rfl⟩) (fun t ht hW => ⟨⟨(), q_32, rfl, trivial, q_5, q_14, q_23, dz_8, r_1, dz_17, r_10, dz_26, r_19, dz_35, r_28, by rw [ht]; exact hP9, va_K.moved hW.alike hK9, hD9⟩, hS.F ht⟩) hS.2.2 dX3_grow_61

set_option maxHeartbeats 4000000 in
set_option maxRecDepth 100000 in
theorem k_X3_addOpen (l : Launch) (D : va_G) (sz : Nat) (h0 : Nat) (n3 : Nat) (n2 : Nat) (n1 : Nat) (n0 : Nat) (e0 : Int32) (f0 : Int32) (s0 : Value) (w0 : Value) (g0 : Int32) (i0 : Int32) (o0 : Int32) (e1 : Int32) (f1 : Int32) (s1 : Value) (w1 : Value) (g1 : Int32) (i1 : Int32) (o1 : Int32) (e2 : Int32) (f2 : Int32) (s2 : Value) (w2 : Value) (g2 : Int32) (i2 : Int32) (o2 : Int32) (e3 : Int32) (f3 : Int32) (s3 : Value) (w3 : Value) (g3 : Int32) (i3 : Int32) (o3 : Int32) (e4 : Int32) (f4 : Int32) (s4 : Value) (w4 : Value) (g4 : Int32) (i4 : Int32) (o4 : Int32) : Met l yX3_addOpen wsX3_addOpen ({ frames := 0, cells := 0, slots := 0, locals := 0 }) (va_Pc [.ref h0] (wz sz D [] [(h0, .inr (3, [.ref n3, .int e0, .int f0, s0, w0, .int g0, .int i0, .int o0])), (n3, .inr (3, [.ref n2, .int e1, .int f1, s1, w1, .int g1, .int i1, .int o1])), (n2, .inr (3, [.ref n1, .int e2, .int f2, s2, w2, .int g2, .int i2, .int o2])), (n1, .inr (3, [.ref n0, .int e3, .int f3, s3, w3, .int g3, .int i3, .int o3])), (n0, .inr (3, [.null, .int e4, .int f4, s4, w4, .int g4, .int i4, .int o4]))])) (va_Qv (fun (_ : Unit) => True) (fun _ t => wp D [] (va_A [(h0, .inr (3, [.ref n3, .int e0, .int f0, s0, w0, .int g0, .int i0, .int o0])), (n3, .inr (3, [.ref n2, .int e1, .int f1, s1, w1, .int g1, .int i1, .int o1])), (n2, .inr (3, [.ref n1, .int e2, .int f2, s2, w2, .int g2, .int i2, .int o2])), (n1, .inr (3, [.ref n0, .int e3, .int f3, s3, w3, .int g3, .int i3, .int o3])), (n0, .inr (3, [.null, .int e4, .int f4, s4, w4, .int g4, .int i4, .int o4]))] sz) [] t) (va_A [(h0, .inr (3, [.ref n3, .int e0, .int f0, s0, w0, .int g0, .int i0, .int o0])), (n3, .inr (3, [.ref n2, .int e1, .int f1, s1, w1, .int g1, .int i1, .int o1])), (n2, .inr (3, [.ref n1, .int e2, .int f2, s2, w2, .int g2, .int i2, .int o2])), (n1, .inr (3, [.ref n0, .int e3, .int f3, s3, w3, .int g3, .int i3, .int o3])), (n0, .inr (3, [.null, .int e4, .int f4, s4, w4, .int g4, .int i4, .int o4]))] sz)) 0 0 (va_A [(h0, .inr (3, [.ref n3, .int e0, .int f0, s0, w0, .int g0, .int i0, .int o0])), (n3, .inr (3, [.ref n2, .int e1, .int f1, s1, w1, .int g1, .int i1, .int o1])), (n2, .inr (3, [.ref n1, .int e2, .int f2, s2, w2, .int g2, .int i2, .int o2])), (n1, .inr (3, [.ref n0, .int e3, .int f3, s3, w3, .int g3, .int i3, .int o3])), (n0, .inr (3, [.null, .int e4, .int f4, s4, w4, .int g4, .int i4, .int o4]))] sz) := by
  refine Met.ofW (cc := cX3_addOpen) (maxL := 2) (ret := none) (by decide) rfl ?_
  intro p e s m args below meth c s₁ B hml hv
  obtain ⟨rfl, hsz, hP, hK, hD0, hN⟩ := hv
  have hx := B.exec
  have hb := B.bytes
  have hr := B.returns
  have hts := atoms_spec (ws := wsX3_addOpen) B.pre
  have hown : s.vm.findClass RX3 = some m.cls := findClass_of_methodNamed B.named
  have hlocks := B.notSynchronized
  subst hsz
  have hD := hD0.self (sz := s.heap.size)
  generalize hAe : va_A [(h0, .inr (3, [.ref n3, .int e0, .int f0, s0, w0, .int g0, .int i0, .int o0])), (n3, .inr (3, [.ref n2, .int e1, .int f1, s1, w1, .int g1, .int i1, .int o1])), (n2, .inr (3, [.ref n1, .int e2, .int f2, s2, w2, .int g2, .int i2, .int o2])), (n1, .inr (3, [.ref n0, .int e3, .int f3, s3, w3, .int g3, .int i3, .int o3])), (n0, .inr (3, [.null, .int e4, .int f4, s4, w4, .int g4, .int i4, .int o4]))] s.heap.size = A at hD ⊢
  have hA : ∀ q : Nat, s.heap.size ≤ q → A q := fun q h => by rw [← hAe]; exact Or.inr h
  have hS : va_S A s.heap s.heap [] := va_S.rf
  have hin_X3 : ∀ w ∈ u_ws RX3 TX3 8, w ∈ wsX3_addOpen := by decide +kernel
  have hl := lv_entry ([.ref h0]) (n := 2) (Nat.le_of_ble_eq_true rfl)
  rw [lg_entry_eq]
  generalize (lg_sl ([.ref h0]) ++ List.replicate (2 - (lg_sl ([.ref h0])).length) Slot.unset).toArray = ls at hl ⊢
  have hl : lv_has ls 2 [(0, .ref h0)] := hl
  refine lv_aload_n hx hb dX3_addOpen_0 rfl (lv_at hl 0 rfl) ?_
  refine lv_astore_n (lv' := [(1, .ref h0), (0, .ref h0)]) hx hb dX3_addOpen_1 rfl hl (by decide) rfl (fun ls hl => ?_)
  refine lv_aload_n hx hb dX3_addOpen_2 rfl (lv_at hl 0 rfl) ?_
  refine lv_ifnull hx hb dX3_addOpen_3 ?_
  refine lv_aload_n hx hb dX3_addOpen_6 rfl (lv_at hl 0 rfl) ?_
  refine lv_dup hx hb dX3_addOpen_7 rfl ?_
  refine va_get (D := D) (ci := 3) (v := .int o0) (C := RX3) (T := TX3) (N := 8) hx hb hts hin_X3 hown hK hP 0 rfl rfl 7 (by decide) (hts (.fieldLink RX3 39 "CryOrder$Node" "open" "I") (by decide +kernel)) (fun _ h9 => h9) rfl dX3_addOpen_8 ?_
  refine lv_iconst (v := 1) hx hb dX3_addOpen_11 (by decide) ?_
  refine lv_iadd hx hb dX3_addOpen_12 ?_
  refine lv_topi (fun z_1 ez_1 => ?_)
  refine va_put (D := D) (ci := 3) (v := .int z_1) (ty := .int) (C := RX3) (T := TX3) (N := 8) hx hb hts hin_X3 tyX3 tyX3_ok nmX3 hown hK hP hD hS 0 rfl rfl 7 (by decide) (hts (.fieldLink RX3 39 "CryOrder$Node" "open" "I") (by decide +kernel)) (fun _ h9 => h9) rfl (by decide +kernel) rfl rfl (Nat.le_of_ble_eq_true rfl) dX3_addOpen_13 (fun H_2 locs hP hD hS => ?_)
  have hP : va_P D vwCl [(h0, .inr (3, [.ref n3, .int e0, .int f0, s0, w0, .int g0, .int i0, .int z_1])), (n3, .inr (3, [.ref n2, .int e1, .int f1, s1, w1, .int g1, .int i1, .int o1])), (n2, .inr (3, [.ref n1, .int e2, .int f2, s2, w2, .int g2, .int i2, .int o2])), (n1, .inr (3, [.ref n0, .int e3, .int f3, s3, w3, .int g3, .int i3, .int o3])), (n0, .inr (3, [.null, .int e4, .int f4, s4, w4, .int g4, .int i4, .int o4]))] H_2 := hP
  have hD : va_D A [(h0, .inr (3, [.ref n3, .int e0, .int f0, s0, w0, .int g0, .int i0, .int z_1])), (n3, .inr (3, [.ref n2, .int e1, .int f1, s1, w1, .int g1, .int i1, .int o1])), (n2, .inr (3, [.ref n1, .int e2, .int f2, s2, w2, .int g2, .int i2, .int o2])), (n1, .inr (3, [.ref n0, .int e3, .int f3, s3, w3, .int g3, .int i3, .int o3])), (n0, .inr (3, [.null, .int e4, .int f4, s4, w4, .int g4, .int i4, .int o4]))] := hD
  refine lv_aload_n hx hb dX3_addOpen_16 rfl (lv_at hl 0 rfl) ?_
  refine va_get (D := D) (ci := 3) (v := .ref n3) (C := RX3) (T := TX3) (N := 8) hx hb hts hin_X3 hown hK hP 0 rfl rfl 0 (by decide) (hts (.fieldLink RX3 9 "CryOrder$Node" "parent" "LCryOrder$Node;") (by decide +kernel)) (fun _ h9 => h9) rfl dX3_addOpen_17 ?_
  refine lv_astore_n (lv' := [(1, .ref n3), (0, .ref h0)]) hx hb dX3_addOpen_20 rfl hl (by decide) rfl (fun ls hl => ?_)
  refine lv_goto (tgt := 2) hx hb dX3_addOpen_21 (by decide) ?_
  refine lv_aload_n hx hb dX3_addOpen_2 rfl (lv_at hl 0 rfl) ?_
  refine lv_ifnull hx hb dX3_addOpen_3 ?_
  refine lv_aload_n hx hb dX3_addOpen_6 rfl (lv_at hl 0 rfl) ?_
  refine lv_dup hx hb dX3_addOpen_7 rfl ?_
  refine va_get (D := D) (ci := 3) (v := .int o1) (C := RX3) (T := TX3) (N := 8) hx hb hts hin_X3 hown hK hP 1 rfl rfl 7 (by decide) (hts (.fieldLink RX3 39 "CryOrder$Node" "open" "I") (by decide +kernel)) (fun _ h9 => h9) rfl dX3_addOpen_8 ?_
  refine lv_iconst (v := 1) hx hb dX3_addOpen_11 (by decide) ?_
  refine lv_iadd hx hb dX3_addOpen_12 ?_
  refine lv_topi (fun z_3 ez_3 => ?_)
  refine va_put (D := D) (ci := 3) (v := .int z_3) (ty := .int) (C := RX3) (T := TX3) (N := 8) hx hb hts hin_X3 tyX3 tyX3_ok nmX3 hown hK hP hD hS 1 rfl rfl 7 (by decide) (hts (.fieldLink RX3 39 "CryOrder$Node" "open" "I") (by decide +kernel)) (fun _ h9 => h9) rfl (by decide +kernel) rfl rfl (Nat.le_of_ble_eq_true rfl) dX3_addOpen_13 (fun H_4 locs hP hD hS => ?_)
  have hP : va_P D vwCl [(h0, .inr (3, [.ref n3, .int e0, .int f0, s0, w0, .int g0, .int i0, .int z_1])), (n3, .inr (3, [.ref n2, .int e1, .int f1, s1, w1, .int g1, .int i1, .int z_3])), (n2, .inr (3, [.ref n1, .int e2, .int f2, s2, w2, .int g2, .int i2, .int o2])), (n1, .inr (3, [.ref n0, .int e3, .int f3, s3, w3, .int g3, .int i3, .int o3])), (n0, .inr (3, [.null, .int e4, .int f4, s4, w4, .int g4, .int i4, .int o4]))] H_4 := hP
  have hD : va_D A [(h0, .inr (3, [.ref n3, .int e0, .int f0, s0, w0, .int g0, .int i0, .int z_1])), (n3, .inr (3, [.ref n2, .int e1, .int f1, s1, w1, .int g1, .int i1, .int z_3])), (n2, .inr (3, [.ref n1, .int e2, .int f2, s2, w2, .int g2, .int i2, .int o2])), (n1, .inr (3, [.ref n0, .int e3, .int f3, s3, w3, .int g3, .int i3, .int o3])), (n0, .inr (3, [.null, .int e4, .int f4, s4, w4, .int g4, .int i4, .int o4]))] := hD
  refine lv_aload_n hx hb dX3_addOpen_16 rfl (lv_at hl 0 rfl) ?_
  refine va_get (D := D) (ci := 3) (v := .ref n2) (C := RX3) (T := TX3) (N := 8) hx hb hts hin_X3 hown hK hP 1 rfl rfl 0 (by decide) (hts (.fieldLink RX3 9 "CryOrder$Node" "parent" "LCryOrder$Node;") (by decide +kernel)) (fun _ h9 => h9) rfl dX3_addOpen_17 ?_
  refine lv_astore_n (lv' := [(1, .ref n2), (0, .ref h0)]) hx hb dX3_addOpen_20 rfl hl (by decide) rfl (fun ls hl => ?_)
  refine lv_goto (tgt := 2) hx hb dX3_addOpen_21 (by decide) ?_
  refine lv_aload_n hx hb dX3_addOpen_2 rfl (lv_at hl 0 rfl) ?_
  refine lv_ifnull hx hb dX3_addOpen_3 ?_
  refine lv_aload_n hx hb dX3_addOpen_6 rfl (lv_at hl 0 rfl) ?_
  refine lv_dup hx hb dX3_addOpen_7 rfl ?_
  refine va_get (D := D) (ci := 3) (v := .int o2) (C := RX3) (T := TX3) (N := 8) hx hb hts hin_X3 hown hK hP 2 rfl rfl 7 (by decide) (hts (.fieldLink RX3 39 "CryOrder$Node" "open" "I") (by decide +kernel)) (fun _ h9 => h9) rfl dX3_addOpen_8 ?_
  refine lv_iconst (v := 1) hx hb dX3_addOpen_11 (by decide) ?_
  refine lv_iadd hx hb dX3_addOpen_12 ?_
  refine lv_topi (fun z_5 ez_5 => ?_)
  refine va_put (D := D) (ci := 3) (v := .int z_5) (ty := .int) (C := RX3) (T := TX3) (N := 8) hx hb hts hin_X3 tyX3 tyX3_ok nmX3 hown hK hP hD hS 2 rfl rfl 7 (by decide) (hts (.fieldLink RX3 39 "CryOrder$Node" "open" "I") (by decide +kernel)) (fun _ h9 => h9) rfl (by decide +kernel) rfl rfl (Nat.le_of_ble_eq_true rfl) dX3_addOpen_13 (fun H_6 locs hP hD hS => ?_)
  have hP : va_P D vwCl [(h0, .inr (3, [.ref n3, .int e0, .int f0, s0, w0, .int g0, .int i0, .int z_1])), (n3, .inr (3, [.ref n2, .int e1, .int f1, s1, w1, .int g1, .int i1, .int z_3])), (n2, .inr (3, [.ref n1, .int e2, .int f2, s2, w2, .int g2, .int i2, .int z_5])), (n1, .inr (3, [.ref n0, .int e3, .int f3, s3, w3, .int g3, .int i3, .int o3])), (n0, .inr (3, [.null, .int e4, .int f4, s4, w4, .int g4, .int i4, .int o4]))] H_6 := hP
  have hD : va_D A [(h0, .inr (3, [.ref n3, .int e0, .int f0, s0, w0, .int g0, .int i0, .int z_1])), (n3, .inr (3, [.ref n2, .int e1, .int f1, s1, w1, .int g1, .int i1, .int z_3])), (n2, .inr (3, [.ref n1, .int e2, .int f2, s2, w2, .int g2, .int i2, .int z_5])), (n1, .inr (3, [.ref n0, .int e3, .int f3, s3, w3, .int g3, .int i3, .int o3])), (n0, .inr (3, [.null, .int e4, .int f4, s4, w4, .int g4, .int i4, .int o4]))] := hD
  refine lv_aload_n hx hb dX3_addOpen_16 rfl (lv_at hl 0 rfl) ?_
  refine va_get (D := D) (ci := 3) (v := .ref n1) (C := RX3) (T := TX3) (N := 8) hx hb hts hin_X3 hown hK hP 2 rfl rfl 0 (by decide) (hts (.fieldLink RX3 9 "CryOrder$Node" "parent" "LCryOrder$Node;") (by decide +kernel)) (fun _ h9 => h9) rfl dX3_addOpen_17 ?_
  refine lv_astore_n (lv' := [(1, .ref n1), (0, .ref h0)]) hx hb dX3_addOpen_20 rfl hl (by decide) rfl (fun ls hl => ?_)
  refine lv_goto (tgt := 2) hx hb dX3_addOpen_21 (by decide) ?_
  refine lv_aload_n hx hb dX3_addOpen_2 rfl (lv_at hl 0 rfl) ?_
  refine lv_ifnull hx hb dX3_addOpen_3 ?_
  refine lv_aload_n hx hb dX3_addOpen_6 rfl (lv_at hl 0 rfl) ?_
  refine lv_dup hx hb dX3_addOpen_7 rfl ?_
  refine va_get (D := D) (ci := 3) (v := .int o3) (C := RX3) (T := TX3) (N := 8) hx hb hts hin_X3 hown hK hP 3 rfl rfl 7 (by decide) (hts (.fieldLink RX3 39 "CryOrder$Node" "open" "I") (by decide +kernel)) (fun _ h9 => h9) rfl dX3_addOpen_8 ?_
  refine lv_iconst (v := 1) hx hb dX3_addOpen_11 (by decide) ?_
  refine lv_iadd hx hb dX3_addOpen_12 ?_
  refine lv_topi (fun z_7 ez_7 => ?_)
  refine va_put (D := D) (ci := 3) (v := .int z_7) (ty := .int) (C := RX3) (T := TX3) (N := 8) hx hb hts hin_X3 tyX3 tyX3_ok nmX3 hown hK hP hD hS 3 rfl rfl 7 (by decide) (hts (.fieldLink RX3 39 "CryOrder$Node" "open" "I") (by decide +kernel)) (fun _ h9 => h9) rfl (by decide +kernel) rfl rfl (Nat.le_of_ble_eq_true rfl) dX3_addOpen_13 (fun H_8 locs hP hD hS => ?_)
  have hP : va_P D vwCl [(h0, .inr (3, [.ref n3, .int e0, .int f0, s0, w0, .int g0, .int i0, .int z_1])), (n3, .inr (3, [.ref n2, .int e1, .int f1, s1, w1, .int g1, .int i1, .int z_3])), (n2, .inr (3, [.ref n1, .int e2, .int f2, s2, w2, .int g2, .int i2, .int z_5])), (n1, .inr (3, [.ref n0, .int e3, .int f3, s3, w3, .int g3, .int i3, .int z_7])), (n0, .inr (3, [.null, .int e4, .int f4, s4, w4, .int g4, .int i4, .int o4]))] H_8 := hP
  have hD : va_D A [(h0, .inr (3, [.ref n3, .int e0, .int f0, s0, w0, .int g0, .int i0, .int z_1])), (n3, .inr (3, [.ref n2, .int e1, .int f1, s1, w1, .int g1, .int i1, .int z_3])), (n2, .inr (3, [.ref n1, .int e2, .int f2, s2, w2, .int g2, .int i2, .int z_5])), (n1, .inr (3, [.ref n0, .int e3, .int f3, s3, w3, .int g3, .int i3, .int z_7])), (n0, .inr (3, [.null, .int e4, .int f4, s4, w4, .int g4, .int i4, .int o4]))] := hD
  refine lv_aload_n hx hb dX3_addOpen_16 rfl (lv_at hl 0 rfl) ?_
  refine va_get (D := D) (ci := 3) (v := .ref n0) (C := RX3) (T := TX3) (N := 8) hx hb hts hin_X3 hown hK hP 3 rfl rfl 0 (by decide) (hts (.fieldLink RX3 9 "CryOrder$Node" "parent" "LCryOrder$Node;") (by decide +kernel)) (fun _ h9 => h9) rfl dX3_addOpen_17 ?_
  refine lv_astore_n (lv' := [(1, .ref n0), (0, .ref h0)]) hx hb dX3_addOpen_20 rfl hl (by decide) rfl (fun ls hl => ?_)
  refine lv_goto (tgt := 2) hx hb dX3_addOpen_21 (by decide) ?_
  refine lv_aload_n hx hb dX3_addOpen_2 rfl (lv_at hl 0 rfl) ?_
  refine lv_ifnull hx hb dX3_addOpen_3 ?_
  refine lv_aload_n hx hb dX3_addOpen_6 rfl (lv_at hl 0 rfl) ?_
  refine lv_dup hx hb dX3_addOpen_7 rfl ?_
  refine va_get (D := D) (ci := 3) (v := .int o4) (C := RX3) (T := TX3) (N := 8) hx hb hts hin_X3 hown hK hP 4 rfl rfl 7 (by decide) (hts (.fieldLink RX3 39 "CryOrder$Node" "open" "I") (by decide +kernel)) (fun _ h9 => h9) rfl dX3_addOpen_8 ?_
  refine lv_iconst (v := 1) hx hb dX3_addOpen_11 (by decide) ?_
  refine lv_iadd hx hb dX3_addOpen_12 ?_
  refine lv_topi (fun z_9 ez_9 => ?_)
  refine va_put (D := D) (ci := 3) (v := .int z_9) (ty := .int) (C := RX3) (T := TX3) (N := 8) hx hb hts hin_X3 tyX3 tyX3_ok nmX3 hown hK hP hD hS 4 rfl rfl 7 (by decide) (hts (.fieldLink RX3 39 "CryOrder$Node" "open" "I") (by decide +kernel)) (fun _ h9 => h9) rfl (by decide +kernel) rfl rfl (Nat.le_of_ble_eq_true rfl) dX3_addOpen_13 (fun H_10 locs hP hD hS => ?_)
  have hP : va_P D vwCl [(h0, .inr (3, [.ref n3, .int e0, .int f0, s0, w0, .int g0, .int i0, .int z_1])), (n3, .inr (3, [.ref n2, .int e1, .int f1, s1, w1, .int g1, .int i1, .int z_3])), (n2, .inr (3, [.ref n1, .int e2, .int f2, s2, w2, .int g2, .int i2, .int z_5])), (n1, .inr (3, [.ref n0, .int e3, .int f3, s3, w3, .int g3, .int i3, .int z_7])), (n0, .inr (3, [.null, .int e4, .int f4, s4, w4, .int g4, .int i4, .int z_9]))] H_10 := hP
  have hD : va_D A [(h0, .inr (3, [.ref n3, .int e0, .int f0, s0, w0, .int g0, .int i0, .int z_1])), (n3, .inr (3, [.ref n2, .int e1, .int f1, s1, w1, .int g1, .int i1, .int z_3])), (n2, .inr (3, [.ref n1, .int e2, .int f2, s2, w2, .int g2, .int i2, .int z_5])), (n1, .inr (3, [.ref n0, .int e3, .int f3, s3, w3, .int g3, .int i3, .int z_7])), (n0, .inr (3, [.null, .int e4, .int f4, s4, w4, .int g4, .int i4, .int z_9]))] := hD
  refine lv_aload_n hx hb dX3_addOpen_16 rfl (lv_at hl 0 rfl) ?_
  refine va_get (D := D) (ci := 3) (v := .null) (C := RX3) (T := TX3) (N := 8) hx hb hts hin_X3 hown hK hP 4 rfl rfl 0 (by decide) (hts (.fieldLink RX3 9 "CryOrder$Node" "parent" "LCryOrder$Node;") (by decide +kernel)) (fun _ h9 => h9) rfl dX3_addOpen_17 ?_
  refine lv_astore_nN (lv' := [(1, .null), (0, .ref h0)]) hx hb dX3_addOpen_20 rfl hl (by decide) rfl (fun ls hl => ?_)
  refine lv_goto (tgt := 2) hx hb dX3_addOpen_21 (by decide) ?_
  refine lv_aload_nN hx hb dX3_addOpen_2 rfl (lv_at hl 0 rfl) ?_
  refine lv_ifnullN (tgt := 24) hx hb dX3_addOpen_3 (by decide) ?_
  refine W.widen (k := 0) (n := 0) (Nat.le_of_ble_eq_true rfl) (Nat.le_of_ble_eq_true rfl) ?_
  have hP9 := hP.sub (ws' := []) [] rfl
  have hD9 := hD.sub (ws' := []) [] (by decide) rfl
  have hK9 := hK.sub (tys' := []) [] rfl
  exact W.vret hx hb hr (fun t ht hW => ⟨⟨(), rfl, trivial, by rw [ht]; exact hP9, va_K.moved hW.alike hK9, hD9⟩, hS.F ht⟩) hS.2.2 dX3_addOpen_24
