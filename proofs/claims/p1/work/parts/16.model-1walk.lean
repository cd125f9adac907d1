set_option maxHeartbeats 4000000 in
set_option maxRecDepth 100000 in
theorem k_X9_counts (l : Launch) (D : va_G) (sz : Nat) (h0 : Nat) (b1 : Nat) (b2 : Nat) (b3 : Nat) (b4 : Nat) (b5 : Nat) (b6 : Nat) (b7 : Nat) (b8 : Nat) (b9 : Nat) (b10 : Nat) (b11 : Nat) (b12 : Nat) (b13 : Nat) (b14 : Nat) (b15 : Nat) (b16 : Nat) (b17 : Nat) (b18 : Nat) (b19 : Nat) (b20 : Nat) (b21 : Nat) (b22 : Nat) (b23 : Nat) (b24 : Nat) (b25 : Nat) (p0 : Int32) (p1 : Int32) : Met l yX9_counts wsX9_counts ({ frames := 0, cells := 0, slots := 0, locals := 0 }) (va_Pc [.ref h0, .int p0, .int p1] (wz sz D [] [(h0, .inr (9, [.int 0, .int 0, .int 0, .int 0, .int 50, .int 3, .int 0, .ref b1, .ref b2, .ref b3, .ref b4, .ref b5, .ref b6, .ref b7, .ref b8, .ref b9, .ref b10, .ref b11, .ref b12, .ref b13, .ref b14, .ref b15, .ref b16, .ref b17, .ref b18, .int 0, .int 0, .int 0, .ref b19, .ref b20, .ref b21, .int 0, .ref b22, .ref b23, .int 0, .ref b24, .ref b25]))])) (va_Qv (fun (_ : Unit) => True) (fun _ t => wp D [] (va_A [(h0, .inr (9, [.int 0, .int 0, .int 0, .int 0, .int 50, .int 3, .int 0, .ref b1, .ref b2, .ref b3, .ref b4, .ref b5, .ref b6, .ref b7, .ref b8, .ref b9, .ref b10, .ref b11, .ref b12, .ref b13, .ref b14, .ref b15, .ref b16, .ref b17, .ref b18, .int 0, .int 0, .int 0, .ref b19, .ref b20, .ref b21, .int 0, .ref b22, .ref b23, .int 0, .ref b24, .ref b25]))] sz) [(h0, .inr (9, [.int 0, .int 0, .int 0, .int 0, .int 50, .int 3, .int 0, .ref b1, .ref b2, .ref b3, .ref b4, .ref b5, .ref b6, .ref b7, .ref b8, .ref b9, .ref b10, .ref b11, .ref b12, .ref b13, .ref b14, .ref b15, .ref b16, .ref b17, .ref b18, .int 0, .int 0, .int 0, .ref b19, .ref b20, .ref b21, .int 0, .ref b22, .ref b23, .int 0, .ref b24, .ref b25]))] t) (va_A [(h0, .inr (9, [.int 0, .int 0, .int 0, .int 0, .int 50, .int 3, .int 0, .ref b1, .ref b2, .ref b3, .ref b4, .ref b5, .ref b6, .ref b7, .ref b8, .ref b9, .ref b10, .ref b11, .ref b12, .ref b13, .ref b14, .ref b15, .ref b16, .ref b17, .ref b18, .int 0, .int 0, .int 0, .ref b19, .ref b20, .ref b21, .int 0, .ref b22, .ref b23, .int 0, .ref b24, .ref b25]))] sz)) 0 0 (va_A [(h0, .inr (9, [.int 0, .int 0, .int 0, .int 0, .int 50, .int 3, .int 0, .ref b1, .ref b2, .ref b3, .ref b4, .ref b5, .ref b6, .ref b7, .ref b8, .ref b9, .ref b10, .ref b11, .ref b12, .ref b13, .ref b14, .ref b15, .ref b16, .ref b17, .ref b18, .int 0, .int 0, .int 0, .ref b19, .ref b20, .ref b21, .int 0, .ref b22, .ref b23, .int 0, .ref b24, .ref b25]))] sz) := by
  refine Met.ofW (cc := cX9_counts) (maxL := 5) (ret := none) (by decide) rfl ?_
  intro p e s m args below meth c s₁ B hml hv
  obtain ⟨rfl, hsz, hP, hK, hD0, hN⟩ := hv
  have hx := B.exec
  have hb := B.bytes
  have hr := B.returns
  have hts := atoms_spec (ws := wsX9_counts) B.pre
  have hown : s.vm.findClass RX9 = some m.cls := findClass_of_methodNamed B.named
  have hlocks := B.notSynchronized
  subst hsz
  have hD := hD0.self (sz := s.heap.size)
  generalize hAe : va_A [(h0, .inr (9, [.int 0, .int 0, .int 0, .int 0, .int 50, .int 3, .int 0, .ref b1, .ref b2, .ref b3, .ref b4, .ref b5, .ref b6, .ref b7, .ref b8, .ref b9, .ref b10, .ref b11, .ref b12, .ref b13, .ref b14, .ref b15, .ref b16, .ref b17, .ref b18, .int 0, .int 0, .int 0, .ref b19, .ref b20, .ref b21, .int 0, .ref b22, .ref b23, .int 0, .ref b24, .ref b25]))] s.heap.size = A at hD ⊢
  have hA : ∀ q : Nat, s.heap.size ≤ q → A q := fun q h => by rw [← hAe]; exact Or.inr h
  have hS : va_S A s.heap s.heap [] := va_S.rf
  have hin_X9 : ∀ w ∈ u_ws RX9 TX9 37, w ∈ wsX9_counts := by decide +kernel
  have hl := lv_entry ([.ref h0, .int p0, .int p1]) (n := 5) (Nat.le_of_ble_eq_true rfl)
  rw [lg_entry_eq]
  generalize (lg_sl ([.ref h0, .int p0, .int p1]) ++ List.replicate (5 - (lg_sl ([.ref h0, .int p0, .int p1])).length) Slot.unset).toArray = ls at hl ⊢
  have hl : lv_has ls 5 [(0, .ref h0), (1, .int p0), (2, .int p1)] := hl
  refine lv_aload_n hx hb dX9_counts_0 rfl (lv_at hl 0 rfl) ?_
  refine lv_iconst (v := 0) hx hb dX9_counts_1 (by decide) ?_
  refine va_put (D := D) (ci := 9) (v := .int 0) (ty := .int) (C := RX9) (T := TX9) (N := 37) hx hb hts hin_X9 tyX9 tyX9_ok nmX9 hown hK hP hD hS 0 rfl rfl 25 (by decide) (hts (.fieldLink RX9 131 "CryOrderModel" "trues" "I") (by decide +kernel)) (fun _ h9 => h9) rfl (by decide +kernel) rfl rfl (Nat.le_of_ble_eq_true rfl) dX9_counts_2 (fun H_1 locs hP hD hS => ?_)
  have hP : va_P D vwCl [(h0, .inr (9, [.int 0, .int 0, .int 0, .int 0, .int 50, .int 3, .int 0, .ref b1, .ref b2, .ref b3, .ref b4, .ref b5, .ref b6, .ref b7, .ref b8, .ref b9, .ref b10, .ref b11, .ref b12, .ref b13, .ref b14, .ref b15, .ref b16, .ref b17, .ref b18, .int 0, .int 0, .int 0, .ref b19, .ref b20, .ref b21, .int 0, .ref b22, .ref b23, .int 0, .ref b24, .ref b25]))] H_1 := hP
  have hD : va_D A [(h0, .inr (9, [.int 0, .int 0, .int 0, .int 0, .int 50, .int 3, .int 0, .ref b1, .ref b2, .ref b3, .ref b4, .ref b5, .ref b6, .ref b7, .ref b8, .ref b9, .ref b10, .ref b11, .ref b12, .ref b13, .ref b14, .ref b15, .ref b16, .ref b17, .ref b18, .int 0, .int 0, .int 0, .ref b19, .ref b20, .ref b21, .int 0, .ref b22, .ref b23, .int 0, .ref b24, .ref b25]))] := hD
  refine lv_aload_n hx hb dX9_counts_5 rfl (lv_at hl 0 rfl) ?_
  refine lv_iconst (v := 0) hx hb dX9_counts_6 (by decide) ?_
  refine va_put (D := D) (ci := 9) (v := .int 0) (ty := .int) (C := RX9) (T := TX9) (N := 37) hx hb hts hin_X9 tyX9 tyX9_ok nmX9 hown hK hP hD hS 0 rfl rfl 26 (by decide) (hts (.fieldLink RX9 134 "CryOrderModel" "settled" "I") (by decide +kernel)) (fun _ h9 => h9) rfl (by decide +kernel) rfl rfl (Nat.le_of_ble_eq_true rfl) dX9_counts_7 (fun H_2 locs hP hD hS => ?_)
  have hP : va_P D vwCl [(h0, .inr (9, [.int 0, .int 0, .int 0, .int 0, .int 50, .int 3, .int 0, .ref b1, .ref b2, .ref b3, .ref b4, .ref b5, .ref b6, .ref b7, .ref b8, .ref b9, .ref b10, .ref b11, .ref b12, .ref b13, .ref b14, .ref b15, .ref b16, .ref b17, .ref b18, .int 0, .int 0, .int 0, .ref b19, .ref b20, .ref b21, .int 0, .ref b22, .ref b23, .int 0, .ref b24, .ref b25]))] H_2 := hP
  have hD : va_D A [(h0, .inr (9, [.int 0, .int 0, .int 0, .int 0, .int 50, .int 3, .int 0, .ref b1, .ref b2, .ref b3, .ref b4, .ref b5, .ref b6, .ref b7, .ref b8, .ref b9, .ref b10, .ref b11, .ref b12, .ref b13, .ref b14, .ref b15, .ref b16, .ref b17, .ref b18, .int 0, .int 0, .int 0, .ref b19, .ref b20, .ref b21, .int 0, .ref b22, .ref b23, .int 0, .ref b24, .ref b25]))] := hD
  refine lv_aload_n hx hb dX9_counts_10 rfl (lv_at hl 0 rfl) ?_
  refine lv_iconst (v := 0) hx hb dX9_counts_11 (by decide) ?_
  refine va_put (D := D) (ci := 9) (v := .int 0) (ty := .int) (C := RX9) (T := TX9) (N := 37) hx hb hts hin_X9 tyX9 tyX9_ok nmX9 hown hK hP hD hS 0 rfl rfl 27 (by decide) (hts (.fieldLink RX9 137 "CryOrderModel" "opens" "I") (by decide +kernel)) (fun _ h9 => h9) rfl (by decide +kernel) rfl rfl (Nat.le_of_ble_eq_true rfl) dX9_counts_12 (fun H_3 locs hP hD hS => ?_)
  have hP : va_P D vwCl [(h0, .inr (9, [.int 0, .int 0, .int 0, .int 0, .int 50, .int 3, .int 0, .ref b1, .ref b2, .ref b3, .ref b4, .ref b5, .ref b6, .ref b7, .ref b8, .ref b9, .ref b10, .ref b11, .ref b12, .ref b13, .ref b14, .ref b15, .ref b16, .ref b17, .ref b18, .int 0, .int 0, .int 0, .ref b19, .ref b20, .ref b21, .int 0, .ref b22, .ref b23, .int 0, .ref b24, .ref b25]))] H_3 := hP
  have hD : va_D A [(h0, .inr (9, [.int 0, .int 0, .int 0, .int 0, .int 50, .int 3, .int 0, .ref b1, .ref b2, .ref b3, .ref b4, .ref b5, .ref b6, .ref b7, .ref b8, .ref b9, .ref b10, .ref b11, .ref b12, .ref b13, .ref b14, .ref b15, .ref b16, .ref b17, .ref b18, .int 0, .int 0, .int 0, .ref b19, .ref b20, .ref b21, .int 0, .ref b22, .ref b23, .int 0, .ref b24, .ref b25]))] := hD
  refine lv_iconst (v := 3) hx hb dX9_counts_15 (by decide) ?_
  refine lv_iconst (v := 4) hx hb dX9_counts_16 (by decide) ?_
  refine lv_iload_n hx hb dX9_counts_17 rfl (lv_at hl 1 rfl) ?_
  refine lv_isub hx hb dX9_counts_18 ?_
  refine lv_topi (fun z_4 ez_4 => ?_)
  refine lv_imul hx hb dX9_counts_19 ?_
  refine lv_topi (fun z_5 ez_5 => ?_)
  refine lv_istore_n (lv' := [(3, .int z_5), (0, .ref h0), (1, .int p0), (2, .int p1)]) hx hb dX9_counts_20 rfl hl (by decide) rfl (fun ls hl => ?_)
  refine lv_iconst (v := 0) hx hb dX9_counts_21 (by decide) ?_
  refine lv_istore (lv' := [(4, .int 0), (3, .int z_5), (0, .ref h0), (1, .int p0), (2, .int p1)]) hx hb dX9_counts_22 hl (by decide) rfl (fun ls hl => ?_)
  refine lv_iload hx hb dX9_counts_24 (lv_at hl 0 rfl) ?_
  refine lv_aload_n hx hb dX9_counts_26 rfl (lv_at hl 2 rfl) ?_
  refine va_get (D := D) (ci := 9) (v := .int 0) (C := RX9) (T := TX9) (N := 37) hx hb hts hin_X9 hown hK hP 0 rfl rfl 1 (by decide) (hts (.fieldLink RX9 93 "CryOrderModel" "alarms" "I") (by decide +kernel)) (fun _ h9 => h9) rfl dX9_counts_27 ?_
  refine lv_icmp_ge (tgt := 139) hx hb dX9_counts_30 (by decide) (fun _ => ?_) (fun c_ => absurd c_ (by decide))
  refine W.widen (k := 0) (n := 0) (Nat.le_of_ble_eq_true rfl) (Nat.le_of_ble_eq_true rfl) ?_
  have hP9 := hP.sub (ws' := [(h0, .inr (9, [.int 0, .int 0, .int 0, .int 0, .int 50, .int 3, .int 0, .ref b1, .ref b2, .ref b3, .ref b4, .ref b5, .ref b6, .ref b7, .ref b8, .ref b9, .ref b10, .ref b11, .ref b12, .ref b13, .ref b14, .ref b15, .ref b16, .ref b17, .ref b18, .int 0, .int 0, .int 0, .ref b19, .ref b20, .ref b21, .int 0, .ref b22, .ref b23, .int 0, .ref b24, .ref b25]))]) [0] rfl
  have hD9 := hD.sub (ws' := [(h0, .inr (9, [.int 0, .int 0, .int 0, .int 0, .int 50, .int 3, .int 0, .ref b1, .ref b2, .ref b3, .ref b4, .ref b5, .ref b6, .ref b7, .ref b8, .ref b9, .ref b10, .ref b11, .ref b12, .ref b13, .ref b14, .ref b15, .ref b16, .ref b17, .ref b18, .int 0, .int 0, .int 0, .ref b19, .ref b20, .ref b21, .int 0, .ref b22, .ref b23, .int 0, .ref b24, .ref b25]))]) [0] (by decide) rfl
  have hK9 := hK.sub (tys' := []) [] rfl
  exact W.vret hx hb hr (fun t ht hW => ⟨⟨(), rfl, trivial, by rw [ht]; exact hP9, va_K.moved hW.alike hK9, hD9⟩, hS.F ht⟩) hS.2.2 dX9_counts_139

set_option maxHeartbeats 4000000 in
set_option maxRecDepth 100000 in
theorem k_X9_joins (l : Launch) (D : va_G) (sz : Nat) (h0 : Nat) (b1 : Nat) (b2 : Nat) (b3 : Nat) (b4 : Nat) (b5 : Nat) (b6 : Nat) (b7 : Nat) (b8 : Nat) (b9 : Nat) (b10 : Nat) (b11 : Nat) (b12 : Nat) (b13 : Nat) (b14 : Nat) (b15 : Nat) (b16 : Nat) (b17 : Nat) (b18 : Nat) (b19 : Nat) (b20 : Nat) (b21 : Nat) (b22 : Nat) (b23 : Nat) (b24 : Nat) (b25 : Nat) : Met l yX9_joins wsX9_joins ({ frames := 0, cells := 0, slots := 0, locals := 0 }) (va_Pc [.ref h0] (wz sz D [] [(h0, .inr (9, [.int 0, .int 0, .int 0, .int 0, .int 50, .int 3, .int 0, .ref b1, .ref b2, .ref b3, .ref b4, .ref b5, .ref b6, .ref b7, .ref b8, .ref b9, .ref b10, .ref b11, .ref b12, .ref b13, .ref b14, .ref b15, .ref b16, .ref b17, .ref b18, .int 0, .int 0, .int 0, .ref b19, .ref b20, .ref b21, .int 0, .ref b22, .ref b23, .int 0, .ref b24, .ref b25]))])) (va_Qv (fun (_ : Unit) => True) (fun _ t => wp D [] (va_A [(h0, .inr (9, [.int 0, .int 0, .int 0, .int 0, .int 50, .int 3, .int 0, .ref b1, .ref b2, .ref b3, .ref b4, .ref b5, .ref b6, .ref b7, .ref b8, .ref b9, .ref b10, .ref b11, .ref b12, .ref b13, .ref b14, .ref b15, .ref b16, .ref b17, .ref b18, .int 0, .int 0, .int 0, .ref b19, .ref b20, .ref b21, .int 0, .ref b22, .ref b23, .int 0, .ref b24, .ref b25]))] sz) [(h0, .inr (9, [.int 0, .int 0, .int 0, .int 0, .int 50, .int 3, .int 0, .ref b1, .ref b2, .ref b3, .ref b4, .ref b5, .ref b6, .ref b7, .ref b8, .ref b9, .ref b10, .ref b11, .ref b12, .ref b13, .ref b14, .ref b15, .ref b16, .ref b17, .ref b18, .int 0, .int 0, .int 0, .ref b19, .ref b20, .ref b21, .int 0, .ref b22, .ref b23, .int 0, .ref b24, .ref b25]))] t) (va_A [(h0, .inr (9, [.int 0, .int 0, .int 0, .int 0, .int 50, .int 3, .int 0, .ref b1, .ref b2, .ref b3, .ref b4, .ref b5, .ref b6, .ref b7, .ref b8, .ref b9, .ref b10, .ref b11, .ref b12, .ref b13, .ref b14, .ref b15, .ref b16, .ref b17, .ref b18, .int 0, .int 0, .int 0, .ref b19, .ref b20, .ref b21, .int 0, .ref b22, .ref b23, .int 0, .ref b24, .ref b25]))] sz)) 0 0 (va_A [(h0, .inr (9, [.int 0, .int 0, .int 0, .int 0, .int 50, .int 3, .int 0, .ref b1, .ref b2, .ref b3, .ref b4, .ref b5, .ref b6, .ref b7, .ref b8, .ref b9, .ref b10, .ref b11, .ref b12, .ref b13, .ref b14, .ref b15, .ref b16, .ref b17, .ref b18, .int 0, .int 0, .int 0, .ref b19, .ref b20, .ref b21, .int 0, .ref b22, .ref b23, .int 0, .ref b24, .ref b25]))] sz) := by
  refine Met.ofW (cc := cX9_joins) (maxL := 6) (ret := none) (by decide) rfl ?_
  intro p e s m args below meth c s₁ B hml hv
  obtain ⟨rfl, hsz, hP, hK, hD0, hN⟩ := hv
  have hx := B.exec
  have hb := B.bytes
  have hr := B.returns
  have hts := atoms_spec (ws := wsX9_joins) B.pre
  have hown : s.vm.findClass RX9 = some m.cls := findClass_of_methodNamed B.named
  have hlocks := B.notSynchronized
  subst hsz
  have hD := hD0.self (sz := s.heap.size)
  generalize hAe : va_A [(h0, .inr (9, [.int 0, .int 0, .int 0, .int 0, .int 50, .int 3, .int 0, .ref b1, .ref b2, .ref b3, .ref b4, .ref b5, .ref b6, .ref b7, .ref b8, .ref b9, .ref b10, .ref b11, .ref b12, .ref b13, .ref b14, .ref b15, .ref b16, .ref b17, .ref b18, .int 0, .int 0, .int 0, .ref b19, .ref b20, .ref b21, .int 0, .ref b22, .ref b23, .int 0, .ref b24, .ref b25]))] s.heap.size = A at hD ⊢
  have hA : ∀ q : Nat, s.heap.size ≤ q → A q := fun q h => by rw [← hAe]; exact Or.inr h
  have hS : va_S A s.heap s.heap [] := va_S.rf
  have hin_X9 : ∀ w ∈ u_ws RX9 TX9 37, w ∈ wsX9_joins := by decide +kernel
  have hl := lv_entry ([.ref h0]) (n := 6) (Nat.le_of_ble_eq_true rfl)
  rw [lg_entry_eq]
  generalize (lg_sl ([.ref h0]) ++ List.replicate (6 - (lg_sl ([.ref h0])).length) Slot.unset).toArray = ls at hl ⊢
  have hl : lv_has ls 6 [(0, .ref h0)] := hl
  refine lv_iconst (v := 0) hx hb dX9_joins_0 (by decide) ?_
  refine lv_istore_n (lv' := [(1, .int 0), (0, .ref h0)]) hx hb dX9_joins_1 rfl hl (by decide) rfl (fun ls hl => ?_)
  refine lv_iload_n hx hb dX9_joins_2 rfl (lv_at hl 0 rfl) ?_
  refine lv_aload_n hx hb dX9_joins_3 rfl (lv_at hl 1 rfl) ?_
  refine va_get (D := D) (ci := 9) (v := .int 0) (C := RX9) (T := TX9) (N := 37) hx hb hts hin_X9 hown hK hP 0 rfl rfl 1 (by decide) (hts (.fieldLink RX9 93 "CryOrderModel" "alarms" "I") (by decide +kernel)) (fun _ h9 => h9) rfl dX9_joins_4 ?_
  refine lv_icmp_ge (tgt := 58) hx hb dX9_joins_7 (by decide) (fun _ => ?_) (fun c_ => absurd c_ (by decide))
  refine lv_iconst (v := 0) hx hb dX9_joins_58 (by decide) ?_
  refine lv_istore_n (lv' := [(1, .int 0), (0, .ref h0)]) hx hb dX9_joins_59 rfl hl (by decide) rfl (fun ls hl => ?_)
  refine lv_iload_n hx hb dX9_joins_60 rfl (lv_at hl 0 rfl) ?_
  refine lv_aload_n hx hb dX9_joins_61 rfl (lv_at hl 1 rfl) ?_
  refine va_get (D := D) (ci := 9) (v := .int 0) (C := RX9) (T := TX9) (N := 37) hx hb hts hin_X9 hown hK hP 0 rfl rfl 1 (by decide) (hts (.fieldLink RX9 93 "CryOrderModel" "alarms" "I") (by decide +kernel)) (fun _ h9 => h9) rfl dX9_joins_62 ?_
  refine lv_icmp_ge (tgt := 210) hx hb dX9_joins_65 (by decide) (fun _ => ?_) (fun c_ => absurd c_ (by decide))
  refine lv_aload_n hx hb dX9_joins_210 rfl (lv_at hl 1 rfl) ?_
  refine lv_iconst (v := 0) hx hb dX9_joins_211 (by decide) ?_
  refine va_put (D := D) (ci := 9) (v := .int 0) (ty := .int) (C := RX9) (T := TX9) (N := 37) hx hb hts hin_X9 tyX9 tyX9_ok nmX9 hown hK hP hD hS 0 rfl rfl 31 (by decide) (hts (.fieldLink RX9 165 "CryOrderModel" "cases" "I") (by decide +kernel)) (fun _ h9 => h9) rfl (by decide +kernel) rfl rfl (Nat.le_of_ble_eq_true rfl) dX9_joins_212 (fun H_1 locs hP hD hS => ?_)
  have hP : va_P D vwCl [(h0, .inr (9, [.int 0, .int 0, .int 0, .int 0, .int 50, .int 3, .int 0, .ref b1, .ref b2, .ref b3, .ref b4, .ref b5, .ref b6, .ref b7, .ref b8, .ref b9, .ref b10, .ref b11, .ref b12, .ref b13, .ref b14, .ref b15, .ref b16, .ref b17, .ref b18, .int 0, .int 0, .int 0, .ref b19, .ref b20, .ref b21, .int 0, .ref b22, .ref b23, .int 0, .ref b24, .ref b25]))] H_1 := hP
  have hD : va_D A [(h0, .inr (9, [.int 0, .int 0, .int 0, .int 0, .int 50, .int 3, .int 0, .ref b1, .ref b2, .ref b3, .ref b4, .ref b5, .ref b6, .ref b7, .ref b8, .ref b9, .ref b10, .ref b11, .ref b12, .ref b13, .ref b14, .ref b15, .ref b16, .ref b17, .ref b18, .int 0, .int 0, .int 0, .ref b19, .ref b20, .ref b21, .int 0, .ref b22, .ref b23, .int 0, .ref b24, .ref b25]))] := hD
  refine lv_iconst (v := 0) hx hb dX9_joins_215 (by decide) ?_
  refine lv_istore_n (lv' := [(1, .int 0), (0, .ref h0)]) hx hb dX9_joins_216 rfl hl (by decide) rfl (fun ls hl => ?_)
  refine lv_iload_n hx hb dX9_joins_217 rfl (lv_at hl 0 rfl) ?_
  refine lv_aload_n hx hb dX9_joins_218 rfl (lv_at hl 1 rfl) ?_
  refine va_get (D := D) (ci := 9) (v := .int 0) (C := RX9) (T := TX9) (N := 37) hx hb hts hin_X9 hown hK hP 0 rfl rfl 1 (by decide) (hts (.fieldLink RX9 93 "CryOrderModel" "alarms" "I") (by decide +kernel)) (fun _ h9 => h9) rfl dX9_joins_219 ?_
  refine lv_icmp_ge (tgt := 312) hx hb dX9_joins_222 (by decide) (fun _ => ?_) (fun c_ => absurd c_ (by decide))
  refine W.widen (k := 0) (n := 0) (Nat.le_of_ble_eq_true rfl) (Nat.le_of_ble_eq_true rfl) ?_
  have hP9 := hP.sub (ws' := [(h0, .inr (9, [.int 0, .int 0, .int 0, .int 0, .int 50, .int 3, .int 0, .ref b1, .ref b2, .ref b3, .ref b4, .ref b5, .ref b6, .ref b7, .ref b8, .ref b9, .ref b10, .ref b11, .ref b12, .ref b13, .ref b14, .ref b15, .ref b16, .ref b17, .ref b18, .int 0, .int 0, .int 0, .ref b19, .ref b20, .ref b21, .int 0, .ref b22, .ref b23, .int 0, .ref b24, .ref b25]))]) [0] rfl
  have hD9 := hD.sub (ws' := [(h0, .inr (9, [.int 0, .int 0, .int 0, .int 0, .int 50, .int 3, .int 0, .ref b1, .ref b2, .ref b3, .ref b4, .ref b5, .ref b6, .ref b7, .ref b8, .ref b9, .ref b10, .ref b11, .ref b12, .ref b13, .ref b14, .ref b15, .ref b16, .ref b17, .ref b18, .int 0, .int 0, .int 0, .ref b19, .ref b20, .ref b21, .int 0, .ref b22, .ref b23, .int 0, .ref b24, .ref b25]))]) [0] (by decide) rfl
  have hK9 := hK.sub (tys' := []) [] rfl
  exact W.vret hx hb hr (fun t ht hW => ⟨⟨(), rfl, trivial, by rw [ht]; exact hP9, va_K.moved hW.alike hK9, hD9⟩, hS.F ht⟩) hS.2.2 dX9_joins_312

set_option maxHeartbeats 4000000 in
set_option maxRecDepth 100000 in
theorem k_X9_plans (l : Launch) (D : va_G) (sz : Nat) (h0 : Nat) (b1 : Nat) (b2 : Nat) (b3 : Nat) (b4 : Nat) (b5 : Nat) (b6 : Nat) (b7 : Nat) (b8 : Nat) (b9 : Nat) (b10 : Nat) (b11 : Nat) (b12 : Nat) (b13 : Nat) (b14 : Nat) (b15 : Nat) (b16 : Nat) (b17 : Nat) (b18 : Nat) (b19 : Nat) (b20 : Nat) (b21 : Nat) (b22 : Nat) (b23 : Nat) (b24 : Nat) (b25 : Nat) (p0 : Int32) : Met l yX9_plans wsX9_plans ({ frames := 1, cells := 0, slots := 0, locals := 25 }) (va_Pc [.ref h0, .int p0] (wz sz D [] [(h0, .inr (9, [.int 0, .int 0, .int 0, .int 0, .int 50, .int 3, .int 0, .ref b1, .ref b2, .ref b3, .ref b4, .ref b5, .ref b6, .ref b7, .ref b8, .ref b9, .ref b10, .ref b11, .ref b12, .ref b13, .ref b14, .ref b15, .ref b16, .ref b17, .ref b18, .int 0, .int 0, .int 0, .ref b19, .ref b20, .ref b21, .int 0, .ref b22, .ref b23, .int 0, .ref b24, .ref b25]))])) (va_Qv (fun (_ : Unit) => True) (fun _ t => wp D [] (va_A [(h0, .inr (9, [.int 0, .int 0, .int 0, .int 0, .int 50, .int 3, .int 0, .ref b1, .ref b2, .ref b3, .ref b4, .ref b5, .ref b6, .ref b7, .ref b8, .ref b9, .ref b10, .ref b11, .ref b12, .ref b13, .ref b14, .ref b15, .ref b16, .ref b17, .ref b18, .int 0, .int 0, .int 0, .ref b19, .ref b20, .ref b21, .int 0, .ref b22, .ref b23, .int 0, .ref b24, .ref b25]))] sz) [(h0, .inr (9, [.int 0, .int 0, .int 0, .int 0, .int 50, .int 3, .int 0, .ref b1, .ref b2, .ref b3, .ref b4, .ref b5, .ref b6, .ref b7, .ref b8, .ref b9, .ref b10, .ref b11, .ref b12, .ref b13, .ref b14, .ref b15, .ref b16, .ref b17, .ref b18, .int 0, .int 0, .int 0, .ref b19, .ref b20, .ref b21, .int 0, .ref b22, .ref b23, .int 0, .ref b24, .ref b25]))] t) (va_A [(h0, .inr (9, [.int 0, .int 0, .int 0, .int 0, .int 50, .int 3, .int 0, .ref b1, .ref b2, .ref b3, .ref b4, .ref b5, .ref b6, .ref b7, .ref b8, .ref b9, .ref b10, .ref b11, .ref b12, .ref b13, .ref b14, .ref b15, .ref b16, .ref b17, .ref b18, .int 0, .int 0, .int 0, .ref b19, .ref b20, .ref b21, .int 0, .ref b22, .ref b23, .int 0, .ref b24, .ref b25]))] sz)) 0 0 (va_A [(h0, .inr (9, [.int 0, .int 0, .int 0, .int 0, .int 50, .int 3, .int 0, .ref b1, .ref b2, .ref b3, .ref b4, .ref b5, .ref b6, .ref b7, .ref b8, .ref b9, .ref b10, .ref b11, .ref b12, .ref b13, .ref b14, .ref b15, .ref b16, .ref b17, .ref b18, .int 0, .int 0, .int 0, .ref b19, .ref b20, .ref b21, .int 0, .ref b22, .ref b23, .int 0, .ref b24, .ref b25]))] sz) := by
  refine Met.ofW (cc := cX9_plans) (maxL := 10) (ret := none) (by decide) rfl ?_
  intro p e s m args below meth c s₁ B hml hv
  obtain ⟨rfl, hsz, hP, hK, hD0, hN⟩ := hv
  have hx := B.exec
  have hb := B.bytes
  have hr := B.returns
  have hts := atoms_spec (ws := wsX9_plans) B.pre
  have hown : s.vm.findClass RX9 = some m.cls := findClass_of_methodNamed B.named
  have hlocks := B.notSynchronized
  subst hsz
  have hD := hD0.self (sz := s.heap.size)
  generalize hAe : va_A [(h0, .inr (9, [.int 0, .int 0, .int 0, .int 0, .int 50, .int 3, .int 0, .ref b1, .ref b2, .ref b3, .ref b4, .ref b5, .ref b6, .ref b7, .ref b8, .ref b9, .ref b10, .ref b11, .ref b12, .ref b13, .ref b14, .ref b15, .ref b16, .ref b17, .ref b18, .int 0, .int 0, .int 0, .ref b19, .ref b20, .ref b21, .int 0, .ref b22, .ref b23, .int 0, .ref b24, .ref b25]))] s.heap.size = A at hD ⊢
  have hA : ∀ q : Nat, s.heap.size ≤ q → A q := fun q h => by rw [← hAe]; exact Or.inr h
  have hS : va_S A s.heap s.heap [] := va_S.rf
  have hin_X9 : ∀ w ∈ u_ws RX9 TX9 37, w ∈ wsX9_plans := by decide +kernel
  have hl := lv_entry ([.ref h0, .int p0]) (n := 10) (Nat.le_of_ble_eq_true rfl)
  rw [lg_entry_eq]
  generalize (lg_sl ([.ref h0, .int p0]) ++ List.replicate (10 - (lg_sl ([.ref h0, .int p0])).length) Slot.unset).toArray = ls at hl ⊢
  have hl : lv_has ls 10 [(0, .ref h0), (1, .int p0)] := hl
  refine lv_aload_n hx hb dX9_plans_0 rfl (lv_at hl 0 rfl) ?_
  refine va_callv (zwV (As := []) (rest := []) (wc := [(h0, .inr (9, [.int 0, .int 0, .int 0, .int 0, .int 50, .int 3, .int 0, .ref b1, .ref b2, .ref b3, .ref b4, .ref b5, .ref b6, .ref b7, .ref b8, .ref b9, .ref b10, .ref b11, .ref b12, .ref b13, .ref b14, .ref b15, .ref b16, .ref b17, .ref b18, .int 0, .int 0, .int 0, .ref b19, .ref b20, .ref b21, .int 0, .ref b22, .ref b23, .int 0, .ref b24, .ref b25]))]) ⟨hx, hb, hml, hown, hts⟩ hN hK hP hD (k_X9_joins l D s.heap.size h0 b1 b2 b3 b4 b5 b6 b7 b8 b9 b10 b11 b12 b13 b14 b15 b16 b17 b18 b19 b20 b21 b22 b23 b24 b25 ) (cwV 0 hts gX9_plans_X9_joins rfl rfl rfl (by decide +kernel) ⟨(Nat.le_of_ble_eq_true rfl), (Nat.le_of_ble_eq_true rfl)⟩) [] [0] rfl rfl (by decide) 9 0 rfl rfl rfl hl.1 rfl (Nat.le_of_ble_eq_true rfl) dX9_plans_1 ⟨(Nat.le_of_ble_eq_true rfl), (Nat.le_of_ble_eq_true rfl)⟩) hS (fun q _ h => va_free (wc := [(h0, .inr (9, [.int 0, .int 0, .int 0, .int 0, .int 50, .int 3, .int 0, .ref b1, .ref b2, .ref b3, .ref b4, .ref b5, .ref b6, .ref b7, .ref b8, .ref b9, .ref b10, .ref b11, .ref b12, .ref b13, .ref b14, .ref b15, .ref b16, .ref b17, .ref b18, .int 0, .int 0, .int 0, .ref b19, .ref b20, .ref b21, .int 0, .ref b22, .ref b23, .int 0, .ref b24, .ref b25]))]) hD hS hA [0] rfl q h) (va_free (wc := [(h0, .inr (9, [.int 0, .int 0, .int 0, .int 0, .int 50, .int 3, .int 0, .ref b1, .ref b2, .ref b3, .ref b4, .ref b5, .ref b6, .ref b7, .ref b8, .ref b9, .ref b10, .ref b11, .ref b12, .ref b13, .ref b14, .ref b15, .ref b16, .ref b17, .ref b18, .int 0, .int 0, .int 0, .ref b19, .ref b20, .ref b21, .int 0, .ref b22, .ref b23, .int 0, .ref b24, .ref b25]))]) hD hS hA [0] rfl) (fun u t H_1 locs1 ht hvm hw hB hz1 hk1 hS1 => ?_)
  obtain ⟨hP, hD, hK⟩ := zj (wc := [(h0, .inr (9, [.int 0, .int 0, .int 0, .int 0, .int 50, .int 3, .int 0, .ref b1, .ref b2, .ref b3, .ref b4, .ref b5, .ref b6, .ref b7, .ref b8, .ref b9, .ref b10, .ref b11, .ref b12, .ref b13, .ref b14, .ref b15, .ref b16, .ref b17, .ref b18, .int 0, .int 0, .int 0, .ref b19, .ref b20, .ref b21, .int 0, .ref b22, .ref b23, .int 0, .ref b24, .ref b25]))]) (wr := []) (w1 := [(h0, .inr (9, [.int 0, .int 0, .int 0, .int 0, .int 50, .int 3, .int 0, .ref b1, .ref b2, .ref b3, .ref b4, .ref b5, .ref b6, .ref b7, .ref b8, .ref b9, .ref b10, .ref b11, .ref b12, .ref b13, .ref b14, .ref b15, .ref b16, .ref b17, .ref b18, .int 0, .int 0, .int 0, .ref b19, .ref b20, .ref b21, .int 0, .ref b22, .ref b23, .int 0, .ref b24, .ref b25]))]) hK hP hD hS hA [0] [] rfl rfl (by decide) (by decide) hk1 ht hvm hB
  have hS := hS1
  have hP : va_P D vwCl [(h0, .inr (9, [.int 0, .int 0, .int 0, .int 0, .int 50, .int 3, .int 0, .ref b1, .ref b2, .ref b3, .ref b4, .ref b5, .ref b6, .ref b7, .ref b8, .ref b9, .ref b10, .ref b11, .ref b12, .ref b13, .ref b14, .ref b15, .ref b16, .ref b17, .ref b18, .int 0, .int 0, .int 0, .ref b19, .ref b20, .ref b21, .int 0, .ref b22, .ref b23, .int 0, .ref b24, .ref b25]))] H_1 := hP
  have hD : va_D A [(h0, .inr (9, [.int 0, .int 0, .int 0, .int 0, .int 50, .int 3, .int 0, .ref b1, .ref b2, .ref b3, .ref b4, .ref b5, .ref b6, .ref b7, .ref b8, .ref b9, .ref b10, .ref b11, .ref b12, .ref b13, .ref b14, .ref b15, .ref b16, .ref b17, .ref b18, .int 0, .int 0, .int 0, .ref b19, .ref b20, .ref b21, .int 0, .ref b22, .ref b23, .int 0, .ref b24, .ref b25]))] := hD
  have hK : va_K D vwCl [] s := hK
  refine lv_aload_n hx hb dX9_plans_4 rfl (lv_at hl 0 rfl) ?_
  refine lv_iconst (v := 0) hx hb dX9_plans_5 (by decide) ?_
  refine va_put (D := D) (ci := 9) (v := .int 0) (ty := .int) (C := RX9) (T := TX9) (N := 37) hx hb hts hin_X9 tyX9 tyX9_ok nmX9 hown hK hP hD hS 0 rfl rfl 34 (by decide) (hts (.fieldLink RX9 183 "CryOrderModel" "takenMany" "I") (by decide +kernel)) (fun _ h9 => h9) rfl (by decide +kernel) rfl rfl (Nat.le_of_ble_eq_true rfl) dX9_plans_6 (fun H_2 locs hP hD hS => ?_)
  have hP : va_P D vwCl [(h0, .inr (9, [.int 0, .int 0, .int 0, .int 0, .int 50, .int 3, .int 0, .ref b1, .ref b2, .ref b3, .ref b4, .ref b5, .ref b6, .ref b7, .ref b8, .ref b9, .ref b10, .ref b11, .ref b12, .ref b13, .ref b14, .ref b15, .ref b16, .ref b17, .ref b18, .int 0, .int 0, .int 0, .ref b19, .ref b20, .ref b21, .int 0, .ref b22, .ref b23, .int 0, .ref b24, .ref b25]))] H_2 := hP
  have hD : va_D A [(h0, .inr (9, [.int 0, .int 0, .int 0, .int 0, .int 50, .int 3, .int 0, .ref b1, .ref b2, .ref b3, .ref b4, .ref b5, .ref b6, .ref b7, .ref b8, .ref b9, .ref b10, .ref b11, .ref b12, .ref b13, .ref b14, .ref b15, .ref b16, .ref b17, .ref b18, .int 0, .int 0, .int 0, .ref b19, .ref b20, .ref b21, .int 0, .ref b22, .ref b23, .int 0, .ref b24, .ref b25]))] := hD
  refine lv_iload_n hx hb dX9_plans_9 rfl (lv_at hl 1 rfl) ?_
  refine lv_istore_n (lv' := [(2, .int p0), (0, .ref h0), (1, .int p0)]) hx hb dX9_plans_10 rfl hl (by decide) rfl (fun ls hl => ?_)
  refine lv_iconst (v := 0) hx hb dX9_plans_11 (by decide) ?_
  refine lv_istore_n (lv' := [(3, .int 0), (2, .int p0), (0, .ref h0), (1, .int p0)]) hx hb dX9_plans_12 rfl hl (by decide) rfl (fun ls hl => ?_)
  refine lv_iload_n hx hb dX9_plans_13 rfl (lv_at hl 0 rfl) ?_
  refine lv_aload_n hx hb dX9_plans_14 rfl (lv_at hl 2 rfl) ?_
  refine va_get (D := D) (ci := 9) (v := .int 0) (C := RX9) (T := TX9) (N := 37) hx hb hts hin_X9 hown hK hP 0 rfl rfl 31 (by decide) (hts (.fieldLink RX9 165 "CryOrderModel" "cases" "I") (by decide +kernel)) (fun _ h9 => h9) rfl dX9_plans_15 ?_
  refine lv_icmp_ge (tgt := 106) hx hb dX9_plans_18 (by decide) (fun _ => ?_) (fun c_ => absurd c_ (by decide))
  refine lv_iconst (v := 0) hx hb dX9_plans_106 (by decide) ?_
  refine lv_istore_n (lv' := [(3, .int 0), (2, .int p0), (0, .ref h0), (1, .int p0)]) hx hb dX9_plans_107 rfl hl (by decide) rfl (fun ls hl => ?_)
  refine lv_iconst (v := 0) hx hb dX9_plans_108 (by decide) ?_
  refine lv_istore (lv' := [(4, .int 0), (3, .int 0), (2, .int p0), (0, .ref h0), (1, .int p0)]) hx hb dX9_plans_109 hl (by decide) rfl (fun ls hl => ?_)
  refine lv_iload hx hb dX9_plans_111 (lv_at hl 0 rfl) ?_
  refine lv_aload_n hx hb dX9_plans_113 rfl (lv_at hl 3 rfl) ?_
  refine va_get (D := D) (ci := 9) (v := .int 0) (C := RX9) (T := TX9) (N := 37) hx hb hts hin_X9 hown hK hP 0 rfl rfl 31 (by decide) (hts (.fieldLink RX9 165 "CryOrderModel" "cases" "I") (by decide +kernel)) (fun _ h9 => h9) rfl dX9_plans_114 ?_
  refine lv_icmp_ge (tgt := 199) hx hb dX9_plans_117 (by decide) (fun _ => ?_) (fun c_ => absurd c_ (by decide))
  refine lv_iconst (v := 0) hx hb dX9_plans_199 (by decide) ?_
  refine lv_istore (lv' := [(4, .int 0), (3, .int 0), (2, .int p0), (0, .ref h0), (1, .int p0)]) hx hb dX9_plans_200 hl (by decide) rfl (fun ls hl => ?_)
  refine lv_iconst (v := 0) hx hb dX9_plans_202 (by decide) ?_
  refine lv_istore (lv' := [(5, .int 0), (4, .int 0), (3, .int 0), (2, .int p0), (0, .ref h0), (1, .int p0)]) hx hb dX9_plans_203 hl (by decide) rfl (fun ls hl => ?_)
  refine lv_iconst (v := 1) hx hb dX9_plans_205 (by decide) ?_
  refine lv_istore (lv' := [(6, .int 1), (5, .int 0), (4, .int 0), (3, .int 0), (2, .int p0), (0, .ref h0), (1, .int p0)]) hx hb dX9_plans_206 hl (by decide) rfl (fun ls hl => ?_)
  refine lv_iload hx hb dX9_plans_208 (lv_at hl 0 rfl) ?_
  refine lv_iconst (v := 1) hx hb dX9_plans_210 (by decide) ?_
  refine lv_iload_n hx hb dX9_plans_211 rfl (lv_at hl 3 rfl) ?_
  refine lv_ishl hx hb dX9_plans_212 ?_
  refine lv_tope (z := 1) (by decide) ?_
  refine lv_icmp_ge (tgt := 304) hx hb dX9_plans_213 (by decide) (fun _ => ?_) (fun c_ => absurd c_ (by decide))
  refine lv_iconst (v := 0) hx hb dX9_plans_304 (by decide) ?_
  refine lv_istore (lv' := [(6, .int 0), (5, .int 0), (4, .int 0), (3, .int 0), (2, .int p0), (0, .ref h0), (1, .int p0)]) hx hb dX9_plans_305 hl (by decide) rfl (fun ls hl => ?_)
  refine lv_iload hx hb dX9_plans_307 (lv_at hl 0 rfl) ?_
  refine lv_iload_n hx hb dX9_plans_309 rfl (lv_at hl 3 rfl) ?_
  refine lv_icmp_ge (tgt := 358) hx hb dX9_plans_310 (by decide) (fun _ => ?_) (fun c_ => absurd c_ (by decide))
  refine W.widen (k := 0) (n := 0) (Nat.le_of_ble_eq_true rfl) (Nat.le_of_ble_eq_true rfl) ?_
  have hP9 := hP.sub (ws' := [(h0, .inr (9, [.int 0, .int 0, .int 0, .int 0, .int 50, .int 3, .int 0, .ref b1, .ref b2, .ref b3, .ref b4, .ref b5, .ref b6, .ref b7, .ref b8, .ref b9, .ref b10, .ref b11, .ref b12, .ref b13, .ref b14, .ref b15, .ref b16, .ref b17, .ref b18, .int 0, .int 0, .int 0, .ref b19, .ref b20, .ref b21, .int 0, .ref b22, .ref b23, .int 0, .ref b24, .ref b25]))]) [0] rfl
  have hD9 := hD.sub (ws' := [(h0, .inr (9, [.int 0, .int 0, .int 0, .int 0, .int 50, .int 3, .int 0, .ref b1, .ref b2, .ref b3, .ref b4, .ref b5, .ref b6, .ref b7, .ref b8, .ref b9, .ref b10, .ref b11, .ref b12, .ref b13, .ref b14, .ref b15, .ref b16, .ref b17, .ref b18, .int 0, .int 0, .int 0, .ref b19, .ref b20, .ref b21, .int 0, .ref b22, .ref b23, .int 0, .ref b24, .ref b25]))]) [0] (by decide) rfl
  have hK9 := hK.sub (tys' := []) [] rfl
  exact W.vret hx hb hr (fun t ht hW => ⟨⟨(), rfl, trivial, by rw [ht]; exact hP9, va_K.moved hW.alike hK9, hD9⟩, hS.F ht⟩) hS.2.2 dX9_plans_358

set_option maxHeartbeats 4000000 in
set_option maxRecDepth 100000 in
theorem k_X9_pass (l : Launch) (D : va_G) (sz : Nat) (h0 : Nat) (b1 : Nat) (b2 : Nat) (b3 : Nat) (b4 : Nat) (b5 : Nat) (b6 : Nat) (b7 : Nat) (b8 : Nat) (b9 : Nat) (b10 : Nat) (b11 : Nat) (b12 : Nat) (b13 : Nat) (b14 : Nat) (b15 : Nat) (b16 : Nat) (b17 : Nat) (b18 : Nat) (b19 : Nat) (b20 : Nat) (b21 : Nat) (b22 : Nat) (b23 : Nat) (b24 : Nat) (b25 : Nat) (p0 : Int32) : Met l yX9_pass wsX9_pass ({ frames := 1, cells := 0, slots := 0, locals := 22 }) (va_Pc [.ref h0, .int p0] (wz sz D [] [(h0, .inr (9, [.int 0, .int 0, .int 0, .int 0, .int 50, .int 3, .int 0, .ref b1, .ref b2, .ref b3, .ref b4, .ref b5, .ref b6, .ref b7, .ref b8, .ref b9, .ref b10, .ref b11, .ref b12, .ref b13, .ref b14, .ref b15, .ref b16, .ref b17, .ref b18, .int 0, .int 0, .int 0, .ref b19, .ref b20, .ref b21, .int 0, .ref b22, .ref b23, .int 0, .ref b24, .ref b25]))])) (va_Qi (fun (r : Int32) (_ : Unit) => r = F_pass p0) (fun _ t => wp D [] (va_A [(h0, .inr (9, [.int 0, .int 0, .int 0, .int 0, .int 50, .int 3, .int 0, .ref b1, .ref b2, .ref b3, .ref b4, .ref b5, .ref b6, .ref b7, .ref b8, .ref b9, .ref b10, .ref b11, .ref b12, .ref b13, .ref b14, .ref b15, .ref b16, .ref b17, .ref b18, .int 0, .int 0, .int 0, .ref b19, .ref b20, .ref b21, .int 0, .ref b22, .ref b23, .int 0, .ref b24, .ref b25]))] sz) [] t) (va_A [(h0, .inr (9, [.int 0, .int 0, .int 0, .int 0, .int 50, .int 3, .int 0, .ref b1, .ref b2, .ref b3, .ref b4, .ref b5, .ref b6, .ref b7, .ref b8, .ref b9, .ref b10, .ref b11, .ref b12, .ref b13, .ref b14, .ref b15, .ref b16, .ref b17, .ref b18, .int 0, .int 0, .int 0, .ref b19, .ref b20, .ref b21, .int 0, .ref b22, .ref b23, .int 0, .ref b24, .ref b25]))] sz)) 0 0 (va_A [(h0, .inr (9, [.int 0, .int 0, .int 0, .int 0, .int 50, .int 3, .int 0, .ref b1, .ref b2, .ref b3, .ref b4, .ref b5, .ref b6, .ref b7, .ref b8, .ref b9, .ref b10, .ref b11, .ref b12, .ref b13, .ref b14, .ref b15, .ref b16, .ref b17, .ref b18, .int 0, .int 0, .int 0, .ref b19, .ref b20, .ref b21, .int 0, .ref b22, .ref b23, .int 0, .ref b24, .ref b25]))] sz) := by
  refine Met.ofW (cc := cX9_pass) (maxL := 2) (ret := (some .int)) (by decide) rfl ?_
  intro p e s m args below meth c s₁ B hml hv
  obtain ⟨rfl, hsz, hP, hK, hD0, hN⟩ := hv
  have hx := B.exec
  have hb := B.bytes
  have hr := B.returns
  have hts := atoms_spec (ws := wsX9_pass) B.pre
  have hown : s.vm.findClass RX9 = some m.cls := findClass_of_methodNamed B.named
  have hlocks := B.notSynchronized
  subst hsz
  have hD := hD0.self (sz := s.heap.size)
  generalize hAe : va_A [(h0, .inr (9, [.int 0, .int 0, .int 0, .int 0, .int 50, .int 3, .int 0, .ref b1, .ref b2, .ref b3, .ref b4, .ref b5, .ref b6, .ref b7, .ref b8, .ref b9, .ref b10, .ref b11, .ref b12, .ref b13, .ref b14, .ref b15, .ref b16, .ref b17, .ref b18, .int 0, .int 0, .int 0, .ref b19, .ref b20, .ref b21, .int 0, .ref b22, .ref b23, .int 0, .ref b24, .ref b25]))] s.heap.size = A at hD ⊢
  have hA : ∀ q : Nat, s.heap.size ≤ q → A q := fun q h => by rw [← hAe]; exact Or.inr h
  have hS : va_S A s.heap s.heap [] := va_S.rf
  have hin_X9 : ∀ w ∈ u_ws RX9 TX9 37, w ∈ wsX9_pass := by decide +kernel
  have hl := lv_entry ([.ref h0, .int p0]) (n := 2) (Nat.le_of_ble_eq_true rfl)
  rw [lg_entry_eq]
  generalize (lg_sl ([.ref h0, .int p0]) ++ List.replicate (2 - (lg_sl ([.ref h0, .int p0])).length) Slot.unset).toArray = ls at hl ⊢
  have hl : lv_has ls 2 [(0, .ref h0), (1, .int p0)] := hl
  refine lv_iload_n hx hb dX9_pass_0 rfl (lv_at hl 1 rfl) ?_
  refine lv_iconst (v := 1) hx hb dX9_pass_1 (by decide) ?_
  refine lv_sipush (v := 1000) hx hb dX9_pass_2 (by decide) ?_
  refine vp_callSi (zrS (As := [.int p0, .int 1, .int 1000]) (rest := []) (wc := []) ⟨hx, hb, hml, hown, hts⟩ hN hK hP hD (k_X9_isIn l D p0 1 1000 ) (va_cwS 3 hts gX9_pass_X9_isIn rfl rfl rfl (by decide +kernel) ⟨(Nat.le_of_ble_eq_true rfl), (Nat.le_of_ble_eq_true rfl)⟩) [] [] rfl rfl (by decide) rfl hl.1 rfl (Nat.le_of_ble_eq_true rfl) dX9_pass_5 ⟨(Nat.le_of_ble_eq_true rfl), (Nat.le_of_ble_eq_true rfl)⟩) (fun r_1 h_2 => ?_)
  rcases h_2 with ⟨h_2, rfl⟩ | ⟨h_2, rfl⟩
  · have h_2 : 1 ≤ (p0).toInt ∧ (p0).toInt ≤ 1000 := h_2
    refine lv_if_eq (tgt := 23) hx hb dX9_pass_8 (by decide) (fun c_ => absurd c_ (by decide)) (fun _ => ?_)
    refine lv_aload_n hx hb dX9_pass_11 rfl (lv_at hl 0 rfl) ?_
    refine va_get (D := D) (ci := 9) (v := .int 0) (C := RX9) (T := TX9) (N := 37) hx hb hts hin_X9 hown hK hP 0 rfl rfl 0 (by decide) (hts (.fieldLink RX9 100 "CryOrderModel" "now" "I") (by decide +kernel)) (fun _ h9 => h9) rfl dX9_pass_12 ?_
    refine lv_iload_n hx hb dX9_pass_15 rfl (lv_at hl 1 rfl) ?_
    refine lv_iadd hx hb dX9_pass_16 ?_
    refine lv_tope (z := p0) (Int32.zero_add _) ?_
    refine lv_sipush (v := 10000) hx hb dX9_pass_17 (by decide) ?_
    refine bi_le (zx := (p0).toInt) (zy := 10000) (tgt := 25) hx hb dX9_pass_20 (by decide) rfl (by decide) (fun c_3 => ?_) (fun c_3 => ?_)
    · refine lv_aload_n hx hb dX9_pass_25 rfl (lv_at hl 0 rfl) ?_
      refine lv_dup hx hb dX9_pass_26 rfl ?_
      refine va_get (D := D) (ci := 9) (v := .int 0) (C := RX9) (T := TX9) (N := 37) hx hb hts hin_X9 hown hK hP 0 rfl rfl 0 (by decide) (hts (.fieldLink RX9 100 "CryOrderModel" "now" "I") (by decide +kernel)) (fun _ h9 => h9) rfl dX9_pass_27 ?_
      refine lv_iload_n hx hb dX9_pass_30 rfl (lv_at hl 1 rfl) ?_
      refine lv_iadd hx hb dX9_pass_31 ?_
      refine lv_tope (z := p0) (Int32.zero_add _) ?_
      refine va_put (D := D) (ci := 9) (v := .int p0) (ty := .int) (C := RX9) (T := TX9) (N := 37) hx hb hts hin_X9 tyX9 tyX9_ok nmX9 hown hK hP hD hS 0 rfl rfl 0 (by decide) (hts (.fieldLink RX9 100 "CryOrderModel" "now" "I") (by decide +kernel)) (fun _ h9 => h9) rfl (by decide +kernel) rfl rfl (Nat.le_of_ble_eq_true rfl) dX9_pass_32 (fun H_4 locs hP hD hS => ?_)
      have hP : va_P D vwCl [(h0, .inr (9, [.int p0, .int 0, .int 0, .int 0, .int 50, .int 3, .int 0, .ref b1, .ref b2, .ref b3, .ref b4, .ref b5, .ref b6, .ref b7, .ref b8, .ref b9, .ref b10, .ref b11, .ref b12, .ref b13, .ref b14, .ref b15, .ref b16, .ref b17, .ref b18, .int 0, .int 0, .int 0, .ref b19, .ref b20, .ref b21, .int 0, .ref b22, .ref b23, .int 0, .ref b24, .ref b25]))] H_4 := hP
      have hD : va_D A [(h0, .inr (9, [.int p0, .int 0, .int 0, .int 0, .int 50, .int 3, .int 0, .ref b1, .ref b2, .ref b3, .ref b4, .ref b5, .ref b6, .ref b7, .ref b8, .ref b9, .ref b10, .ref b11, .ref b12, .ref b13, .ref b14, .ref b15, .ref b16, .ref b17, .ref b18, .int 0, .int 0, .int 0, .ref b19, .ref b20, .ref b21, .int 0, .ref b22, .ref b23, .int 0, .ref b24, .ref b25]))] := hD
      refine lv_aload_n hx hb dX9_pass_35 rfl (lv_at hl 0 rfl) ?_
      refine va_get (D := D) (ci := 9) (v := .int p0) (C := RX9) (T := TX9) (N := 37) hx hb hts hin_X9 hown hK hP 0 rfl rfl 0 (by decide) (hts (.fieldLink RX9 100 "CryOrderModel" "now" "I") (by decide +kernel)) (fun _ h9 => h9) rfl dX9_pass_36 ?_
      refine W.widen (k := 0) (n := 0) (Nat.le_of_ble_eq_true rfl) (Nat.le_of_ble_eq_true rfl) ?_
      have hP9 := hP.sub (ws' := []) [] rfl
      have hD9 := hD.sub (ws' := []) [] (by decide) rfl
      have hK9 := hK.sub (tys' := []) [] rfl
      exact W.iret (v := p0) hx hb hr (fun t ht hW => ⟨⟨p0, (), rfl, (by unfold F_pass; first | exact (if_pos (by omega)).symm | exact (if_neg (by omega)).symm), by rw [ht]; exact hP9, va_K.moved hW.alike hK9, hD9⟩, hS.F ht⟩) hS.2.2 dX9_pass_39
    · refine lv_iconst (v := (-1)) hx hb dX9_pass_23 (by decide) ?_
      refine W.widen (k := 0) (n := 0) (Nat.le_of_ble_eq_true rfl) (Nat.le_of_ble_eq_true rfl) ?_
      have hP9 := hP.sub (ws' := []) [] rfl
      have hD9 := hD.sub (ws' := []) [] (by decide) rfl
      have hK9 := hK.sub (tys' := []) [] rfl
      exact W.iret (v := (-1)) hx hb hr (fun t ht hW => ⟨⟨(-1), (), rfl, (by unfold F_pass; first | exact (if_pos (by omega)).symm | exact (if_neg (by omega)).symm), by rw [ht]; exact hP9, va_K.moved hW.alike hK9, hD9⟩, hS.F ht⟩) hS.2.2 dX9_pass_24
  · have h_2 : (p0).toInt < 1 ∨ 1000 < (p0).toInt := h_2
    refine lv_if_eq (tgt := 23) hx hb dX9_pass_8 (by decide) (fun _ => ?_) (fun c_ => absurd c_ (by decide))
    refine lv_iconst (v := (-1)) hx hb dX9_pass_23 (by decide) ?_
    refine W.widen (k := 0) (n := 0) (Nat.le_of_ble_eq_true rfl) (Nat.le_of_ble_eq_true rfl) ?_
    have hP9 := hP.sub (ws' := []) [] rfl
    have hD9 := hD.sub (ws' := []) [] (by decide) rfl
    have hK9 := hK.sub (tys' := []) [] rfl
    exact W.iret (v := (-1)) hx hb hr (fun t ht hW => ⟨⟨(-1), (), rfl, (by unfold F_pass; first | exact (if_pos (by omega)).symm | exact (if_neg (by omega)).symm), by rw [ht]; exact hP9, va_K.moved hW.alike hK9, hD9⟩, hS.F ht⟩) hS.2.2 dX9_pass_24

set_option maxHeartbeats 4000000 in
set_option maxRecDepth 100000 in
theorem k_X9_set (l : Launch) (D : va_G) (sz : Nat) (h0 : Nat) (b1 : Nat) (b2 : Nat) (b3 : Nat) (b4 : Nat) (b5 : Nat) (b6 : Nat) (b7 : Nat) (b8 : Nat) (b9 : Nat) (b10 : Nat) (b11 : Nat) (b12 : Nat) (b13 : Nat) (b14 : Nat) (b15 : Nat) (b16 : Nat) (b17 : Nat) (b18 : Nat) (b19 : Nat) (b20 : Nat) (b21 : Nat) (b22 : Nat) (b23 : Nat) (b24 : Nat) (b25 : Nat) (p0 : Int32) (p1 : Int32) : Met l yX9_set wsX9_set ({ frames := 1, cells := 0, slots := 0, locals := 22 }) (va_Pc [.ref h0, .int p0, .int p1] (wz sz D [] [(h0, .inr (9, [.int 0, .int 0, .int 0, .int 0, .int 50, .int 3, .int 0, .ref b1, .ref b2, .ref b3, .ref b4, .ref b5, .ref b6, .ref b7, .ref b8, .ref b9, .ref b10, .ref b11, .ref b12, .ref b13, .ref b14, .ref b15, .ref b16, .ref b17, .ref b18, .int 0, .int 0, .int 0, .ref b19, .ref b20, .ref b21, .int 0, .ref b22, .ref b23, .int 0, .ref b24, .ref b25]))])) (va_Qi (fun (r : Int32) (_ : Unit) => r = F_set p0 p1) (fun _ t => wp D [] (va_A [(h0, .inr (9, [.int 0, .int 0, .int 0, .int 0, .int 50, .int 3, .int 0, .ref b1, .ref b2, .ref b3, .ref b4, .ref b5, .ref b6, .ref b7, .ref b8, .ref b9, .ref b10, .ref b11, .ref b12, .ref b13, .ref b14, .ref b15, .ref b16, .ref b17, .ref b18, .int 0, .int 0, .int 0, .ref b19, .ref b20, .ref b21, .int 0, .ref b22, .ref b23, .int 0, .ref b24, .ref b25]))] sz) [] t) (va_A [(h0, .inr (9, [.int 0, .int 0, .int 0, .int 0, .int 50, .int 3, .int 0, .ref b1, .ref b2, .ref b3, .ref b4, .ref b5, .ref b6, .ref b7, .ref b8, .ref b9, .ref b10, .ref b11, .ref b12, .ref b13, .ref b14, .ref b15, .ref b16, .ref b17, .ref b18, .int 0, .int 0, .int 0, .ref b19, .ref b20, .ref b21, .int 0, .ref b22, .ref b23, .int 0, .ref b24, .ref b25]))] sz)) 0 0 (va_A [(h0, .inr (9, [.int 0, .int 0, .int 0, .int 0, .int 50, .int 3, .int 0, .ref b1, .ref b2, .ref b3, .ref b4, .ref b5, .ref b6, .ref b7, .ref b8, .ref b9, .ref b10, .ref b11, .ref b12, .ref b13, .ref b14, .ref b15, .ref b16, .ref b17, .ref b18, .int 0, .int 0, .int 0, .ref b19, .ref b20, .ref b21, .int 0, .ref b22, .ref b23, .int 0, .ref b24, .ref b25]))] sz) := by
  refine Met.ofW (cc := cX9_set) (maxL := 3) (ret := (some .boolean)) (by decide) rfl ?_
  intro p e s m args below meth c s₁ B hml hv
  obtain ⟨rfl, hsz, hP, hK, hD0, hN⟩ := hv
  have hx := B.exec
  have hb := B.bytes
  have hr := B.returns
  have hts := atoms_spec (ws := wsX9_set) B.pre
  have hown : s.vm.findClass RX9 = some m.cls := findClass_of_methodNamed B.named
  have hlocks := B.notSynchronized
  subst hsz
  have hD := hD0.self (sz := s.heap.size)
  generalize hAe : va_A [(h0, .inr (9, [.int 0, .int 0, .int 0, .int 0, .int 50, .int 3, .int 0, .ref b1, .ref b2, .ref b3, .ref b4, .ref b5, .ref b6, .ref b7, .ref b8, .ref b9, .ref b10, .ref b11, .ref b12, .ref b13, .ref b14, .ref b15, .ref b16, .ref b17, .ref b18, .int 0, .int 0, .int 0, .ref b19, .ref b20, .ref b21, .int 0, .ref b22, .ref b23, .int 0, .ref b24, .ref b25]))] s.heap.size = A at hD ⊢
  have hA : ∀ q : Nat, s.heap.size ≤ q → A q := fun q h => by rw [← hAe]; exact Or.inr h
  have hS : va_S A s.heap s.heap [] := va_S.rf
  have hin_X9 : ∀ w ∈ u_ws RX9 TX9 37, w ∈ wsX9_set := by decide +kernel
  have hl := lv_entry ([.ref h0, .int p0, .int p1]) (n := 3) (Nat.le_of_ble_eq_true rfl)
  rw [lg_entry_eq]
  generalize (lg_sl ([.ref h0, .int p0, .int p1]) ++ List.replicate (3 - (lg_sl ([.ref h0, .int p0, .int p1])).length) Slot.unset).toArray = ls at hl ⊢
  have hl : lv_has ls 3 [(0, .ref h0), (1, .int p0), (2, .int p1)] := hl
  refine lv_iload_n hx hb dX9_set_0 rfl (lv_at hl 1 rfl) ?_
  refine lv_iconst (v := 0) hx hb dX9_set_1 (by decide) ?_
  refine lv_iconst (v := 2) hx hb dX9_set_2 (by decide) ?_
  refine vp_callSi (zrS (As := [.int p0, .int 0, .int 2]) (rest := []) (wc := []) ⟨hx, hb, hml, hown, hts⟩ hN hK hP hD (k_X9_isIn l D p0 0 2 ) (va_cwS 3 hts gX9_set_X9_isIn rfl rfl rfl (by decide +kernel) ⟨(Nat.le_of_ble_eq_true rfl), (Nat.le_of_ble_eq_true rfl)⟩) [] [] rfl rfl (by decide) rfl hl.1 rfl (Nat.le_of_ble_eq_true rfl) dX9_set_3 ⟨(Nat.le_of_ble_eq_true rfl), (Nat.le_of_ble_eq_true rfl)⟩) (fun r_1 h_2 => ?_)
  rcases h_2 with ⟨h_2, rfl⟩ | ⟨h_2, rfl⟩
  · have h_2 : 0 ≤ (p0).toInt ∧ (p0).toInt ≤ 2 := h_2
    refine lv_if_eq (tgt := 46) hx hb dX9_set_6 (by decide) (fun c_ => absurd c_ (by decide)) (fun _ => ?_)
    refine lv_iload_n hx hb dX9_set_9 rfl (lv_at hl 2 rfl) ?_
    refine lv_iload_n hx hb dX9_set_10 rfl (lv_at hl 1 rfl) ?_
    refine lv_iconst (v := 2) hx hb dX9_set_11 (by decide) ?_
    refine bi_ne (zx := (p0).toInt) (zy := 2) (tgt := 19) hx hb dX9_set_12 (by decide) rfl (by decide) (fun c_3 => ?_) (fun c_3 => ?_)
    · refine lv_iconst (v := 1) hx hb dX9_set_19 (by decide) ?_
      refine lv_iload_n hx hb dX9_set_20 rfl (lv_at hl 1 rfl) ?_
      refine bz_ne (zx := (p0).toInt) (tgt := 29) hx hb dX9_set_21 (by decide) rfl (fun c_4 => ?_) (fun c_4 => ?_)
      · refine lv_iload_n hx hb dX9_set_29 rfl (lv_at hl 1 rfl) ?_
        refine lv_iconst (v := 1) hx hb dX9_set_30 (by decide) ?_
        refine bi_ne (zx := (p0).toInt) (zy := 1) (tgt := 39) hx hb dX9_set_31 (by decide) rfl (by decide) (fun c_5 => ?_) (fun c_5 => ?_)
        · refine lv_iconst (v := 5) hx hb dX9_set_39 (by decide) ?_
          refine vp_callSi (zrS (As := [.int p1, .int 1, .int 5]) (rest := []) (wc := []) ⟨hx, hb, hml, hown, hts⟩ hN hK hP hD (k_X9_isIn l D p1 1 5 ) (va_cwS 3 hts gX9_set_X9_isIn rfl rfl rfl (by decide +kernel) ⟨(Nat.le_of_ble_eq_true rfl), (Nat.le_of_ble_eq_true rfl)⟩) [] [] rfl rfl (by decide) rfl hl.1 rfl (Nat.le_of_ble_eq_true rfl) dX9_set_40 ⟨(Nat.le_of_ble_eq_true rfl), (Nat.le_of_ble_eq_true rfl)⟩) (fun r_6 h_7 => ?_)
          rcases h_7 with ⟨h_7, rfl⟩ | ⟨h_7, rfl⟩
          · have h_7 : 1 ≤ (p1).toInt ∧ (p1).toInt ≤ 5 := h_7
            refine lv_if_ne (tgt := 48) hx hb dX9_set_43 (by decide) (fun _ => ?_) (fun c_ => absurd c_ (by decide))
            refine lv_iload_n hx hb dX9_set_48 rfl (lv_at hl 1 rfl) ?_
            refine bz_ne (zx := (p0).toInt) (tgt := 60) hx hb dX9_set_49 (by decide) rfl (fun c_8 => ?_) (fun c_8 => ?_)
            · refine lv_iload_n hx hb dX9_set_60 rfl (lv_at hl 1 rfl) ?_
              refine lv_iconst (v := 1) hx hb dX9_set_61 (by decide) ?_
              refine bi_ne (zx := (p0).toInt) (zy := 1) (tgt := 73) hx hb dX9_set_62 (by decide) rfl (by decide) (fun c_9 => ?_) (fun c_9 => ?_)
              · refine lv_aload_n hx hb dX9_set_73 rfl (lv_at hl 0 rfl) ?_
                refine lv_iload_n hx hb dX9_set_74 rfl (lv_at hl 2 rfl) ?_
                refine va_put (D := D) (ci := 9) (v := .int p1) (ty := .int) (C := RX9) (T := TX9) (N := 37) hx hb hts hin_X9 tyX9 tyX9_ok nmX9 hown hK hP hD hS 0 rfl rfl 6 (by decide) (hts (.fieldLink RX9 114 "CryOrderModel" "tries" "I") (by decide +kernel)) (fun _ h9 => h9) rfl (by decide +kernel) rfl rfl (Nat.le_of_ble_eq_true rfl) dX9_set_75 (fun H_10 locs hP hD hS => ?_)
                have hP : va_P D vwCl [(h0, .inr (9, [.int 0, .int 0, .int 0, .int 0, .int 50, .int 3, .int p1, .ref b1, .ref b2, .ref b3, .ref b4, .ref b5, .ref b6, .ref b7, .ref b8, .ref b9, .ref b10, .ref b11, .ref b12, .ref b13, .ref b14, .ref b15, .ref b16, .ref b17, .ref b18, .int 0, .int 0, .int 0, .ref b19, .ref b20, .ref b21, .int 0, .ref b22, .ref b23, .int 0, .ref b24, .ref b25]))] H_10 := hP
                have hD : va_D A [(h0, .inr (9, [.int 0, .int 0, .int 0, .int 0, .int 50, .int 3, .int p1, .ref b1, .ref b2, .ref b3, .ref b4, .ref b5, .ref b6, .ref b7, .ref b8, .ref b9, .ref b10, .ref b11, .ref b12, .ref b13, .ref b14, .ref b15, .ref b16, .ref b17, .ref b18, .int 0, .int 0, .int 0, .ref b19, .ref b20, .ref b21, .int 0, .ref b22, .ref b23, .int 0, .ref b24, .ref b25]))] := hD
                refine lv_iconst (v := 1) hx hb dX9_set_78 (by decide) ?_
                refine W.widen (k := 0) (n := 0) (Nat.le_of_ble_eq_true rfl) (Nat.le_of_ble_eq_true rfl) ?_
                have hP9 := hP.sub (ws' := []) [] rfl
                have hD9 := hD.sub (ws' := []) [] (by decide) rfl
                have hK9 := hK.sub (tys' := []) [] rfl
                exact W.zret (v := 1) hx hb hr rfl (fun t ht hW => ⟨⟨1, (), rfl, (by unfold F_set; first | exact (if_pos (by omega)).symm | exact (if_neg (by omega)).symm), by rw [ht]; exact hP9, va_K.moved hW.alike hK9, hD9⟩, hS.F ht⟩) hS.2.2 dX9_set_79
              · refine lv_aload_n hx hb dX9_set_65 rfl (lv_at hl 0 rfl) ?_
                refine lv_iload_n hx hb dX9_set_66 rfl (lv_at hl 2 rfl) ?_
                refine va_put (D := D) (ci := 9) (v := .int p1) (ty := .int) (C := RX9) (T := TX9) (N := 37) hx hb hts hin_X9 tyX9 tyX9_ok nmX9 hown hK hP hD hS 0 rfl rfl 5 (by decide) (hts (.fieldLink RX9 13 "CryOrderModel" "needs" "I") (by decide +kernel)) (fun _ h9 => h9) rfl (by decide +kernel) rfl rfl (Nat.le_of_ble_eq_true rfl) dX9_set_67 (fun H_11 locs hP hD hS => ?_)
                have hP : va_P D vwCl [(h0, .inr (9, [.int 0, .int 0, .int 0, .int 0, .int 50, .int p1, .int 0, .ref b1, .ref b2, .ref b3, .ref b4, .ref b5, .ref b6, .ref b7, .ref b8, .ref b9, .ref b10, .ref b11, .ref b12, .ref b13, .ref b14, .ref b15, .ref b16, .ref b17, .ref b18, .int 0, .int 0, .int 0, .ref b19, .ref b20, .ref b21, .int 0, .ref b22, .ref b23, .int 0, .ref b24, .ref b25]))] H_11 := hP
                have hD : va_D A [(h0, .inr (9, [.int 0, .int 0, .int 0, .int 0, .int 50, .int p1, .int 0, .ref b1, .ref b2, .ref b3, .ref b4, .ref b5, .ref b6, .ref b7, .ref b8, .ref b9, .ref b10, .ref b11, .ref b12, .ref b13, .ref b14, .ref b15, .ref b16, .ref b17, .ref b18, .int 0, .int 0, .int 0, .ref b19, .ref b20, .ref b21, .int 0, .ref b22, .ref b23, .int 0, .ref b24, .ref b25]))] := hD
                refine lv_goto (tgt := 78) hx hb dX9_set_70 (by decide) ?_
                refine lv_iconst (v := 1) hx hb dX9_set_78 (by decide) ?_
                refine W.widen (k := 0) (n := 0) (Nat.le_of_ble_eq_true rfl) (Nat.le_of_ble_eq_true rfl) ?_
                have hP9 := hP.sub (ws' := []) [] rfl
                have hD9 := hD.sub (ws' := []) [] (by decide) rfl
                have hK9 := hK.sub (tys' := []) [] rfl
                exact W.zret (v := 1) hx hb hr rfl (fun t ht hW => ⟨⟨1, (), rfl, (by unfold F_set; first | exact (if_pos (by omega)).symm | exact (if_neg (by omega)).symm), by rw [ht]; exact hP9, va_K.moved hW.alike hK9, hD9⟩, hS.F ht⟩) hS.2.2 dX9_set_79
            · refine lv_aload_n hx hb dX9_set_52 rfl (lv_at hl 0 rfl) ?_
              refine lv_iload_n hx hb dX9_set_53 rfl (lv_at hl 2 rfl) ?_
              refine va_put (D := D) (ci := 9) (v := .int p1) (ty := .int) (C := RX9) (T := TX9) (N := 37) hx hb hts hin_X9 tyX9 tyX9_ok nmX9 hown hK hP hD hS 0 rfl rfl 4 (by decide) (hts (.fieldLink RX9 7 "CryOrderModel" "cap" "I") (by decide +kernel)) (fun _ h9 => h9) rfl (by decide +kernel) rfl rfl (Nat.le_of_ble_eq_true rfl) dX9_set_54 (fun H_12 locs hP hD hS => ?_)
              have hP : va_P D vwCl [(h0, .inr (9, [.int 0, .int 0, .int 0, .int 0, .int p1, .int 3, .int 0, .ref b1, .ref b2, .ref b3, .ref b4, .ref b5, .ref b6, .ref b7, .ref b8, .ref b9, .ref b10, .ref b11, .ref b12, .ref b13, .ref b14, .ref b15, .ref b16, .ref b17, .ref b18, .int 0, .int 0, .int 0, .ref b19, .ref b20, .ref b21, .int 0, .ref b22, .ref b23, .int 0, .ref b24, .ref b25]))] H_12 := hP
              have hD : va_D A [(h0, .inr (9, [.int 0, .int 0, .int 0, .int 0, .int p1, .int 3, .int 0, .ref b1, .ref b2, .ref b3, .ref b4, .ref b5, .ref b6, .ref b7, .ref b8, .ref b9, .ref b10, .ref b11, .ref b12, .ref b13, .ref b14, .ref b15, .ref b16, .ref b17, .ref b18, .int 0, .int 0, .int 0, .ref b19, .ref b20, .ref b21, .int 0, .ref b22, .ref b23, .int 0, .ref b24, .ref b25]))] := hD
              refine lv_goto (tgt := 78) hx hb dX9_set_57 (by decide) ?_
              refine lv_iconst (v := 1) hx hb dX9_set_78 (by decide) ?_
              refine W.widen (k := 0) (n := 0) (Nat.le_of_ble_eq_true rfl) (Nat.le_of_ble_eq_true rfl) ?_
              have hP9 := hP.sub (ws' := []) [] rfl
              have hD9 := hD.sub (ws' := []) [] (by decide) rfl
              have hK9 := hK.sub (tys' := []) [] rfl
              exact W.zret (v := 1) hx hb hr rfl (fun t ht hW => ⟨⟨1, (), rfl, (by unfold F_set; first | exact (if_pos (by omega)).symm | exact (if_neg (by omega)).symm), by rw [ht]; exact hP9, va_K.moved hW.alike hK9, hD9⟩, hS.F ht⟩) hS.2.2 dX9_set_79
          · have h_7 : (p1).toInt < 1 ∨ 5 < (p1).toInt := h_7
            refine lv_if_ne (tgt := 48) hx hb dX9_set_43 (by decide) (fun c_ => absurd c_ (by decide)) (fun _ => ?_)
            refine lv_iconst (v := 0) hx hb dX9_set_46 (by decide) ?_
            refine W.widen (k := 0) (n := 0) (Nat.le_of_ble_eq_true rfl) (Nat.le_of_ble_eq_true rfl) ?_
            have hP9 := hP.sub (ws' := []) [] rfl
            have hD9 := hD.sub (ws' := []) [] (by decide) rfl
            have hK9 := hK.sub (tys' := []) [] rfl
            exact W.zret (v := 0) hx hb hr rfl (fun t ht hW => ⟨⟨0, (), rfl, (by unfold F_set; first | exact (if_pos (by omega)).symm | exact (if_neg (by omega)).symm), by rw [ht]; exact hP9, va_K.moved hW.alike hK9, hD9⟩, hS.F ht⟩) hS.2.2 dX9_set_47
        · refine lv_bipush (v := 20) hx hb dX9_set_34 (by decide) ?_
          refine lv_goto (tgt := 40) hx hb dX9_set_36 (by decide) ?_
          refine vp_callSi (zrS (As := [.int p1, .int 1, .int 20]) (rest := []) (wc := []) ⟨hx, hb, hml, hown, hts⟩ hN hK hP hD (k_X9_isIn l D p1 1 20 ) (va_cwS 3 hts gX9_set_X9_isIn rfl rfl rfl (by decide +kernel) ⟨(Nat.le_of_ble_eq_true rfl), (Nat.le_of_ble_eq_true rfl)⟩) [] [] rfl rfl (by decide) rfl hl.1 rfl (Nat.le_of_ble_eq_true rfl) dX9_set_40 ⟨(Nat.le_of_ble_eq_true rfl), (Nat.le_of_ble_eq_true rfl)⟩) (fun r_13 h_14 => ?_)
          rcases h_14 with ⟨h_14, rfl⟩ | ⟨h_14, rfl⟩
          · have h_14 : 1 ≤ (p1).toInt ∧ (p1).toInt ≤ 20 := h_14
            refine lv_if_ne (tgt := 48) hx hb dX9_set_43 (by decide) (fun _ => ?_) (fun c_ => absurd c_ (by decide))
            refine lv_iload_n hx hb dX9_set_48 rfl (lv_at hl 1 rfl) ?_
            refine bz_ne (zx := (p0).toInt) (tgt := 60) hx hb dX9_set_49 (by decide) rfl (fun c_15 => ?_) (fun c_15 => ?_)
            · refine lv_iload_n hx hb dX9_set_60 rfl (lv_at hl 1 rfl) ?_
              refine lv_iconst (v := 1) hx hb dX9_set_61 (by decide) ?_
              refine bi_ne (zx := (p0).toInt) (zy := 1) (tgt := 73) hx hb dX9_set_62 (by decide) rfl (by decide) (fun c_16 => ?_) (fun c_16 => ?_)
              · refine lv_aload_n hx hb dX9_set_73 rfl (lv_at hl 0 rfl) ?_
                refine lv_iload_n hx hb dX9_set_74 rfl (lv_at hl 2 rfl) ?_
                refine va_put (D := D) (ci := 9) (v := .int p1) (ty := .int) (C := RX9) (T := TX9) (N := 37) hx hb hts hin_X9 tyX9 tyX9_ok nmX9 hown hK hP hD hS 0 rfl rfl 6 (by decide) (hts (.fieldLink RX9 114 "CryOrderModel" "tries" "I") (by decide +kernel)) (fun _ h9 => h9) rfl (by decide +kernel) rfl rfl (Nat.le_of_ble_eq_true rfl) dX9_set_75 (fun H_17 locs hP hD hS => ?_)
                have hP : va_P D vwCl [(h0, .inr (9, [.int 0, .int 0, .int 0, .int 0, .int 50, .int 3, .int p1, .ref b1, .ref b2, .ref b3, .ref b4, .ref b5, .ref b6, .ref b7, .ref b8, .ref b9, .ref b10, .ref b11, .ref b12, .ref b13, .ref b14, .ref b15, .ref b16, .ref b17, .ref b18, .int 0, .int 0, .int 0, .ref b19, .ref b20, .ref b21, .int 0, .ref b22, .ref b23, .int 0, .ref b24, .ref b25]))] H_17 := hP
                have hD : va_D A [(h0, .inr (9, [.int 0, .int 0, .int 0, .int 0, .int 50, .int 3, .int p1, .ref b1, .ref b2, .ref b3, .ref b4, .ref b5, .ref b6, .ref b7, .ref b8, .ref b9, .ref b10, .ref b11, .ref b12, .ref b13, .ref b14, .ref b15, .ref b16, .ref b17, .ref b18, .int 0, .int 0, .int 0, .ref b19, .ref b20, .ref b21, .int 0, .ref b22, .ref b23, .int 0, .ref b24, .ref b25]))] := hD
                refine lv_iconst (v := 1) hx hb dX9_set_78 (by decide) ?_
                refine W.widen (k := 0) (n := 0) (Nat.le_of_ble_eq_true rfl) (Nat.le_of_ble_eq_true rfl) ?_
                have hP9 := hP.sub (ws' := []) [] rfl
                have hD9 := hD.sub (ws' := []) [] (by decide) rfl
                have hK9 := hK.sub (tys' := []) [] rfl
                exact W.zret (v := 1) hx hb hr rfl (fun t ht hW => ⟨⟨1, (), rfl, (by unfold F_set; first | exact (if_pos (by omega)).symm | exact (if_neg (by omega)).symm), by rw [ht]; exact hP9, va_K.moved hW.alike hK9, hD9⟩, hS.F ht⟩) hS.2.2 dX9_set_79
              · refine lv_aload_n hx hb dX9_set_65 rfl (lv_at hl 0 rfl) ?_
                refine lv_iload_n hx hb dX9_set_66 rfl (lv_at hl 2 rfl) ?_
                refine va_put (D := D) (ci := 9) (v := .int p1) (ty := .int) (C := RX9) (T := TX9) (N := 37) hx hb hts hin_X9 tyX9 tyX9_ok nmX9 hown hK hP hD hS 0 rfl rfl 5 (by decide) (hts (.fieldLink RX9 13 "CryOrderModel" "needs" "I") (by decide +kernel)) (fun _ h9 => h9) rfl (by decide +kernel) rfl rfl (Nat.le_of_ble_eq_true rfl) dX9_set_67 (fun H_18 locs hP hD hS => ?_)
                have hP : va_P D vwCl [(h0, .inr (9, [.int 0, .int 0, .int 0, .int 0, .int 50, .int p1, .int 0, .ref b1, .ref b2, .ref b3, .ref b4, .ref b5, .ref b6, .ref b7, .ref b8, .ref b9, .ref b10, .ref b11, .ref b12, .ref b13, .ref b14, .ref b15, .ref b16, .ref b17, .ref b18, .int 0, .int 0, .int 0, .ref b19, .ref b20, .ref b21, .int 0, .ref b22, .ref b23, .int 0, .ref b24, .ref b25]))] H_18 := hP
                have hD : va_D A [(h0, .inr (9, [.int 0, .int 0, .int 0, .int 0, .int 50, .int p1, .int 0, .ref b1, .ref b2, .ref b3, .ref b4, .ref b5, .ref b6, .ref b7, .ref b8, .ref b9, .ref b10, .ref b11, .ref b12, .ref b13, .ref b14, .ref b15, .ref b16, .ref b17, .ref b18, .int 0, .int 0, .int 0, .ref b19, .ref b20, .ref b21, .int 0, .ref b22, .ref b23, .int 0, .ref b24, .ref b25]))] := hD
                refine lv_goto (tgt := 78) hx hb dX9_set_70 (by decide) ?_
                refine lv_iconst (v := 1) hx hb dX9_set_78 (by decide) ?_
                refine W.widen (k := 0) (n := 0) (Nat.le_of_ble_eq_true rfl) (Nat.le_of_ble_eq_true rfl) ?_
                have hP9 := hP.sub (ws' := []) [] rfl
                have hD9 := hD.sub (ws' := []) [] (by decide) rfl
                have hK9 := hK.sub (tys' := []) [] rfl
                exact W.zret (v := 1) hx hb hr rfl (fun t ht hW => ⟨⟨1, (), rfl, (by unfold F_set; first | exact (if_pos (by omega)).symm | exact (if_neg (by omega)).symm), by rw [ht]; exact hP9, va_K.moved hW.alike hK9, hD9⟩, hS.F ht⟩) hS.2.2 dX9_set_79
            · refine lv_aload_n hx hb dX9_set_52 rfl (lv_at hl 0 rfl) ?_
              refine lv_iload_n hx hb dX9_set_53 rfl (lv_at hl 2 rfl) ?_
              refine va_put (D := D) (ci := 9) (v := .int p1) (ty := .int) (C := RX9) (T := TX9) (N := 37) hx hb hts hin_X9 tyX9 tyX9_ok nmX9 hown hK hP hD hS 0 rfl rfl 4 (by decide) (hts (.fieldLink RX9 7 "CryOrderModel" "cap" "I") (by decide +kernel)) (fun _ h9 => h9) rfl (by decide +kernel) rfl rfl (Nat.le_of_ble_eq_true rfl) dX9_set_54 (fun H_19 locs hP hD hS => ?_)
              have hP : va_P D vwCl [(h0, .inr (9, [.int 0, .int 0, .int 0, .int 0, .int p1, .int 3, .int 0, .ref b1, .ref b2, .ref b3, .ref b4, .ref b5, .ref b6, .ref b7, .ref b8, .ref b9, .ref b10, .ref b11, .ref b12, .ref b13, .ref b14, .ref b15, .ref b16, .ref b17, .ref b18, .int 0, .int 0, .int 0, .ref b19, .ref b20, .ref b21, .int 0, .ref b22, .ref b23, .int 0, .ref b24, .ref b25]))] H_19 := hP
              have hD : va_D A [(h0, .inr (9, [.int 0, .int 0, .int 0, .int 0, .int p1, .int 3, .int 0, .ref b1, .ref b2, .ref b3, .ref b4, .ref b5, .ref b6, .ref b7, .ref b8, .ref b9, .ref b10, .ref b11, .ref b12, .ref b13, .ref b14, .ref b15, .ref b16, .ref b17, .ref b18, .int 0, .int 0, .int 0, .ref b19, .ref b20, .ref b21, .int 0, .ref b22, .ref b23, .int 0, .ref b24, .ref b25]))] := hD
              refine lv_goto (tgt := 78) hx hb dX9_set_57 (by decide) ?_
              refine lv_iconst (v := 1) hx hb dX9_set_78 (by decide) ?_
              refine W.widen (k := 0) (n := 0) (Nat.le_of_ble_eq_true rfl) (Nat.le_of_ble_eq_true rfl) ?_
              have hP9 := hP.sub (ws' := []) [] rfl
              have hD9 := hD.sub (ws' := []) [] (by decide) rfl
              have hK9 := hK.sub (tys' := []) [] rfl
              exact W.zret (v := 1) hx hb hr rfl (fun t ht hW => ⟨⟨1, (), rfl, (by unfold F_set; first | exact (if_pos (by omega)).symm | exact (if_neg (by omega)).symm), by rw [ht]; exact hP9, va_K.moved hW.alike hK9, hD9⟩, hS.F ht⟩) hS.2.2 dX9_set_79
          · have h_14 : (p1).toInt < 1 ∨ 20 < (p1).toInt := h_14
            refine lv_if_ne (tgt := 48) hx hb dX9_set_43 (by decide) (fun c_ => absurd c_ (by decide)) (fun _ => ?_)
            refine lv_iconst (v := 0) hx hb dX9_set_46 (by decide) ?_
            refine W.widen (k := 0) (n := 0) (Nat.le_of_ble_eq_true rfl) (Nat.le_of_ble_eq_true rfl) ?_
            have hP9 := hP.sub (ws' := []) [] rfl
            have hD9 := hD.sub (ws' := []) [] (by decide) rfl
            have hK9 := hK.sub (tys' := []) [] rfl
            exact W.zret (v := 0) hx hb hr rfl (fun t ht hW => ⟨⟨0, (), rfl, (by unfold F_set; first | exact (if_pos (by omega)).symm | exact (if_neg (by omega)).symm), by rw [ht]; exact hP9, va_K.moved hW.alike hK9, hD9⟩, hS.F ht⟩) hS.2.2 dX9_set_47
      · refine lv_bipush (v := 50) hx hb dX9_set_24 (by decide) ?_
        refine lv_goto (tgt := 40) hx hb dX9_set_26 (by decide) ?_
        refine vp_callSi (zrS (As := [.int p1, .int 1, .int 50]) (rest := []) (wc := []) ⟨hx, hb, hml, hown, hts⟩ hN hK hP hD (k_X9_isIn l D p1 1 50 ) (va_cwS 3 hts gX9_set_X9_isIn rfl rfl rfl (by decide +kernel) ⟨(Nat.le_of_ble_eq_true rfl), (Nat.le_of_ble_eq_true rfl)⟩) [] [] rfl rfl (by decide) rfl hl.1 rfl (Nat.le_of_ble_eq_true rfl) dX9_set_40 ⟨(Nat.le_of_ble_eq_true rfl), (Nat.le_of_ble_eq_true rfl)⟩) (fun r_20 h_21 => ?_)
        rcases h_21 with ⟨h_21, rfl⟩ | ⟨h_21, rfl⟩
        · have h_21 : 1 ≤ (p1).toInt ∧ (p1).toInt ≤ 50 := h_21
          refine lv_if_ne (tgt := 48) hx hb dX9_set_43 (by decide) (fun _ => ?_) (fun c_ => absurd c_ (by decide))
          refine lv_iload_n hx hb dX9_set_48 rfl (lv_at hl 1 rfl) ?_
          refine bz_ne (zx := (p0).toInt) (tgt := 60) hx hb dX9_set_49 (by decide) rfl (fun c_22 => ?_) (fun c_22 => ?_)
          · refine lv_iload_n hx hb dX9_set_60 rfl (lv_at hl 1 rfl) ?_
            refine lv_iconst (v := 1) hx hb dX9_set_61 (by decide) ?_
            refine bi_ne (zx := (p0).toInt) (zy := 1) (tgt := 73) hx hb dX9_set_62 (by decide) rfl (by decide) (fun c_23 => ?_) (fun c_23 => ?_)
            · refine lv_aload_n hx hb dX9_set_73 rfl (lv_at hl 0 rfl) ?_
              refine lv_iload_n hx hb dX9_set_74 rfl (lv_at hl 2 rfl) ?_
              refine va_put (D := D) (ci := 9) (v := .int p1) (ty := .int) (C := RX9) (T := TX9) (N := 37) hx hb hts hin_X9 tyX9 tyX9_ok nmX9 hown hK hP hD hS 0 rfl rfl 6 (by decide) (hts (.fieldLink RX9 114 "CryOrderModel" "tries" "I") (by decide +kernel)) (fun _ h9 => h9) rfl (by decide +kernel) rfl rfl (Nat.le_of_ble_eq_true rfl) dX9_set_75 (fun H_24 locs hP hD hS => ?_)
              have hP : va_P D vwCl [(h0, .inr (9, [.int 0, .int 0, .int 0, .int 0, .int 50, .int 3, .int p1, .ref b1, .ref b2, .ref b3, .ref b4, .ref b5, .ref b6, .ref b7, .ref b8, .ref b9, .ref b10, .ref b11, .ref b12, .ref b13, .ref b14, .ref b15, .ref b16, .ref b17, .ref b18, .int 0, .int 0, .int 0, .ref b19, .ref b20, .ref b21, .int 0, .ref b22, .ref b23, .int 0, .ref b24, .ref b25]))] H_24 := hP
              have hD : va_D A [(h0, .inr (9, [.int 0, .int 0, .int 0, .int 0, .int 50, .int 3, .int p1, .ref b1, .ref b2, .ref b3, .ref b4, .ref b5, .ref b6, .ref b7, .ref b8, .ref b9, .ref b10, .ref b11, .ref b12, .ref b13, .ref b14, .ref b15, .ref b16, .ref b17, .ref b18, .int 0, .int 0, .int 0, .ref b19, .ref b20, .ref b21, .int 0, .ref b22, .ref b23, .int 0, .ref b24, .ref b25]))] := hD
              refine lv_iconst (v := 1) hx hb dX9_set_78 (by decide) ?_
              refine W.widen (k := 0) (n := 0) (Nat.le_of_ble_eq_true rfl) (Nat.le_of_ble_eq_true rfl) ?_
              have hP9 := hP.sub (ws' := []) [] rfl
              have hD9 := hD.sub (ws' := []) [] (by decide) rfl
              have hK9 := hK.sub (tys' := []) [] rfl
              exact W.zret (v := 1) hx hb hr rfl (fun t ht hW => ⟨⟨1, (), rfl, (by unfold F_set; first | exact (if_pos (by omega)).symm | exact (if_neg (by omega)).symm), by rw [ht]; exact hP9, va_K.moved hW.alike hK9, hD9⟩, hS.F ht⟩) hS.2.2 dX9_set_79
            · refine lv_aload_n hx hb dX9_set_65 rfl (lv_at hl 0 rfl) ?_
              refine lv_iload_n hx hb dX9_set_66 rfl (lv_at hl 2 rfl) ?_
              refine va_put (D := D) (ci := 9) (v := .int p1) (ty := .int) (C := RX9) (T := TX9) (N := 37) hx hb hts hin_X9 tyX9 tyX9_ok nmX9 hown hK hP hD hS 0 rfl rfl 5 (by decide) (hts (.fieldLink RX9 13 "CryOrderModel" "needs" "I") (by decide +kernel)) (fun _ h9 => h9) rfl (by decide +kernel) rfl rfl (Nat.le_of_ble_eq_true rfl) dX9_set_67 (fun H_25 locs hP hD hS => ?_)
              have hP : va_P D vwCl [(h0, .inr (9, [.int 0, .int 0, .int 0, .int 0, .int 50, .int p1, .int 0, .ref b1, .ref b2, .ref b3, .ref b4, .ref b5, .ref b6, .ref b7, .ref b8, .ref b9, .ref b10, .ref b11, .ref b12, .ref b13, .ref b14, .ref b15, .ref b16, .ref b17, .ref b18, .int 0, .int 0, .int 0, .ref b19, .ref b20, .ref b21, .int 0, .ref b22, .ref b23, .int 0, .ref b24, .ref b25]))] H_25 := hP
              have hD : va_D A [(h0, .inr (9, [.int 0, .int 0, .int 0, .int 0, .int 50, .int p1, .int 0, .ref b1, .ref b2, .ref b3, .ref b4, .ref b5, .ref b6, .ref b7, .ref b8, .ref b9, .ref b10, .ref b11, .ref b12, .ref b13, .ref b14, .ref b15, .ref b16, .ref b17, .ref b18, .int 0, .int 0, .int 0, .ref b19, .ref b20, .ref b21, .int 0, .ref b22, .ref b23, .int 0, .ref b24, .ref b25]))] := hD
              refine lv_goto (tgt := 78) hx hb dX9_set_70 (by decide) ?_
              refine lv_iconst (v := 1) hx hb dX9_set_78 (by decide) ?_
              refine W.widen (k := 0) (n := 0) (Nat.le_of_ble_eq_true rfl) (Nat.le_of_ble_eq_true rfl) ?_
              have hP9 := hP.sub (ws' := []) [] rfl
              have hD9 := hD.sub (ws' := []) [] (by decide) rfl
              have hK9 := hK.sub (tys' := []) [] rfl
              exact W.zret (v := 1) hx hb hr rfl (fun t ht hW => ⟨⟨1, (), rfl, (by unfold F_set; first | exact (if_pos (by omega)).symm | exact (if_neg (by omega)).symm), by rw [ht]; exact hP9, va_K.moved hW.alike hK9, hD9⟩, hS.F ht⟩) hS.2.2 dX9_set_79
          · refine lv_aload_n hx hb dX9_set_52 rfl (lv_at hl 0 rfl) ?_
            refine lv_iload_n hx hb dX9_set_53 rfl (lv_at hl 2 rfl) ?_
            refine va_put (D := D) (ci := 9) (v := .int p1) (ty := .int) (C := RX9) (T := TX9) (N := 37) hx hb hts hin_X9 tyX9 tyX9_ok nmX9 hown hK hP hD hS 0 rfl rfl 4 (by decide) (hts (.fieldLink RX9 7 "CryOrderModel" "cap" "I") (by decide +kernel)) (fun _ h9 => h9) rfl (by decide +kernel) rfl rfl (Nat.le_of_ble_eq_true rfl) dX9_set_54 (fun H_26 locs hP hD hS => ?_)
            have hP : va_P D vwCl [(h0, .inr (9, [.int 0, .int 0, .int 0, .int 0, .int p1, .int 3, .int 0, .ref b1, .ref b2, .ref b3, .ref b4, .ref b5, .ref b6, .ref b7, .ref b8, .ref b9, .ref b10, .ref b11, .ref b12, .ref b13, .ref b14, .ref b15, .ref b16, .ref b17, .ref b18, .int 0, .int 0, .int 0, .ref b19, .ref b20, .ref b21, .int 0, .ref b22, .ref b23, .int 0, .ref b24, .ref b25]))] H_26 := hP
            have hD : va_D A [(h0, .inr (9, [.int 0, .int 0, .int 0, .int 0, .int p1, .int 3, .int 0, .ref b1, .ref b2, .ref b3, .ref b4, .ref b5, .ref b6, .ref b7, .ref b8, .ref b9, .ref b10, .ref b11, .ref b12, .ref b13, .ref b14, .ref b15, .ref b16, .ref b17, .ref b18, .int 0, .int 0, .int 0, .ref b19, .ref b20, .ref b21, .int 0, .ref b22, .ref b23, .int 0, .ref b24, .ref b25]))] := hD
            refine lv_goto (tgt := 78) hx hb dX9_set_57 (by decide) ?_
            refine lv_iconst (v := 1) hx hb dX9_set_78 (by decide) ?_
            refine W.widen (k := 0) (n := 0) (Nat.le_of_ble_eq_true rfl) (Nat.le_of_ble_eq_true rfl) ?_
            have hP9 := hP.sub (ws' := []) [] rfl
            have hD9 := hD.sub (ws' := []) [] (by decide) rfl
            have hK9 := hK.sub (tys' := []) [] rfl
            exact W.zret (v := 1) hx hb hr rfl (fun t ht hW => ⟨⟨1, (), rfl, (by unfold F_set; first | exact (if_pos (by omega)).symm | exact (if_neg (by omega)).symm), by rw [ht]; exact hP9, va_K.moved hW.alike hK9, hD9⟩, hS.F ht⟩) hS.2.2 dX9_set_79
        · have h_21 : (p1).toInt < 1 ∨ 50 < (p1).toInt := h_21
          refine lv_if_ne (tgt := 48) hx hb dX9_set_43 (by decide) (fun c_ => absurd c_ (by decide)) (fun _ => ?_)
          refine lv_iconst (v := 0) hx hb dX9_set_46 (by decide) ?_
          refine W.widen (k := 0) (n := 0) (Nat.le_of_ble_eq_true rfl) (Nat.le_of_ble_eq_true rfl) ?_
          have hP9 := hP.sub (ws' := []) [] rfl
          have hD9 := hD.sub (ws' := []) [] (by decide) rfl
          have hK9 := hK.sub (tys' := []) [] rfl
          exact W.zret (v := 0) hx hb hr rfl (fun t ht hW => ⟨⟨0, (), rfl, (by unfold F_set; first | exact (if_pos (by omega)).symm | exact (if_neg (by omega)).symm), by rw [ht]; exact hP9, va_K.moved hW.alike hK9, hD9⟩, hS.F ht⟩) hS.2.2 dX9_set_47
    · refine lv_iconst (v := 0) hx hb dX9_set_15 (by decide) ?_
      refine lv_goto (tgt := 20) hx hb dX9_set_16 (by decide) ?_
      refine lv_iload_n hx hb dX9_set_20 rfl (lv_at hl 1 rfl) ?_
      refine bz_ne (zx := (p0).toInt) (tgt := 29) hx hb dX9_set_21 (by decide) rfl (fun c_27 => ?_) (fun c_27 => ?_)
      · refine lv_iload_n hx hb dX9_set_29 rfl (lv_at hl 1 rfl) ?_
        refine lv_iconst (v := 1) hx hb dX9_set_30 (by decide) ?_
        refine bi_ne (zx := (p0).toInt) (zy := 1) (tgt := 39) hx hb dX9_set_31 (by decide) rfl (by decide) (fun c_28 => ?_) (fun c_28 => ?_)
        · refine lv_iconst (v := 5) hx hb dX9_set_39 (by decide) ?_
          refine vp_callSi (zrS (As := [.int p1, .int 0, .int 5]) (rest := []) (wc := []) ⟨hx, hb, hml, hown, hts⟩ hN hK hP hD (k_X9_isIn l D p1 0 5 ) (va_cwS 3 hts gX9_set_X9_isIn rfl rfl rfl (by decide +kernel) ⟨(Nat.le_of_ble_eq_true rfl), (Nat.le_of_ble_eq_true rfl)⟩) [] [] rfl rfl (by decide) rfl hl.1 rfl (Nat.le_of_ble_eq_true rfl) dX9_set_40 ⟨(Nat.le_of_ble_eq_true rfl), (Nat.le_of_ble_eq_true rfl)⟩) (fun r_29 h_30 => ?_)
          rcases h_30 with ⟨h_30, rfl⟩ | ⟨h_30, rfl⟩
          · have h_30 : 0 ≤ (p1).toInt ∧ (p1).toInt ≤ 5 := h_30
            refine lv_if_ne (tgt := 48) hx hb dX9_set_43 (by decide) (fun _ => ?_) (fun c_ => absurd c_ (by decide))
            refine lv_iload_n hx hb dX9_set_48 rfl (lv_at hl 1 rfl) ?_
            refine bz_ne (zx := (p0).toInt) (tgt := 60) hx hb dX9_set_49 (by decide) rfl (fun c_31 => ?_) (fun c_31 => ?_)
            · refine lv_iload_n hx hb dX9_set_60 rfl (lv_at hl 1 rfl) ?_
              refine lv_iconst (v := 1) hx hb dX9_set_61 (by decide) ?_
              refine bi_ne (zx := (p0).toInt) (zy := 1) (tgt := 73) hx hb dX9_set_62 (by decide) rfl (by decide) (fun c_32 => ?_) (fun c_32 => ?_)
              · refine lv_aload_n hx hb dX9_set_73 rfl (lv_at hl 0 rfl) ?_
                refine lv_iload_n hx hb dX9_set_74 rfl (lv_at hl 2 rfl) ?_
                refine va_put (D := D) (ci := 9) (v := .int p1) (ty := .int) (C := RX9) (T := TX9) (N := 37) hx hb hts hin_X9 tyX9 tyX9_ok nmX9 hown hK hP hD hS 0 rfl rfl 6 (by decide) (hts (.fieldLink RX9 114 "CryOrderModel" "tries" "I") (by decide +kernel)) (fun _ h9 => h9) rfl (by decide +kernel) rfl rfl (Nat.le_of_ble_eq_true rfl) dX9_set_75 (fun H_33 locs hP hD hS => ?_)
                have hP : va_P D vwCl [(h0, .inr (9, [.int 0, .int 0, .int 0, .int 0, .int 50, .int 3, .int p1, .ref b1, .ref b2, .ref b3, .ref b4, .ref b5, .ref b6, .ref b7, .ref b8, .ref b9, .ref b10, .ref b11, .ref b12, .ref b13, .ref b14, .ref b15, .ref b16, .ref b17, .ref b18, .int 0, .int 0, .int 0, .ref b19, .ref b20, .ref b21, .int 0, .ref b22, .ref b23, .int 0, .ref b24, .ref b25]))] H_33 := hP
                have hD : va_D A [(h0, .inr (9, [.int 0, .int 0, .int 0, .int 0, .int 50, .int 3, .int p1, .ref b1, .ref b2, .ref b3, .ref b4, .ref b5, .ref b6, .ref b7, .ref b8, .ref b9, .ref b10, .ref b11, .ref b12, .ref b13, .ref b14, .ref b15, .ref b16, .ref b17, .ref b18, .int 0, .int 0, .int 0, .ref b19, .ref b20, .ref b21, .int 0, .ref b22, .ref b23, .int 0, .ref b24, .ref b25]))] := hD
                refine lv_iconst (v := 1) hx hb dX9_set_78 (by decide) ?_
                refine W.widen (k := 0) (n := 0) (Nat.le_of_ble_eq_true rfl) (Nat.le_of_ble_eq_true rfl) ?_
                have hP9 := hP.sub (ws' := []) [] rfl
                have hD9 := hD.sub (ws' := []) [] (by decide) rfl
                have hK9 := hK.sub (tys' := []) [] rfl
                exact W.zret (v := 1) hx hb hr rfl (fun t ht hW => ⟨⟨1, (), rfl, (by unfold F_set; first | exact (if_pos (by omega)).symm | exact (if_neg (by omega)).symm), by rw [ht]; exact hP9, va_K.moved hW.alike hK9, hD9⟩, hS.F ht⟩) hS.2.2 dX9_set_79
              · refine lv_aload_n hx hb dX9_set_65 rfl (lv_at hl 0 rfl) ?_
                refine lv_iload_n hx hb dX9_set_66 rfl (lv_at hl 2 rfl) ?_
                refine va_put (D := D) (ci := 9) (v := .int p1) (ty := .int) (C := RX9) (T := TX9) (N := 37) hx hb hts hin_X9 tyX9 tyX9_ok nmX9 hown hK hP hD hS 0 rfl rfl 5 (by decide) (hts (.fieldLink RX9 13 "CryOrderModel" "needs" "I") (by decide +kernel)) (fun _ h9 => h9) rfl (by decide +kernel) rfl rfl (Nat.le_of_ble_eq_true rfl) dX9_set_67 (fun H_34 locs hP hD hS => ?_)
                have hP : va_P D vwCl [(h0, .inr (9, [.int 0, .int 0, .int 0, .int 0, .int 50, .int p1, .int 0, .ref b1, .ref b2, .ref b3, .ref b4, .ref b5, .ref b6, .ref b7, .ref b8, .ref b9, .ref b10, .ref b11, .ref b12, .ref b13, .ref b14, .ref b15, .ref b16, .ref b17, .ref b18, .int 0, .int 0, .int 0, .ref b19, .ref b20, .ref b21, .int 0, .ref b22, .ref b23, .int 0, .ref b24, .ref b25]))] H_34 := hP
                have hD : va_D A [(h0, .inr (9, [.int 0, .int 0, .int 0, .int 0, .int 50, .int p1, .int 0, .ref b1, .ref b2, .ref b3, .ref b4, .ref b5, .ref b6, .ref b7, .ref b8, .ref b9, .ref b10, .ref b11, .ref b12, .ref b13, .ref b14, .ref b15, .ref b16, .ref b17, .ref b18, .int 0, .int 0, .int 0, .ref b19, .ref b20, .ref b21, .int 0, .ref b22, .ref b23, .int 0, .ref b24, .ref b25]))] := hD
                refine lv_goto (tgt := 78) hx hb dX9_set_70 (by decide) ?_
                refine lv_iconst (v := 1) hx hb dX9_set_78 (by decide) ?_
                refine W.widen (k := 0) (n := 0) (Nat.le_of_ble_eq_true rfl) (Nat.le_of_ble_eq_true rfl) ?_
                have hP9 := hP.sub (ws' := []) [] rfl
                have hD9 := hD.sub (ws' := []) [] (by decide) rfl
                have hK9 := hK.sub (tys' := []) [] rfl
                exact W.zret (v := 1) hx hb hr rfl (fun t ht hW => ⟨⟨1, (), rfl, (by unfold F_set; first | exact (if_pos (by omega)).symm | exact (if_neg (by omega)).symm), by rw [ht]; exact hP9, va_K.moved hW.alike hK9, hD9⟩, hS.F ht⟩) hS.2.2 dX9_set_79
            · refine lv_aload_n hx hb dX9_set_52 rfl (lv_at hl 0 rfl) ?_
              refine lv_iload_n hx hb dX9_set_53 rfl (lv_at hl 2 rfl) ?_
              refine va_put (D := D) (ci := 9) (v := .int p1) (ty := .int) (C := RX9) (T := TX9) (N := 37) hx hb hts hin_X9 tyX9 tyX9_ok nmX9 hown hK hP hD hS 0 rfl rfl 4 (by decide) (hts (.fieldLink RX9 7 "CryOrderModel" "cap" "I") (by decide +kernel)) (fun _ h9 => h9) rfl (by decide +kernel) rfl rfl (Nat.le_of_ble_eq_true rfl) dX9_set_54 (fun H_35 locs hP hD hS => ?_)
              have hP : va_P D vwCl [(h0, .inr (9, [.int 0, .int 0, .int 0, .int 0, .int p1, .int 3, .int 0, .ref b1, .ref b2, .ref b3, .ref b4, .ref b5, .ref b6, .ref b7, .ref b8, .ref b9, .ref b10, .ref b11, .ref b12, .ref b13, .ref b14, .ref b15, .ref b16, .ref b17, .ref b18, .int 0, .int 0, .int 0, .ref b19, .ref b20, .ref b21, .int 0, .ref b22, .ref b23, .int 0, .ref b24, .ref b25]))] H_35 := hP
              have hD : va_D A [(h0, .inr (9, [.int 0, .int 0, .int 0, .int 0, .int p1, .int 3, .int 0, .ref b1, .ref b2, .ref b3, .ref b4, .ref b5, .ref b6, .ref b7, .ref b8, .ref b9, .ref b10, .ref b11, .ref b12, .ref b13, .ref b14, .ref b15, .ref b16, .ref b17, .ref b18, .int 0, .int 0, .int 0, .ref b19, .ref b20, .ref b21, .int 0, .ref b22, .ref b23, .int 0, .ref b24, .ref b25]))] := hD
              refine lv_goto (tgt := 78) hx hb dX9_set_57 (by decide) ?_
              refine lv_iconst (v := 1) hx hb dX9_set_78 (by decide) ?_
              refine W.widen (k := 0) (n := 0) (Nat.le_of_ble_eq_true rfl) (Nat.le_of_ble_eq_true rfl) ?_
              have hP9 := hP.sub (ws' := []) [] rfl
              have hD9 := hD.sub (ws' := []) [] (by decide) rfl
              have hK9 := hK.sub (tys' := []) [] rfl
              exact W.zret (v := 1) hx hb hr rfl (fun t ht hW => ⟨⟨1, (), rfl, (by unfold F_set; first | exact (if_pos (by omega)).symm | exact (if_neg (by omega)).symm), by rw [ht]; exact hP9, va_K.moved hW.alike hK9, hD9⟩, hS.F ht⟩) hS.2.2 dX9_set_79
          · have h_30 : (p1).toInt < 0 ∨ 5 < (p1).toInt := h_30
            refine lv_if_ne (tgt := 48) hx hb dX9_set_43 (by decide) (fun c_ => absurd c_ (by decide)) (fun _ => ?_)
            refine lv_iconst (v := 0) hx hb dX9_set_46 (by decide) ?_
            refine W.widen (k := 0) (n := 0) (Nat.le_of_ble_eq_true rfl) (Nat.le_of_ble_eq_true rfl) ?_
            have hP9 := hP.sub (ws' := []) [] rfl
            have hD9 := hD.sub (ws' := []) [] (by decide) rfl
            have hK9 := hK.sub (tys' := []) [] rfl
            exact W.zret (v := 0) hx hb hr rfl (fun t ht hW => ⟨⟨0, (), rfl, (by unfold F_set; first | exact (if_pos (by omega)).symm | exact (if_neg (by omega)).symm), by rw [ht]; exact hP9, va_K.moved hW.alike hK9, hD9⟩, hS.F ht⟩) hS.2.2 dX9_set_47
        · refine lv_bipush (v := 20) hx hb dX9_set_34 (by decide) ?_
          refine lv_goto (tgt := 40) hx hb dX9_set_36 (by decide) ?_
          refine vp_callSi (zrS (As := [.int p1, .int 0, .int 20]) (rest := []) (wc := []) ⟨hx, hb, hml, hown, hts⟩ hN hK hP hD (k_X9_isIn l D p1 0 20 ) (va_cwS 3 hts gX9_set_X9_isIn rfl rfl rfl (by decide +kernel) ⟨(Nat.le_of_ble_eq_true rfl), (Nat.le_of_ble_eq_true rfl)⟩) [] [] rfl rfl (by decide) rfl hl.1 rfl (Nat.le_of_ble_eq_true rfl) dX9_set_40 ⟨(Nat.le_of_ble_eq_true rfl), (Nat.le_of_ble_eq_true rfl)⟩) (fun r_36 h_37 => ?_)
          rcases h_37 with ⟨h_37, rfl⟩ | ⟨h_37, rfl⟩
          · have h_37 : 0 ≤ (p1).toInt ∧ (p1).toInt ≤ 20 := h_37
            refine lv_if_ne (tgt := 48) hx hb dX9_set_43 (by decide) (fun _ => ?_) (fun c_ => absurd c_ (by decide))
            refine lv_iload_n hx hb dX9_set_48 rfl (lv_at hl 1 rfl) ?_
            refine bz_ne (zx := (p0).toInt) (tgt := 60) hx hb dX9_set_49 (by decide) rfl (fun c_38 => ?_) (fun c_38 => ?_)
            · refine lv_iload_n hx hb dX9_set_60 rfl (lv_at hl 1 rfl) ?_
              refine lv_iconst (v := 1) hx hb dX9_set_61 (by decide) ?_
              refine bi_ne (zx := (p0).toInt) (zy := 1) (tgt := 73) hx hb dX9_set_62 (by decide) rfl (by decide) (fun c_39 => ?_) (fun c_39 => ?_)
              · refine lv_aload_n hx hb dX9_set_73 rfl (lv_at hl 0 rfl) ?_
                refine lv_iload_n hx hb dX9_set_74 rfl (lv_at hl 2 rfl) ?_
                refine va_put (D := D) (ci := 9) (v := .int p1) (ty := .int) (C := RX9) (T := TX9) (N := 37) hx hb hts hin_X9 tyX9 tyX9_ok nmX9 hown hK hP hD hS 0 rfl rfl 6 (by decide) (hts (.fieldLink RX9 114 "CryOrderModel" "tries" "I") (by decide +kernel)) (fun _ h9 => h9) rfl (by decide +kernel) rfl rfl (Nat.le_of_ble_eq_true rfl) dX9_set_75 (fun H_40 locs hP hD hS => ?_)
                have hP : va_P D vwCl [(h0, .inr (9, [.int 0, .int 0, .int 0, .int 0, .int 50, .int 3, .int p1, .ref b1, .ref b2, .ref b3, .ref b4, .ref b5, .ref b6, .ref b7, .ref b8, .ref b9, .ref b10, .ref b11, .ref b12, .ref b13, .ref b14, .ref b15, .ref b16, .ref b17, .ref b18, .int 0, .int 0, .int 0, .ref b19, .ref b20, .ref b21, .int 0, .ref b22, .ref b23, .int 0, .ref b24, .ref b25]))] H_40 := hP
                have hD : va_D A [(h0, .inr (9, [.int 0, .int 0, .int 0, .int 0, .int 50, .int 3, .int p1, .ref b1, .ref b2, .ref b3, .ref b4, .ref b5, .ref b6, .ref b7, .ref b8, .ref b9, .ref b10, .ref b11, .ref b12, .ref b13, .ref b14, .ref b15, .ref b16, .ref b17, .ref b18, .int 0, .int 0, .int 0, .ref b19, .ref b20, .ref b21, .int 0, .ref b22, .ref b23, .int 0, .ref b24, .ref b25]))] := hD
                refine lv_iconst (v := 1) hx hb dX9_set_78 (by decide) ?_
                refine W.widen (k := 0) (n := 0) (Nat.le_of_ble_eq_true rfl) (Nat.le_of_ble_eq_true rfl) ?_
                have hP9 := hP.sub (ws' := []) [] rfl
                have hD9 := hD.sub (ws' := []) [] (by decide) rfl
                have hK9 := hK.sub (tys' := []) [] rfl
                exact W.zret (v := 1) hx hb hr rfl (fun t ht hW => ⟨⟨1, (), rfl, (by unfold F_set; first | exact (if_pos (by omega)).symm | exact (if_neg (by omega)).symm), by rw [ht]; exact hP9, va_K.moved hW.alike hK9, hD9⟩, hS.F ht⟩) hS.2.2 dX9_set_79
              · refine lv_aload_n hx hb dX9_set_65 rfl (lv_at hl 0 rfl) ?_
                refine lv_iload_n hx hb dX9_set_66 rfl (lv_at hl 2 rfl) ?_
                refine va_put (D := D) (ci := 9) (v := .int p1) (ty := .int) (C := RX9) (T := TX9) (N := 37) hx hb hts hin_X9 tyX9 tyX9_ok nmX9 hown hK hP hD hS 0 rfl rfl 5 (by decide) (hts (.fieldLink RX9 13 "CryOrderModel" "needs" "I") (by decide +kernel)) (fun _ h9 => h9) rfl (by decide +kernel) rfl rfl (Nat.le_of_ble_eq_true rfl) dX9_set_67 (fun H_41 locs hP hD hS => ?_)
                have hP : va_P D vwCl [(h0, .inr (9, [.int 0, .int 0, .int 0, .int 0, .int 50, .int p1, .int 0, .ref b1, .ref b2, .ref b3, .ref b4, .ref b5, .ref b6, .ref b7, .ref b8, .ref b9, .ref b10, .ref b11, .ref b12, .ref b13, .ref b14, .ref b15, .ref b16, .ref b17, .ref b18, .int 0, .int 0, .int 0, .ref b19, .ref b20, .ref b21, .int 0, .ref b22, .ref b23, .int 0, .ref b24, .ref b25]))] H_41 := hP
                have hD : va_D A [(h0, .inr (9, [.int 0, .int 0, .int 0, .int 0, .int 50, .int p1, .int 0, .ref b1, .ref b2, .ref b3, .ref b4, .ref b5, .ref b6, .ref b7, .ref b8, .ref b9, .ref b10, .ref b11, .ref b12, .ref b13, .ref b14, .ref b15, .ref b16, .ref b17, .ref b18, .int 0, .int 0, .int 0, .ref b19, .ref b20, .ref b21, .int 0, .ref b22, .ref b23, .int 0, .ref b24, .ref b25]))] := hD
                refine lv_goto (tgt := 78) hx hb dX9_set_70 (by decide) ?_
                refine lv_iconst (v := 1) hx hb dX9_set_78 (by decide) ?_
                refine W.widen (k := 0) (n := 0) (Nat.le_of_ble_eq_true rfl) (Nat.le_of_ble_eq_true rfl) ?_
                have hP9 := hP.sub (ws' := []) [] rfl
                have hD9 := hD.sub (ws' := []) [] (by decide) rfl
                have hK9 := hK.sub (tys' := []) [] rfl
                exact W.zret (v := 1) hx hb hr rfl (fun t ht hW => ⟨⟨1, (), rfl, (by unfold F_set; first | exact (if_pos (by omega)).symm | exact (if_neg (by omega)).symm), by rw [ht]; exact hP9, va_K.moved hW.alike hK9, hD9⟩, hS.F ht⟩) hS.2.2 dX9_set_79
            · refine lv_aload_n hx hb dX9_set_52 rfl (lv_at hl 0 rfl) ?_
              refine lv_iload_n hx hb dX9_set_53 rfl (lv_at hl 2 rfl) ?_
              refine va_put (D := D) (ci := 9) (v := .int p1) (ty := .int) (C := RX9) (T := TX9) (N := 37) hx hb hts hin_X9 tyX9 tyX9_ok nmX9 hown hK hP hD hS 0 rfl rfl 4 (by decide) (hts (.fieldLink RX9 7 "CryOrderModel" "cap" "I") (by decide +kernel)) (fun _ h9 => h9) rfl (by decide +kernel) rfl rfl (Nat.le_of_ble_eq_true rfl) dX9_set_54 (fun H_42 locs hP hD hS => ?_)
              have hP : va_P D vwCl [(h0, .inr (9, [.int 0, .int 0, .int 0, .int 0, .int p1, .int 3, .int 0, .ref b1, .ref b2, .ref b3, .ref b4, .ref b5, .ref b6, .ref b7, .ref b8, .ref b9, .ref b10, .ref b11, .ref b12, .ref b13, .ref b14, .ref b15, .ref b16, .ref b17, .ref b18, .int 0, .int 0, .int 0, .ref b19, .ref b20, .ref b21, .int 0, .ref b22, .ref b23, .int 0, .ref b24, .ref b25]))] H_42 := hP
              have hD : va_D A [(h0, .inr (9, [.int 0, .int 0, .int 0, .int 0, .int p1, .int 3, .int 0, .ref b1, .ref b2, .ref b3, .ref b4, .ref b5, .ref b6, .ref b7, .ref b8, .ref b9, .ref b10, .ref b11, .ref b12, .ref b13, .ref b14, .ref b15, .ref b16, .ref b17, .ref b18, .int 0, .int 0, .int 0, .ref b19, .ref b20, .ref b21, .int 0, .ref b22, .ref b23, .int 0, .ref b24, .ref b25]))] := hD
              refine lv_goto (tgt := 78) hx hb dX9_set_57 (by decide) ?_
              refine lv_iconst (v := 1) hx hb dX9_set_78 (by decide) ?_
              refine W.widen (k := 0) (n := 0) (Nat.le_of_ble_eq_true rfl) (Nat.le_of_ble_eq_true rfl) ?_
              have hP9 := hP.sub (ws' := []) [] rfl
              have hD9 := hD.sub (ws' := []) [] (by decide) rfl
              have hK9 := hK.sub (tys' := []) [] rfl
              exact W.zret (v := 1) hx hb hr rfl (fun t ht hW => ⟨⟨1, (), rfl, (by unfold F_set; first | exact (if_pos (by omega)).symm | exact (if_neg (by omega)).symm), by rw [ht]; exact hP9, va_K.moved hW.alike hK9, hD9⟩, hS.F ht⟩) hS.2.2 dX9_set_79
          · have h_37 : (p1).toInt < 0 ∨ 20 < (p1).toInt := h_37
            refine lv_if_ne (tgt := 48) hx hb dX9_set_43 (by decide) (fun c_ => absurd c_ (by decide)) (fun _ => ?_)
            refine lv_iconst (v := 0) hx hb dX9_set_46 (by decide) ?_
            refine W.widen (k := 0) (n := 0) (Nat.le_of_ble_eq_true rfl) (Nat.le_of_ble_eq_true rfl) ?_
            have hP9 := hP.sub (ws' := []) [] rfl
            have hD9 := hD.sub (ws' := []) [] (by decide) rfl
            have hK9 := hK.sub (tys' := []) [] rfl
            exact W.zret (v := 0) hx hb hr rfl (fun t ht hW => ⟨⟨0, (), rfl, (by unfold F_set; first | exact (if_pos (by omega)).symm | exact (if_neg (by omega)).symm), by rw [ht]; exact hP9, va_K.moved hW.alike hK9, hD9⟩, hS.F ht⟩) hS.2.2 dX9_set_47
      · refine lv_bipush (v := 50) hx hb dX9_set_24 (by decide) ?_
        refine lv_goto (tgt := 40) hx hb dX9_set_26 (by decide) ?_
        refine vp_callSi (zrS (As := [.int p1, .int 0, .int 50]) (rest := []) (wc := []) ⟨hx, hb, hml, hown, hts⟩ hN hK hP hD (k_X9_isIn l D p1 0 50 ) (va_cwS 3 hts gX9_set_X9_isIn rfl rfl rfl (by decide +kernel) ⟨(Nat.le_of_ble_eq_true rfl), (Nat.le_of_ble_eq_true rfl)⟩) [] [] rfl rfl (by decide) rfl hl.1 rfl (Nat.le_of_ble_eq_true rfl) dX9_set_40 ⟨(Nat.le_of_ble_eq_true rfl), (Nat.le_of_ble_eq_true rfl)⟩) (fun r_43 h_44 => ?_)
        rcases h_44 with ⟨h_44, rfl⟩ | ⟨h_44, rfl⟩
        · have h_44 : 0 ≤ (p1).toInt ∧ (p1).toInt ≤ 50 := h_44
          refine lv_if_ne (tgt := 48) hx hb dX9_set_43 (by decide) (fun _ => ?_) (fun c_ => absurd c_ (by decide))
          refine lv_iload_n hx hb dX9_set_48 rfl (lv_at hl 1 rfl) ?_
          refine bz_ne (zx := (p0).toInt) (tgt := 60) hx hb dX9_set_49 (by decide) rfl (fun c_45 => ?_) (fun c_45 => ?_)
          · refine lv_iload_n hx hb dX9_set_60 rfl (lv_at hl 1 rfl) ?_
            refine lv_iconst (v := 1) hx hb dX9_set_61 (by decide) ?_
            refine bi_ne (zx := (p0).toInt) (zy := 1) (tgt := 73) hx hb dX9_set_62 (by decide) rfl (by decide) (fun c_46 => ?_) (fun c_46 => ?_)
            · refine lv_aload_n hx hb dX9_set_73 rfl (lv_at hl 0 rfl) ?_
              refine lv_iload_n hx hb dX9_set_74 rfl (lv_at hl 2 rfl) ?_
              refine va_put (D := D) (ci := 9) (v := .int p1) (ty := .int) (C := RX9) (T := TX9) (N := 37) hx hb hts hin_X9 tyX9 tyX9_ok nmX9 hown hK hP hD hS 0 rfl rfl 6 (by decide) (hts (.fieldLink RX9 114 "CryOrderModel" "tries" "I") (by decide +kernel)) (fun _ h9 => h9) rfl (by decide +kernel) rfl rfl (Nat.le_of_ble_eq_true rfl) dX9_set_75 (fun H_47 locs hP hD hS => ?_)
              have hP : va_P D vwCl [(h0, .inr (9, [.int 0, .int 0, .int 0, .int 0, .int 50, .int 3, .int p1, .ref b1, .ref b2, .ref b3, .ref b4, .ref b5, .ref b6, .ref b7, .ref b8, .ref b9, .ref b10, .ref b11, .ref b12, .ref b13, .ref b14, .ref b15, .ref b16, .ref b17, .ref b18, .int 0, .int 0, .int 0, .ref b19, .ref b20, .ref b21, .int 0, .ref b22, .ref b23, .int 0, .ref b24, .ref b25]))] H_47 := hP
              have hD : va_D A [(h0, .inr (9, [.int 0, .int 0, .int 0, .int 0, .int 50, .int 3, .int p1, .ref b1, .ref b2, .ref b3, .ref b4, .ref b5, .ref b6, .ref b7, .ref b8, .ref b9, .ref b10, .ref b11, .ref b12, .ref b13, .ref b14, .ref b15, .ref b16, .ref b17, .ref b18, .int 0, .int 0, .int 0, .ref b19, .ref b20, .ref b21, .int 0, .ref b22, .ref b23, .int 0, .ref b24, .ref b25]))] := hD
              refine lv_iconst (v := 1) hx hb dX9_set_78 (by decide) ?_
              refine W.widen (k := 0) (n := 0) (Nat.le_of_ble_eq_true rfl) (Nat.le_of_ble_eq_true rfl) ?_
              have hP9 := hP.sub (ws' := []) [] rfl
              have hD9 := hD.sub (ws' := []) [] (by decide) rfl
              have hK9 := hK.sub (tys' := []) [] rfl
              exact W.zret (v := 1) hx hb hr rfl (fun t ht hW => ⟨⟨1, (), rfl, (by unfold F_set; first | exact (if_pos (by omega)).symm | exact (if_neg (by omega)).symm), by rw [ht]; exact hP9, va_K.moved hW.alike hK9, hD9⟩, hS.F ht⟩) hS.2.2 dX9_set_79
            · refine lv_aload_n hx hb dX9_set_65 rfl (lv_at hl 0 rfl) ?_
              refine lv_iload_n hx hb dX9_set_66 rfl (lv_at hl 2 rfl) ?_
              refine va_put (D := D) (ci := 9) (v := .int p1) (ty := .int) (C := RX9) (T := TX9) (N := 37) hx hb hts hin_X9 tyX9 tyX9_ok nmX9 hown hK hP hD hS 0 rfl rfl 5 (by decide) (hts (.fieldLink RX9 13 "CryOrderModel" "needs" "I") (by decide +kernel)) (fun _ h9 => h9) rfl (by decide +kernel) rfl rfl (Nat.le_of_ble_eq_true rfl) dX9_set_67 (fun H_48 locs hP hD hS => ?_)
              have hP : va_P D vwCl [(h0, .inr (9, [.int 0, .int 0, .int 0, .int 0, .int 50, .int p1, .int 0, .ref b1, .ref b2, .ref b3, .ref b4, .ref b5, .ref b6, .ref b7, .ref b8, .ref b9, .ref b10, .ref b11, .ref b12, .ref b13, .ref b14, .ref b15, .ref b16, .ref b17, .ref b18, .int 0, .int 0, .int 0, .ref b19, .ref b20, .ref b21, .int 0, .ref b22, .ref b23, .int 0, .ref b24, .ref b25]))] H_48 := hP
              have hD : va_D A [(h0, .inr (9, [.int 0, .int 0, .int 0, .int 0, .int 50, .int p1, .int 0, .ref b1, .ref b2, .ref b3, .ref b4, .ref b5, .ref b6, .ref b7, .ref b8, .ref b9, .ref b10, .ref b11, .ref b12, .ref b13, .ref b14, .ref b15, .ref b16, .ref b17, .ref b18, .int 0, .int 0, .int 0, .ref b19, .ref b20, .ref b21, .int 0, .ref b22, .ref b23, .int 0, .ref b24, .ref b25]))] := hD
              refine lv_goto (tgt := 78) hx hb dX9_set_70 (by decide) ?_
              refine lv_iconst (v := 1) hx hb dX9_set_78 (by decide) ?_
              refine W.widen (k := 0) (n := 0) (Nat.le_of_ble_eq_true rfl) (Nat.le_of_ble_eq_true rfl) ?_
              have hP9 := hP.sub (ws' := []) [] rfl
              have hD9 := hD.sub (ws' := []) [] (by decide) rfl
              have hK9 := hK.sub (tys' := []) [] rfl
              exact W.zret (v := 1) hx hb hr rfl (fun t ht hW => ⟨⟨1, (), rfl, (by unfold F_set; first | exact (if_pos (by omega)).symm | exact (if_neg (by omega)).symm), by rw [ht]; exact hP9, va_K.moved hW.alike hK9, hD9⟩, hS.F ht⟩) hS.2.2 dX9_set_79
          · refine lv_aload_n hx hb dX9_set_52 rfl (lv_at hl 0 rfl) ?_
            refine lv_iload_n hx hb dX9_set_53 rfl (lv_at hl 2 rfl) ?_
            refine va_put (D := D) (ci := 9) (v := .int p1) (ty := .int) (C := RX9) (T := TX9) (N := 37) hx hb hts hin_X9 tyX9 tyX9_ok nmX9 hown hK hP hD hS 0 rfl rfl 4 (by decide) (hts (.fieldLink RX9 7 "CryOrderModel" "cap" "I") (by decide +kernel)) (fun _ h9 => h9) rfl (by decide +kernel) rfl rfl (Nat.le_of_ble_eq_true rfl) dX9_set_54 (fun H_49 locs hP hD hS => ?_)
            have hP : va_P D vwCl [(h0, .inr (9, [.int 0, .int 0, .int 0, .int 0, .int p1, .int 3, .int 0, .ref b1, .ref b2, .ref b3, .ref b4, .ref b5, .ref b6, .ref b7, .ref b8, .ref b9, .ref b10, .ref b11, .ref b12, .ref b13, .ref b14, .ref b15, .ref b16, .ref b17, .ref b18, .int 0, .int 0, .int 0, .ref b19, .ref b20, .ref b21, .int 0, .ref b22, .ref b23, .int 0, .ref b24, .ref b25]))] H_49 := hP
            have hD : va_D A [(h0, .inr (9, [.int 0, .int 0, .int 0, .int 0, .int p1, .int 3, .int 0, .ref b1, .ref b2, .ref b3, .ref b4, .ref b5, .ref b6, .ref b7, .ref b8, .ref b9, .ref b10, .ref b11, .ref b12, .ref b13, .ref b14, .ref b15, .ref b16, .ref b17, .ref b18, .int 0, .int 0, .int 0, .ref b19, .ref b20, .ref b21, .int 0, .ref b22, .ref b23, .int 0, .ref b24, .ref b25]))] := hD
            refine lv_goto (tgt := 78) hx hb dX9_set_57 (by decide) ?_
            refine lv_iconst (v := 1) hx hb dX9_set_78 (by decide) ?_
            refine W.widen (k := 0) (n := 0) (Nat.le_of_ble_eq_true rfl) (Nat.le_of_ble_eq_true rfl) ?_
            have hP9 := hP.sub (ws' := []) [] rfl
            have hD9 := hD.sub (ws' := []) [] (by decide) rfl
            have hK9 := hK.sub (tys' := []) [] rfl
            exact W.zret (v := 1) hx hb hr rfl (fun t ht hW => ⟨⟨1, (), rfl, (by unfold F_set; first | exact (if_pos (by omega)).symm | exact (if_neg (by omega)).symm), by rw [ht]; exact hP9, va_K.moved hW.alike hK9, hD9⟩, hS.F ht⟩) hS.2.2 dX9_set_79
        · have h_44 : (p1).toInt < 0 ∨ 50 < (p1).toInt := h_44
          refine lv_if_ne (tgt := 48) hx hb dX9_set_43 (by decide) (fun c_ => absurd c_ (by decide)) (fun _ => ?_)
          refine lv_iconst (v := 0) hx hb dX9_set_46 (by decide) ?_
          refine W.widen (k := 0) (n := 0) (Nat.le_of_ble_eq_true rfl) (Nat.le_of_ble_eq_true rfl) ?_
          have hP9 := hP.sub (ws' := []) [] rfl
          have hD9 := hD.sub (ws' := []) [] (by decide) rfl
          have hK9 := hK.sub (tys' := []) [] rfl
          exact W.zret (v := 0) hx hb hr rfl (fun t ht hW => ⟨⟨0, (), rfl, (by unfold F_set; first | exact (if_pos (by omega)).symm | exact (if_neg (by omega)).symm), by rw [ht]; exact hP9, va_K.moved hW.alike hK9, hD9⟩, hS.F ht⟩) hS.2.2 dX9_set_47
  · have h_2 : (p0).toInt < 0 ∨ 2 < (p0).toInt := h_2
    refine lv_if_eq (tgt := 46) hx hb dX9_set_6 (by decide) (fun _ => ?_) (fun c_ => absurd c_ (by decide))
    refine lv_iconst (v := 0) hx hb dX9_set_46 (by decide) ?_
    refine W.widen (k := 0) (n := 0) (Nat.le_of_ble_eq_true rfl) (Nat.le_of_ble_eq_true rfl) ?_
    have hP9 := hP.sub (ws' := []) [] rfl
    have hD9 := hD.sub (ws' := []) [] (by decide) rfl
    have hK9 := hK.sub (tys' := []) [] rfl
    exact W.zret (v := 0) hx hb hr rfl (fun t ht hW => ⟨⟨0, (), rfl, (by unfold F_set; first | exact (if_pos (by omega)).symm | exact (if_neg (by omega)).symm), by rw [ht]; exact hP9, va_K.moved hW.alike hK9, hD9⟩, hS.F ht⟩) hS.2.2 dX9_set_47

set_option maxHeartbeats 4000000 in
set_option maxRecDepth 100000 in
theorem k_X9_silence (l : Launch) (D : va_G) (sz : Nat) (h0 : Nat) (b1 : Nat) (b2 : Nat) (b3 : Nat) (b4 : Nat) (b5 : Nat) (b6 : Nat) (b7 : Nat) (b8 : Nat) (b9 : Nat) (b10 : Nat) (b11 : Nat) (b12 : Nat) (b13 : Nat) (b14 : Nat) (b15 : Nat) (b16 : Nat) (b17 : Nat) (b18 : Nat) (b19 : Nat) (b20 : Nat) (b21 : Nat) (b22 : Nat) (b23 : Nat) (b24 : Nat) (b25 : Nat) (d13 : ClassId) (d14 : ClassId) (d15 : ClassId) (p0 : Int32) (p1 : Int32) (p2 : Int32) : Met l yX9_silence wsX9_silence ({ frames := 1, cells := 0, slots := 0, locals := 22 }) (va_Pc [.ref h0, .int p0, .int p1, .int p2] (wz sz D [(d13, .int), (d14, .int), (d15, .int)] [(h0, .inr (9, [.int 0, .int 0, .int 0, .int 0, .int 50, .int 3, .int 0, .ref b1, .ref b2, .ref b3, .ref b4, .ref b5, .ref b6, .ref b7, .ref b8, .ref b9, .ref b10, .ref b11, .ref b12, .ref b13, .ref b14, .ref b15, .ref b16, .ref b17, .ref b18, .int 0, .int 0, .int 0, .ref b19, .ref b20, .ref b21, .int 0, .ref b22, .ref b23, .int 0, .ref b24, .ref b25])), (b13, .inl (d13, 30, .inl (fun _ => 0))), (b14, .inl (d14, 30, .inl (fun _ => 0))), (b15, .inl (d15, 30, .inl (fun _ => 0)))])) (va_Qi (fun (r : Int32) (_ : Unit) => r = F_silence p0 p1 p2) (fun _ t => wp D [] (va_A [(h0, .inr (9, [.int 0, .int 0, .int 0, .int 0, .int 50, .int 3, .int 0, .ref b1, .ref b2, .ref b3, .ref b4, .ref b5, .ref b6, .ref b7, .ref b8, .ref b9, .ref b10, .ref b11, .ref b12, .ref b13, .ref b14, .ref b15, .ref b16, .ref b17, .ref b18, .int 0, .int 0, .int 0, .ref b19, .ref b20, .ref b21, .int 0, .ref b22, .ref b23, .int 0, .ref b24, .ref b25])), (b13, .inl (d13, 30, .inl (fun _ => 0))), (b14, .inl (d14, 30, .inl (fun _ => 0))), (b15, .inl (d15, 30, .inl (fun _ => 0)))] sz) [] t) (va_A [(h0, .inr (9, [.int 0, .int 0, .int 0, .int 0, .int 50, .int 3, .int 0, .ref b1, .ref b2, .ref b3, .ref b4, .ref b5, .ref b6, .ref b7, .ref b8, .ref b9, .ref b10, .ref b11, .ref b12, .ref b13, .ref b14, .ref b15, .ref b16, .ref b17, .ref b18, .int 0, .int 0, .int 0, .ref b19, .ref b20, .ref b21, .int 0, .ref b22, .ref b23, .int 0, .ref b24, .ref b25])), (b13, .inl (d13, 30, .inl (fun _ => 0))), (b14, .inl (d14, 30, .inl (fun _ => 0))), (b15, .inl (d15, 30, .inl (fun _ => 0)))] sz)) 0 0 (va_A [(h0, .inr (9, [.int 0, .int 0, .int 0, .int 0, .int 50, .int 3, .int 0, .ref b1, .ref b2, .ref b3, .ref b4, .ref b5, .ref b6, .ref b7, .ref b8, .ref b9, .ref b10, .ref b11, .ref b12, .ref b13, .ref b14, .ref b15, .ref b16, .ref b17, .ref b18, .int 0, .int 0, .int 0, .ref b19, .ref b20, .ref b21, .int 0, .ref b22, .ref b23, .int 0, .ref b24, .ref b25])), (b13, .inl (d13, 30, .inl (fun _ => 0))), (b14, .inl (d14, 30, .inl (fun _ => 0))), (b15, .inl (d15, 30, .inl (fun _ => 0)))] sz) := by
  refine Met.ofW (cc := cX9_silence) (maxL := 4) (ret := (some .int)) (by decide) rfl ?_
  intro p e s m args below meth c s₁ B hml hv
  obtain ⟨rfl, hsz, hP, hK, hD0, hN⟩ := hv
  have hx := B.exec
  have hb := B.bytes
  have hr := B.returns
  have hts := atoms_spec (ws := wsX9_silence) B.pre
  have hown : s.vm.findClass RX9 = some m.cls := findClass_of_methodNamed B.named
  have hlocks := B.notSynchronized
  subst hsz
  have hD := hD0.self (sz := s.heap.size)
  generalize hAe : va_A [(h0, .inr (9, [.int 0, .int 0, .int 0, .int 0, .int 50, .int 3, .int 0, .ref b1, .ref b2, .ref b3, .ref b4, .ref b5, .ref b6, .ref b7, .ref b8, .ref b9, .ref b10, .ref b11, .ref b12, .ref b13, .ref b14, .ref b15, .ref b16, .ref b17, .ref b18, .int 0, .int 0, .int 0, .ref b19, .ref b20, .ref b21, .int 0, .ref b22, .ref b23, .int 0, .ref b24, .ref b25])), (b13, .inl (d13, 30, .inl (fun _ => 0))), (b14, .inl (d14, 30, .inl (fun _ => 0))), (b15, .inl (d15, 30, .inl (fun _ => 0)))] s.heap.size = A at hD ⊢
  have hA : ∀ q : Nat, s.heap.size ≤ q → A q := fun q h => by rw [← hAe]; exact Or.inr h
  have hS : va_S A s.heap s.heap [] := va_S.rf
  have hin_X9 : ∀ w ∈ u_ws RX9 TX9 37, w ∈ wsX9_silence := by decide +kernel
  have hl := lv_entry ([.ref h0, .int p0, .int p1, .int p2]) (n := 4) (Nat.le_of_ble_eq_true rfl)
  rw [lg_entry_eq]
  generalize (lg_sl ([.ref h0, .int p0, .int p1, .int p2]) ++ List.replicate (4 - (lg_sl ([.ref h0, .int p0, .int p1, .int p2])).length) Slot.unset).toArray = ls at hl ⊢
  have hl : lv_has ls 4 [(0, .ref h0), (1, .int p0), (2, .int p1), (3, .int p2)] := hl
  refine lv_iload_n hx hb dX9_silence_0 rfl (lv_at hl 1 rfl) ?_
  refine lv_iconst (v := 0) hx hb dX9_silence_1 (by decide) ?_
  refine lv_bipush (v := 9) hx hb dX9_silence_2 (by decide) ?_
  refine vp_callSi (zrS (As := [.int p0, .int 0, .int 9]) (rest := []) (wc := []) ⟨hx, hb, hml, hown, hts⟩ hN hK hP hD (k_X9_isIn l D p0 0 9 ) (va_cwS 3 hts gX9_silence_X9_isIn rfl rfl rfl (by decide +kernel) ⟨(Nat.le_of_ble_eq_true rfl), (Nat.le_of_ble_eq_true rfl)⟩) [] [] rfl rfl (by decide) rfl hl.1 rfl (Nat.le_of_ble_eq_true rfl) dX9_silence_4 ⟨(Nat.le_of_ble_eq_true rfl), (Nat.le_of_ble_eq_true rfl)⟩) (fun r_1 h_2 => ?_)
  rcases h_2 with ⟨h_2, rfl⟩ | ⟨h_2, rfl⟩
  · have h_2 : 0 ≤ (p0).toInt ∧ (p0).toInt ≤ 9 := h_2
    refine lv_if_eq (tgt := 35) hx hb dX9_silence_7 (by decide) (fun c_ => absurd c_ (by decide)) (fun _ => ?_)
    refine lv_iload_n hx hb dX9_silence_10 rfl (lv_at hl 2 rfl) ?_
    refine bz_lt (zx := (p1).toInt) (tgt := 35) hx hb dX9_silence_11 (by decide) rfl (fun c_3 => ?_) (fun c_3 => ?_)
    · refine lv_iconst (v := (-1)) hx hb dX9_silence_35 (by decide) ?_
      refine W.widen (k := 0) (n := 0) (Nat.le_of_ble_eq_true rfl) (Nat.le_of_ble_eq_true rfl) ?_
      have hP9 := hP.sub (ws' := []) [] rfl
      have hD9 := hD.sub (ws' := []) [] (by decide) rfl
      have hK9 := hK.sub (tys' := []) [] rfl
      exact W.iret (v := (-1)) hx hb hr (fun t ht hW => ⟨⟨(-1), (), rfl, (by unfold F_silence; first | exact (if_pos (by omega)).symm | exact (if_neg (by omega)).symm), by rw [ht]; exact hP9, va_K.moved hW.alike hK9, hD9⟩, hS.F ht⟩) hS.2.2 dX9_silence_36
    · refine lv_iload_n hx hb dX9_silence_14 rfl (lv_at hl 2 rfl) ?_
      refine lv_iload_n hx hb dX9_silence_15 rfl (lv_at hl 3 rfl) ?_
      refine bi_gt (zx := (p1).toInt) (zy := (p2).toInt) (tgt := 35) hx hb dX9_silence_16 (by decide) rfl rfl (fun c_4 => ?_) (fun c_4 => ?_)
      · refine lv_iconst (v := (-1)) hx hb dX9_silence_35 (by decide) ?_
        refine W.widen (k := 0) (n := 0) (Nat.le_of_ble_eq_true rfl) (Nat.le_of_ble_eq_true rfl) ?_
        have hP9 := hP.sub (ws' := []) [] rfl
        have hD9 := hD.sub (ws' := []) [] (by decide) rfl
        have hK9 := hK.sub (tys' := []) [] rfl
        exact W.iret (v := (-1)) hx hb hr (fun t ht hW => ⟨⟨(-1), (), rfl, (by unfold F_silence; first | exact (if_pos (by omega)).symm | exact (if_neg (by omega)).symm), by rw [ht]; exact hP9, va_K.moved hW.alike hK9, hD9⟩, hS.F ht⟩) hS.2.2 dX9_silence_36
      · refine lv_iload_n hx hb dX9_silence_19 rfl (lv_at hl 3 rfl) ?_
        refine lv_sipush (v := 10000) hx hb dX9_silence_20 (by decide) ?_
        refine bi_gt (zx := (p2).toInt) (zy := 10000) (tgt := 35) hx hb dX9_silence_23 (by decide) rfl (by decide) (fun c_5 => ?_) (fun c_5 => ?_)
        · refine lv_iconst (v := (-1)) hx hb dX9_silence_35 (by decide) ?_
          refine W.widen (k := 0) (n := 0) (Nat.le_of_ble_eq_true rfl) (Nat.le_of_ble_eq_true rfl) ?_
          have hP9 := hP.sub (ws' := []) [] rfl
          have hD9 := hD.sub (ws' := []) [] (by decide) rfl
          have hK9 := hK.sub (tys' := []) [] rfl
          exact W.iret (v := (-1)) hx hb hr (fun t ht hW => ⟨⟨(-1), (), rfl, (by unfold F_silence; first | exact (if_pos (by omega)).symm | exact (if_neg (by omega)).symm), by rw [ht]; exact hP9, va_K.moved hW.alike hK9, hD9⟩, hS.F ht⟩) hS.2.2 dX9_silence_36
        · refine lv_aload_n hx hb dX9_silence_26 rfl (lv_at hl 0 rfl) ?_
          refine va_get (D := D) (ci := 9) (v := .int 0) (C := RX9) (T := TX9) (N := 37) hx hb hts hin_X9 hown hK hP 0 rfl rfl 2 (by decide) (hts (.fieldLink RX9 111 "CryOrderModel" "silences" "I") (by decide +kernel)) (fun _ h9 => h9) rfl dX9_silence_27 ?_
          refine lv_bipush (v := 30) hx hb dX9_silence_30 (by decide) ?_
          refine lv_icmp_ne (tgt := 37) hx hb dX9_silence_32 (by decide) (fun _ => ?_) (fun c_ => absurd c_ (by decide))
          refine lv_aload_n hx hb dX9_silence_37 rfl (lv_at hl 0 rfl) ?_
          refine va_get (D := D) (ci := 9) (v := .ref b13) (C := RX9) (T := TX9) (N := 37) hx hb hts hin_X9 hown hK hP 0 rfl rfl 19 (by decide) (hts (.fieldLink RX9 54 "CryOrderModel" "silenced" "[I") (by decide +kernel)) (fun _ h9 => h9) rfl dX9_silence_38 ?_
          refine lv_aload_n hx hb dX9_silence_41 rfl (lv_at hl 0 rfl) ?_
          refine va_get (D := D) (ci := 9) (v := .int 0) (C := RX9) (T := TX9) (N := 37) hx hb hts hin_X9 hown hK hP 0 rfl rfl 2 (by decide) (hts (.fieldLink RX9 111 "CryOrderModel" "silences" "I") (by decide +kernel)) (fun _ h9 => h9) rfl dX9_silence_42 ?_
          refine lv_iload_n hx hb dX9_silence_45 rfl (lv_at hl 1 rfl) ?_
          refine va_iast hx hb hK hP hD hS 1 0 rfl rfl (vp_in0 (by decide)) dX9_silence_46 (fun H_6 locs hP hD hS => ?_)
          have hP : va_P D vwCl [(h0, .inr (9, [.int 0, .int 0, .int 0, .int 0, .int 50, .int 3, .int 0, .ref b1, .ref b2, .ref b3, .ref b4, .ref b5, .ref b6, .ref b7, .ref b8, .ref b9, .ref b10, .ref b11, .ref b12, .ref b13, .ref b14, .ref b15, .ref b16, .ref b17, .ref b18, .int 0, .int 0, .int 0, .ref b19, .ref b20, .ref b21, .int 0, .ref b22, .ref b23, .int 0, .ref b24, .ref b25])), (b13, .inl (d13, 30, .inl (upd (fun _ => 0) (0 : Int32).toNatClampNeg (p0)))), (b14, .inl (d14, 30, .inl (fun _ => 0))), (b15, .inl (d15, 30, .inl (fun _ => 0)))] H_6 := hP
          have hD : va_D A [(h0, .inr (9, [.int 0, .int 0, .int 0, .int 0, .int 50, .int 3, .int 0, .ref b1, .ref b2, .ref b3, .ref b4, .ref b5, .ref b6, .ref b7, .ref b8, .ref b9, .ref b10, .ref b11, .ref b12, .ref b13, .ref b14, .ref b15, .ref b16, .ref b17, .ref b18, .int 0, .int 0, .int 0, .ref b19, .ref b20, .ref b21, .int 0, .ref b22, .ref b23, .int 0, .ref b24, .ref b25])), (b13, .inl (d13, 30, .inl (upd (fun _ => 0) (0 : Int32).toNatClampNeg (p0)))), (b14, .inl (d14, 30, .inl (fun _ => 0))), (b15, .inl (d15, 30, .inl (fun _ => 0)))] := hD
          refine lv_aload_n hx hb dX9_silence_47 rfl (lv_at hl 0 rfl) ?_
          refine va_get (D := D) (ci := 9) (v := .ref b14) (C := RX9) (T := TX9) (N := 37) hx hb hts hin_X9 hown hK hP 0 rfl rfl 20 (by decide) (hts (.fieldLink RX9 57 "CryOrderModel" "from" "[I") (by decide +kernel)) (fun _ h9 => h9) rfl dX9_silence_48 ?_
          refine lv_aload_n hx hb dX9_silence_51 rfl (lv_at hl 0 rfl) ?_
          refine va_get (D := D) (ci := 9) (v := .int 0) (C := RX9) (T := TX9) (N := 37) hx hb hts hin_X9 hown hK hP 0 rfl rfl 2 (by decide) (hts (.fieldLink RX9 111 "CryOrderModel" "silences" "I") (by decide +kernel)) (fun _ h9 => h9) rfl dX9_silence_52 ?_
          refine lv_iload_n hx hb dX9_silence_55 rfl (lv_at hl 2 rfl) ?_
          refine va_iast hx hb hK hP hD hS 2 1 rfl rfl (vp_in0 (by decide)) dX9_silence_56 (fun H_7 locs hP hD hS => ?_)
          have hP : va_P D vwCl [(h0, .inr (9, [.int 0, .int 0, .int 0, .int 0, .int 50, .int 3, .int 0, .ref b1, .ref b2, .ref b3, .ref b4, .ref b5, .ref b6, .ref b7, .ref b8, .ref b9, .ref b10, .ref b11, .ref b12, .ref b13, .ref b14, .ref b15, .ref b16, .ref b17, .ref b18, .int 0, .int 0, .int 0, .ref b19, .ref b20, .ref b21, .int 0, .ref b22, .ref b23, .int 0, .ref b24, .ref b25])), (b13, .inl (d13, 30, .inl (upd (fun _ => 0) (0 : Int32).toNatClampNeg (p0)))), (b14, .inl (d14, 30, .inl (upd (fun _ => 0) (0 : Int32).toNatClampNeg (p1)))), (b15, .inl (d15, 30, .inl (fun _ => 0)))] H_7 := hP
          have hD : va_D A [(h0, .inr (9, [.int 0, .int 0, .int 0, .int 0, .int 50, .int 3, .int 0, .ref b1, .ref b2, .ref b3, .ref b4, .ref b5, .ref b6, .ref b7, .ref b8, .ref b9, .ref b10, .ref b11, .ref b12, .ref b13, .ref b14, .ref b15, .ref b16, .ref b17, .ref b18, .int 0, .int 0, .int 0, .ref b19, .ref b20, .ref b21, .int 0, .ref b22, .ref b23, .int 0, .ref b24, .ref b25])), (b13, .inl (d13, 30, .inl (upd (fun _ => 0) (0 : Int32).toNatClampNeg (p0)))), (b14, .inl (d14, 30, .inl (upd (fun _ => 0) (0 : Int32).toNatClampNeg (p1)))), (b15, .inl (d15, 30, .inl (fun _ => 0)))] := hD
          refine lv_aload_n hx hb dX9_silence_57 rfl (lv_at hl 0 rfl) ?_
          refine va_get (D := D) (ci := 9) (v := .ref b15) (C := RX9) (T := TX9) (N := 37) hx hb hts hin_X9 hown hK hP 0 rfl rfl 21 (by decide) (hts (.fieldLink RX9 60 "CryOrderModel" "to" "[I") (by decide +kernel)) (fun _ h9 => h9) rfl dX9_silence_58 ?_
          refine lv_aload_n hx hb dX9_silence_61 rfl (lv_at hl 0 rfl) ?_
          refine va_get (D := D) (ci := 9) (v := .int 0) (C := RX9) (T := TX9) (N := 37) hx hb hts hin_X9 hown hK hP 0 rfl rfl 2 (by decide) (hts (.fieldLink RX9 111 "CryOrderModel" "silences" "I") (by decide +kernel)) (fun _ h9 => h9) rfl dX9_silence_62 ?_
          refine lv_iload_n hx hb dX9_silence_65 rfl (lv_at hl 3 rfl) ?_
          refine va_iast hx hb hK hP hD hS 3 2 rfl rfl (vp_in0 (by decide)) dX9_silence_66 (fun H_8 locs hP hD hS => ?_)
          have hP : va_P D vwCl [(h0, .inr (9, [.int 0, .int 0, .int 0, .int 0, .int 50, .int 3, .int 0, .ref b1, .ref b2, .ref b3, .ref b4, .ref b5, .ref b6, .ref b7, .ref b8, .ref b9, .ref b10, .ref b11, .ref b12, .ref b13, .ref b14, .ref b15, .ref b16, .ref b17, .ref b18, .int 0, .int 0, .int 0, .ref b19, .ref b20, .ref b21, .int 0, .ref b22, .ref b23, .int 0, .ref b24, .ref b25])), (b13, .inl (d13, 30, .inl (upd (fun _ => 0) (0 : Int32).toNatClampNeg (p0)))), (b14, .inl (d14, 30, .inl (upd (fun _ => 0) (0 : Int32).toNatClampNeg (p1)))), (b15, .inl (d15, 30, .inl (upd (fun _ => 0) (0 : Int32).toNatClampNeg (p2))))] H_8 := hP
          have hD : va_D A [(h0, .inr (9, [.int 0, .int 0, .int 0, .int 0, .int 50, .int 3, .int 0, .ref b1, .ref b2, .ref b3, .ref b4, .ref b5, .ref b6, .ref b7, .ref b8, .ref b9, .ref b10, .ref b11, .ref b12, .ref b13, .ref b14, .ref b15, .ref b16, .ref b17, .ref b18, .int 0, .int 0, .int 0, .ref b19, .ref b20, .ref b21, .int 0, .ref b22, .ref b23, .int 0, .ref b24, .ref b25])), (b13, .inl (d13, 30, .inl (upd (fun _ => 0) (0 : Int32).toNatClampNeg (p0)))), (b14, .inl (d14, 30, .inl (upd (fun _ => 0) (0 : Int32).toNatClampNeg (p1)))), (b15, .inl (d15, 30, .inl (upd (fun _ => 0) (0 : Int32).toNatClampNeg (p2))))] := hD
          refine lv_aload_n hx hb dX9_silence_67 rfl (lv_at hl 0 rfl) ?_
          refine lv_dup hx hb dX9_silence_68 rfl ?_
          refine va_get (D := D) (ci := 9) (v := .int 0) (C := RX9) (T := TX9) (N := 37) hx hb hts hin_X9 hown hK hP 0 rfl rfl 2 (by decide) (hts (.fieldLink RX9 111 "CryOrderModel" "silences" "I") (by decide +kernel)) (fun _ h9 => h9) rfl dX9_silence_69 ?_
          refine lv_iconst (v := 1) hx hb dX9_silence_72 (by decide) ?_
          refine lv_iadd hx hb dX9_silence_73 ?_
          refine lv_tope (z := 1) (by decide) ?_
          refine va_put (D := D) (ci := 9) (v := .int 1) (ty := .int) (C := RX9) (T := TX9) (N := 37) hx hb hts hin_X9 tyX9 tyX9_ok nmX9 hown hK hP hD hS 0 rfl rfl 2 (by decide) (hts (.fieldLink RX9 111 "CryOrderModel" "silences" "I") (by decide +kernel)) (fun _ h9 => h9) rfl (by decide +kernel) rfl rfl (Nat.le_of_ble_eq_true rfl) dX9_silence_74 (fun H_9 locs hP hD hS => ?_)
          have hP : va_P D vwCl [(h0, .inr (9, [.int 0, .int 0, .int 1, .int 0, .int 50, .int 3, .int 0, .ref b1, .ref b2, .ref b3, .ref b4, .ref b5, .ref b6, .ref b7, .ref b8, .ref b9, .ref b10, .ref b11, .ref b12, .ref b13, .ref b14, .ref b15, .ref b16, .ref b17, .ref b18, .int 0, .int 0, .int 0, .ref b19, .ref b20, .ref b21, .int 0, .ref b22, .ref b23, .int 0, .ref b24, .ref b25])), (b13, .inl (d13, 30, .inl (upd (fun _ => 0) (0 : Int32).toNatClampNeg (p0)))), (b14, .inl (d14, 30, .inl (upd (fun _ => 0) (0 : Int32).toNatClampNeg (p1)))), (b15, .inl (d15, 30, .inl (upd (fun _ => 0) (0 : Int32).toNatClampNeg (p2))))] H_9 := hP
          have hD : va_D A [(h0, .inr (9, [.int 0, .int 0, .int 1, .int 0, .int 50, .int 3, .int 0, .ref b1, .ref b2, .ref b3, .ref b4, .ref b5, .ref b6, .ref b7, .ref b8, .ref b9, .ref b10, .ref b11, .ref b12, .ref b13, .ref b14, .ref b15, .ref b16, .ref b17, .ref b18, .int 0, .int 0, .int 0, .ref b19, .ref b20, .ref b21, .int 0, .ref b22, .ref b23, .int 0, .ref b24, .ref b25])), (b13, .inl (d13, 30, .inl (upd (fun _ => 0) (0 : Int32).toNatClampNeg (p0)))), (b14, .inl (d14, 30, .inl (upd (fun _ => 0) (0 : Int32).toNatClampNeg (p1)))), (b15, .inl (d15, 30, .inl (upd (fun _ => 0) (0 : Int32).toNatClampNeg (p2))))] := hD
          refine lv_aload_n hx hb dX9_silence_77 rfl (lv_at hl 0 rfl) ?_
          refine va_get (D := D) (ci := 9) (v := .int 1) (C := RX9) (T := TX9) (N := 37) hx hb hts hin_X9 hown hK hP 0 rfl rfl 2 (by decide) (hts (.fieldLink RX9 111 "CryOrderModel" "silences" "I") (by decide +kernel)) (fun _ h9 => h9) rfl dX9_silence_78 ?_
          refine W.widen (k := 0) (n := 0) (Nat.le_of_ble_eq_true rfl) (Nat.le_of_ble_eq_true rfl) ?_
          have hP9 := hP.sub (ws' := []) [] rfl
          have hD9 := hD.sub (ws' := []) [] (by decide) rfl
          have hK9 := hK.sub (tys' := []) [] rfl
          exact W.iret (v := 1) hx hb hr (fun t ht hW => ⟨⟨1, (), rfl, (by unfold F_silence; first | exact (if_pos (by omega)).symm | exact (if_neg (by omega)).symm), by rw [ht]; exact hP9, va_K.moved hW.alike hK9, hD9⟩, hS.F ht⟩) hS.2.2 dX9_silence_81
  · have h_2 : (p0).toInt < 0 ∨ 9 < (p0).toInt := h_2
    refine lv_if_eq (tgt := 35) hx hb dX9_silence_7 (by decide) (fun _ => ?_) (fun c_ => absurd c_ (by decide))
    refine lv_iconst (v := (-1)) hx hb dX9_silence_35 (by decide) ?_
    refine W.widen (k := 0) (n := 0) (Nat.le_of_ble_eq_true rfl) (Nat.le_of_ble_eq_true rfl) ?_
    have hP9 := hP.sub (ws' := []) [] rfl
    have hD9 := hD.sub (ws' := []) [] (by decide) rfl
    have hK9 := hK.sub (tys' := []) [] rfl
    exact W.iret (v := (-1)) hx hb hr (fun t ht hW => ⟨⟨(-1), (), rfl, (by unfold F_silence; first | exact (if_pos (by omega)).symm | exact (if_neg (by omega)).symm), by rw [ht]; exact hP9, va_K.moved hW.alike hK9, hD9⟩, hS.F ht⟩) hS.2.2 dX9_silence_36

set_option maxHeartbeats 4000000 in
set_option maxRecDepth 100000 in
theorem k_X9_verdict (l : Launch) (D : va_G) (h0 : Nat) (b1 : Nat) (b2 : Nat) (b3 : Nat) (b4 : Nat) (b5 : Nat) (b6 : Nat) (b7 : Nat) (b8 : Nat) (b9 : Nat) (b10 : Nat) (b11 : Nat) (b12 : Nat) (b13 : Nat) (b14 : Nat) (b15 : Nat) (b16 : Nat) (b17 : Nat) (b18 : Nat) (b19 : Nat) (b20 : Nat) (b21 : Nat) (b22 : Nat) (b23 : Nat) (b24 : Nat) (b25 : Nat) (p0 : Int32) (p1 : Int32) (p2 : Int32) : Met l yX9_verdict wsX9_verdict ({ frames := 2, cells := 0, slots := 0, locals := 43 }) (va_Pc [.ref h0, .int p0, .int p1, .int p2] (wo D [] [(h0, .inr (9, [.int 0, .int 0, .int 0, .int 0, .int 50, .int 3, .int 0, .ref b1, .ref b2, .ref b3, .ref b4, .ref b5, .ref b6, .ref b7, .ref b8, .ref b9, .ref b10, .ref b11, .ref b12, .ref b13, .ref b14, .ref b15, .ref b16, .ref b17, .ref b18, .int 0, .int 0, .int 0, .ref b19, .ref b20, .ref b21, .int 0, .ref b22, .ref b23, .int 0, .ref b24, .ref b25]))])) (vp_Si (fun r => r = -1)) 0 0 (fun _ => False) := by
  refine Met.ofW (cc := cX9_verdict) (maxL := 4) (ret := (some .int)) (by decide) rfl ?_
  intro p e s m args below meth c s₁ B hml hv
  obtain ⟨rfl, hP, hK, hD, hN⟩ := hv
  have hx := B.exec
  have hb := B.bytes
  have hr := B.returns
  have hts := atoms_spec (ws := wsX9_verdict) B.pre
  have hown : s.vm.findClass RX9 = some m.cls := findClass_of_methodNamed B.named
  have hlocks := B.notSynchronized
  have hl := lv_entry ([.ref h0, .int p0, .int p1, .int p2]) (n := 4) (Nat.le_of_ble_eq_true rfl)
  rw [lg_entry_eq]
  generalize (lg_sl ([.ref h0, .int p0, .int p1, .int p2]) ++ List.replicate (4 - (lg_sl ([.ref h0, .int p0, .int p1, .int p2])).length) Slot.unset).toArray = ls at hl ⊢
  have hl : lv_has ls 4 [(0, .ref h0), (1, .int p0), (2, .int p1), (3, .int p2)] := hl
  refine lv_aload_n hx hb dX9_verdict_0 rfl (lv_at hl 0 rfl) ?_
  refine lv_iload_n hx hb dX9_verdict_1 rfl (lv_at hl 1 rfl) ?_
  refine vp_callSi (zrV (As := [.int p0]) (rest := []) (wc := [(h0, .inr (9, [.int 0, .int 0, .int 0, .int 0, .int 50, .int 3, .int 0, .ref b1, .ref b2, .ref b3, .ref b4, .ref b5, .ref b6, .ref b7, .ref b8, .ref b9, .ref b10, .ref b11, .ref b12, .ref b13, .ref b14, .ref b15, .ref b16, .ref b17, .ref b18, .int 0, .int 0, .int 0, .ref b19, .ref b20, .ref b21, .int 0, .ref b22, .ref b23, .int 0, .ref b24, .ref b25]))]) ⟨hx, hb, hml, hown, hts⟩ hN hK hP hD (k_X9_isAlarm l D h0 b1 b2 b3 b4 b5 b6 b7 b8 b9 b10 b11 b12 b13 b14 b15 b16 b17 b18 b19 b20 b21 b22 b23 b24 b25 p0 ) (cwV 1 hts gX9_verdict_X9_isAlarm rfl rfl rfl (by decide +kernel) ⟨(Nat.le_of_ble_eq_true rfl), (Nat.le_of_ble_eq_true rfl)⟩) [] [0] rfl rfl (by decide) 9 0 rfl rfl rfl hl.1 rfl (Nat.le_of_ble_eq_true rfl) dX9_verdict_2 ⟨(Nat.le_of_ble_eq_true rfl), (Nat.le_of_ble_eq_true rfl)⟩) (fun r_1 h_2 => ?_)
  subst h_2
  refine lv_if_eq (tgt := 48) hx hb dX9_verdict_5 (by decide) (fun _ => ?_) (fun c_ => absurd c_ (by decide))
  refine lv_iconst (v := (-1)) hx hb dX9_verdict_48 (by decide) ?_
  exact W.iret (v := (-1)) hx hb hr (fun t ht hW => ⟨(-1), rfl, rfl, ht⟩) (fun q h => by cases h) dX9_verdict_49

set_option maxHeartbeats 4000000 in
set_option maxRecDepth 100000 in
theorem k_X9_tie (l : Launch) (D : va_G) (h0 : Nat) (b1 : Nat) (b2 : Nat) (b3 : Nat) (b4 : Nat) (b5 : Nat) (b6 : Nat) (b7 : Nat) (b8 : Nat) (b9 : Nat) (b10 : Nat) (b11 : Nat) (b12 : Nat) (b13 : Nat) (b14 : Nat) (b15 : Nat) (b16 : Nat) (b17 : Nat) (b18 : Nat) (b19 : Nat) (b20 : Nat) (b21 : Nat) (b22 : Nat) (b23 : Nat) (b24 : Nat) (b25 : Nat) (p0 : Int32) (p1 : Int32) (p2 : Int32) : Met l yX9_tie wsX9_tie ({ frames := 2, cells := 0, slots := 0, locals := 43 }) (va_Pc [.ref h0, .int p0, .int p1, .int p2] (wo D [] [(h0, .inr (9, [.int 0, .int 0, .int 0, .int 0, .int 50, .int 3, .int 0, .ref b1, .ref b2, .ref b3, .ref b4, .ref b5, .ref b6, .ref b7, .ref b8, .ref b9, .ref b10, .ref b11, .ref b12, .ref b13, .ref b14, .ref b15, .ref b16, .ref b17, .ref b18, .int 0, .int 0, .int 0, .ref b19, .ref b20, .ref b21, .int 0, .ref b22, .ref b23, .int 0, .ref b24, .ref b25]))])) (vp_Si (fun r => r = 0)) 0 0 (fun _ => False) := by
  refine Met.ofW (cc := cX9_tie) (maxL := 5) (ret := (some .boolean)) (by decide) rfl ?_
  intro p e s m args below meth c s₁ B hml hv
  obtain ⟨rfl, hP, hK, hD, hN⟩ := hv
  have hx := B.exec
  have hb := B.bytes
  have hr := B.returns
  have hts := atoms_spec (ws := wsX9_tie) B.pre
  have hown : s.vm.findClass RX9 = some m.cls := findClass_of_methodNamed B.named
  have hlocks := B.notSynchronized
  have hl := lv_entry ([.ref h0, .int p0, .int p1, .int p2]) (n := 5) (Nat.le_of_ble_eq_true rfl)
  rw [lg_entry_eq]
  generalize (lg_sl ([.ref h0, .int p0, .int p1, .int p2]) ++ List.replicate (5 - (lg_sl ([.ref h0, .int p0, .int p1, .int p2])).length) Slot.unset).toArray = ls at hl ⊢
  have hl : lv_has ls 5 [(0, .ref h0), (1, .int p0), (2, .int p1), (3, .int p2)] := hl
  refine lv_aload_n hx hb dX9_tie_0 rfl (lv_at hl 0 rfl) ?_
  refine lv_iload_n hx hb dX9_tie_1 rfl (lv_at hl 1 rfl) ?_
  refine vp_callSi (zrV (As := [.int p0]) (rest := []) (wc := [(h0, .inr (9, [.int 0, .int 0, .int 0, .int 0, .int 50, .int 3, .int 0, .ref b1, .ref b2, .ref b3, .ref b4, .ref b5, .ref b6, .ref b7, .ref b8, .ref b9, .ref b10, .ref b11, .ref b12, .ref b13, .ref b14, .ref b15, .ref b16, .ref b17, .ref b18, .int 0, .int 0, .int 0, .ref b19, .ref b20, .ref b21, .int 0, .ref b22, .ref b23, .int 0, .ref b24, .ref b25]))]) ⟨hx, hb, hml, hown, hts⟩ hN hK hP hD (k_X9_isAlarm l D h0 b1 b2 b3 b4 b5 b6 b7 b8 b9 b10 b11 b12 b13 b14 b15 b16 b17 b18 b19 b20 b21 b22 b23 b24 b25 p0 ) (cwV 1 hts gX9_tie_X9_isAlarm rfl rfl rfl (by decide +kernel) ⟨(Nat.le_of_ble_eq_true rfl), (Nat.le_of_ble_eq_true rfl)⟩) [] [0] rfl rfl (by decide) 9 0 rfl rfl rfl hl.1 rfl (Nat.le_of_ble_eq_true rfl) dX9_tie_2 ⟨(Nat.le_of_ble_eq_true rfl), (Nat.le_of_ble_eq_true rfl)⟩) (fun r_1 h_2 => ?_)
  subst h_2
  refine lv_if_eq (tgt := 21) hx hb dX9_tie_5 (by decide) (fun _ => ?_) (fun c_ => absurd c_ (by decide))
  refine lv_iconst (v := 0) hx hb dX9_tie_21 (by decide) ?_
  exact W.zret (v := 0) hx hb hr rfl (fun t ht hW => ⟨0, rfl, rfl, ht⟩) (fun q h => by cases h) dX9_tie_22

set_option maxHeartbeats 4000000 in
set_option maxRecDepth 100000 in
theorem k_X9_told (l : Launch) (D : va_G) (h0 : Nat) (b1 : Nat) (b2 : Nat) (b3 : Nat) (b4 : Nat) (b5 : Nat) (b6 : Nat) (b7 : Nat) (b8 : Nat) (b9 : Nat) (b10 : Nat) (b11 : Nat) (b12 : Nat) (b13 : Nat) (b14 : Nat) (b15 : Nat) (b16 : Nat) (b17 : Nat) (b18 : Nat) (b19 : Nat) (b20 : Nat) (b21 : Nat) (b22 : Nat) (b23 : Nat) (b24 : Nat) (b25 : Nat) (p0 : Int32) (p1 : Int32) : Met l yX9_told wsX9_told ({ frames := 2, cells := 0, slots := 0, locals := 43 }) (va_Pc [.ref h0, .int p0, .int p1] (wo D [] [(h0, .inr (9, [.int 0, .int 0, .int 0, .int 0, .int 50, .int 3, .int 0, .ref b1, .ref b2, .ref b3, .ref b4, .ref b5, .ref b6, .ref b7, .ref b8, .ref b9, .ref b10, .ref b11, .ref b12, .ref b13, .ref b14, .ref b15, .ref b16, .ref b17, .ref b18, .int 0, .int 0, .int 0, .ref b19, .ref b20, .ref b21, .int 0, .ref b22, .ref b23, .int 0, .ref b24, .ref b25]))])) (vp_Si (fun r => r = -1)) 0 0 (fun _ => False) := by
  refine Met.ofW (cc := cX9_told) (maxL := 3) (ret := (some .int)) (by decide) rfl ?_
  intro p e s m args below meth c s₁ B hml hv
  obtain ⟨rfl, hP, hK, hD, hN⟩ := hv
  have hx := B.exec
  have hb := B.bytes
  have hr := B.returns
  have hts := atoms_spec (ws := wsX9_told) B.pre
  have hown : s.vm.findClass RX9 = some m.cls := findClass_of_methodNamed B.named
  have hlocks := B.notSynchronized
  have hl := lv_entry ([.ref h0, .int p0, .int p1]) (n := 3) (Nat.le_of_ble_eq_true rfl)
  rw [lg_entry_eq]
  generalize (lg_sl ([.ref h0, .int p0, .int p1]) ++ List.replicate (3 - (lg_sl ([.ref h0, .int p0, .int p1])).length) Slot.unset).toArray = ls at hl ⊢
  have hl : lv_has ls 3 [(0, .ref h0), (1, .int p0), (2, .int p1)] := hl
  refine lv_aload_n hx hb dX9_told_0 rfl (lv_at hl 0 rfl) ?_
  refine lv_iload_n hx hb dX9_told_1 rfl (lv_at hl 1 rfl) ?_
  refine vp_callSi (zrV (As := [.int p0]) (rest := []) (wc := [(h0, .inr (9, [.int 0, .int 0, .int 0, .int 0, .int 50, .int 3, .int 0, .ref b1, .ref b2, .ref b3, .ref b4, .ref b5, .ref b6, .ref b7, .ref b8, .ref b9, .ref b10, .ref b11, .ref b12, .ref b13, .ref b14, .ref b15, .ref b16, .ref b17, .ref b18, .int 0, .int 0, .int 0, .ref b19, .ref b20, .ref b21, .int 0, .ref b22, .ref b23, .int 0, .ref b24, .ref b25]))]) ⟨hx, hb, hml, hown, hts⟩ hN hK hP hD (k_X9_isAlarm l D h0 b1 b2 b3 b4 b5 b6 b7 b8 b9 b10 b11 b12 b13 b14 b15 b16 b17 b18 b19 b20 b21 b22 b23 b24 b25 p0 ) (cwV 1 hts gX9_told_X9_isAlarm rfl rfl rfl (by decide +kernel) ⟨(Nat.le_of_ble_eq_true rfl), (Nat.le_of_ble_eq_true rfl)⟩) [] [0] rfl rfl (by decide) 9 0 rfl rfl rfl hl.1 rfl (Nat.le_of_ble_eq_true rfl) dX9_told_2 ⟨(Nat.le_of_ble_eq_true rfl), (Nat.le_of_ble_eq_true rfl)⟩) (fun r_1 h_2 => ?_)
  subst h_2
  refine lv_if_ne (tgt := 10) hx hb dX9_told_5 (by decide) (fun c_ => absurd c_ (by decide)) (fun _ => ?_)
  refine lv_iconst (v := (-1)) hx hb dX9_told_8 (by decide) ?_
  exact W.iret (v := (-1)) hx hb hr (fun t ht hW => ⟨(-1), rfl, rfl, ht⟩) (fun q h => by cases h) dX9_told_9

set_option maxHeartbeats 4000000 in
set_option maxRecDepth 100000 in
theorem k_X9_odds (l : Launch) (D : va_G) (h0 : Nat) (b1 : Nat) (b2 : Nat) (b3 : Nat) (b4 : Nat) (b5 : Nat) (b6 : Nat) (b7 : Nat) (b8 : Nat) (b9 : Nat) (b10 : Nat) (b11 : Nat) (b12 : Nat) (b13 : Nat) (b14 : Nat) (b15 : Nat) (b16 : Nat) (b17 : Nat) (b18 : Nat) (b19 : Nat) (b20 : Nat) (b21 : Nat) (b22 : Nat) (b23 : Nat) (b24 : Nat) (b25 : Nat) (p0 : Int32) (p1 : Int32) : Met l yX9_odds wsX9_odds ({ frames := 2, cells := 0, slots := 0, locals := 43 }) (va_Pc [.ref h0, .int p0, .int p1] (wo D [] [(h0, .inr (9, [.int 0, .int 0, .int 0, .int 0, .int 50, .int 3, .int 0, .ref b1, .ref b2, .ref b3, .ref b4, .ref b5, .ref b6, .ref b7, .ref b8, .ref b9, .ref b10, .ref b11, .ref b12, .ref b13, .ref b14, .ref b15, .ref b16, .ref b17, .ref b18, .int 0, .int 0, .int 0, .ref b19, .ref b20, .ref b21, .int 0, .ref b22, .ref b23, .int 0, .ref b24, .ref b25]))])) (vp_Si (fun r => r = -1)) 0 0 (fun _ => False) := by
  refine Met.ofW (cc := cX9_odds) (maxL := 8) (ret := (some .int)) (by decide) rfl ?_
  intro p e s m args below meth c s₁ B hml hv
  obtain ⟨rfl, hP, hK, hD, hN⟩ := hv
  have hx := B.exec
  have hb := B.bytes
  have hr := B.returns
  have hts := atoms_spec (ws := wsX9_odds) B.pre
  have hown : s.vm.findClass RX9 = some m.cls := findClass_of_methodNamed B.named
  have hlocks := B.notSynchronized
  have hl := lv_entry ([.ref h0, .int p0, .int p1]) (n := 8) (Nat.le_of_ble_eq_true rfl)
  rw [lg_entry_eq]
  generalize (lg_sl ([.ref h0, .int p0, .int p1]) ++ List.replicate (8 - (lg_sl ([.ref h0, .int p0, .int p1])).length) Slot.unset).toArray = ls at hl ⊢
  have hl : lv_has ls 8 [(0, .ref h0), (1, .int p0), (2, .int p1)] := hl
  refine lv_aload_n hx hb dX9_odds_0 rfl (lv_at hl 0 rfl) ?_
  refine lv_iload_n hx hb dX9_odds_1 rfl (lv_at hl 1 rfl) ?_
  refine vp_callSi (zrV (As := [.int p0]) (rest := []) (wc := [(h0, .inr (9, [.int 0, .int 0, .int 0, .int 0, .int 50, .int 3, .int 0, .ref b1, .ref b2, .ref b3, .ref b4, .ref b5, .ref b6, .ref b7, .ref b8, .ref b9, .ref b10, .ref b11, .ref b12, .ref b13, .ref b14, .ref b15, .ref b16, .ref b17, .ref b18, .int 0, .int 0, .int 0, .ref b19, .ref b20, .ref b21, .int 0, .ref b22, .ref b23, .int 0, .ref b24, .ref b25]))]) ⟨hx, hb, hml, hown, hts⟩ hN hK hP hD (k_X9_isAlarm l D h0 b1 b2 b3 b4 b5 b6 b7 b8 b9 b10 b11 b12 b13 b14 b15 b16 b17 b18 b19 b20 b21 b22 b23 b24 b25 p0 ) (cwV 1 hts gX9_odds_X9_isAlarm rfl rfl rfl (by decide +kernel) ⟨(Nat.le_of_ble_eq_true rfl), (Nat.le_of_ble_eq_true rfl)⟩) [] [0] rfl rfl (by decide) 9 0 rfl rfl rfl hl.1 rfl (Nat.le_of_ble_eq_true rfl) dX9_odds_2 ⟨(Nat.le_of_ble_eq_true rfl), (Nat.le_of_ble_eq_true rfl)⟩) (fun r_1 h_2 => ?_)
  subst h_2
  refine lv_if_eq (tgt := 17) hx hb dX9_odds_5 (by decide) (fun _ => ?_) (fun c_ => absurd c_ (by decide))
  refine lv_iconst (v := (-1)) hx hb dX9_odds_17 (by decide) ?_
  exact W.iret (v := (-1)) hx hb hr (fun t ht hW => ⟨(-1), rfl, rfl, ht⟩) (fun q h => by cases h) dX9_odds_18

set_option maxHeartbeats 4000000 in
set_option maxRecDepth 100000 in
theorem k_X9_caseOf (l : Launch) (D : va_G) (h0 : Nat) (b1 : Nat) (b2 : Nat) (b3 : Nat) (b4 : Nat) (b5 : Nat) (b6 : Nat) (b7 : Nat) (b8 : Nat) (b9 : Nat) (b10 : Nat) (b11 : Nat) (b12 : Nat) (b13 : Nat) (b14 : Nat) (b15 : Nat) (b16 : Nat) (b17 : Nat) (b18 : Nat) (b19 : Nat) (b20 : Nat) (b21 : Nat) (b22 : Nat) (b23 : Nat) (b24 : Nat) (b25 : Nat) (p0 : Int32) (p1 : Int32) : Met l yX9_caseOf wsX9_caseOf ({ frames := 2, cells := 0, slots := 0, locals := 43 }) (va_Pc [.ref h0, .int p0, .int p1] (wo D [] [(h0, .inr (9, [.int 0, .int 0, .int 0, .int 0, .int 50, .int 3, .int 0, .ref b1, .ref b2, .ref b3, .ref b4, .ref b5, .ref b6, .ref b7, .ref b8, .ref b9, .ref b10, .ref b11, .ref b12, .ref b13, .ref b14, .ref b15, .ref b16, .ref b17, .ref b18, .int 0, .int 0, .int 0, .ref b19, .ref b20, .ref b21, .int 0, .ref b22, .ref b23, .int 0, .ref b24, .ref b25]))])) (vp_Si (fun r => r = -1)) 0 0 (fun _ => False) := by
  refine Met.ofW (cc := cX9_caseOf) (maxL := 5) (ret := (some .int)) (by decide) rfl ?_
  intro p e s m args below meth c s₁ B hml hv
  obtain ⟨rfl, hP, hK, hD, hN⟩ := hv
  have hx := B.exec
  have hb := B.bytes
  have hr := B.returns
  have hts := atoms_spec (ws := wsX9_caseOf) B.pre
  have hown : s.vm.findClass RX9 = some m.cls := findClass_of_methodNamed B.named
  have hlocks := B.notSynchronized
  have hl := lv_entry ([.ref h0, .int p0, .int p1]) (n := 5) (Nat.le_of_ble_eq_true rfl)
  rw [lg_entry_eq]
  generalize (lg_sl ([.ref h0, .int p0, .int p1]) ++ List.replicate (5 - (lg_sl ([.ref h0, .int p0, .int p1])).length) Slot.unset).toArray = ls at hl ⊢
  have hl : lv_has ls 5 [(0, .ref h0), (1, .int p0), (2, .int p1)] := hl
  refine lv_aload_n hx hb dX9_caseOf_0 rfl (lv_at hl 0 rfl) ?_
  refine lv_iload_n hx hb dX9_caseOf_1 rfl (lv_at hl 1 rfl) ?_
  refine vp_callSi (zrV (As := [.int p0]) (rest := []) (wc := [(h0, .inr (9, [.int 0, .int 0, .int 0, .int 0, .int 50, .int 3, .int 0, .ref b1, .ref b2, .ref b3, .ref b4, .ref b5, .ref b6, .ref b7, .ref b8, .ref b9, .ref b10, .ref b11, .ref b12, .ref b13, .ref b14, .ref b15, .ref b16, .ref b17, .ref b18, .int 0, .int 0, .int 0, .ref b19, .ref b20, .ref b21, .int 0, .ref b22, .ref b23, .int 0, .ref b24, .ref b25]))]) ⟨hx, hb, hml, hown, hts⟩ hN hK hP hD (k_X9_isAlarm l D h0 b1 b2 b3 b4 b5 b6 b7 b8 b9 b10 b11 b12 b13 b14 b15 b16 b17 b18 b19 b20 b21 b22 b23 b24 b25 p0 ) (cwV 1 hts gX9_caseOf_X9_isAlarm rfl rfl rfl (by decide +kernel) ⟨(Nat.le_of_ble_eq_true rfl), (Nat.le_of_ble_eq_true rfl)⟩) [] [0] rfl rfl (by decide) 9 0 rfl rfl rfl hl.1 rfl (Nat.le_of_ble_eq_true rfl) dX9_caseOf_2 ⟨(Nat.le_of_ble_eq_true rfl), (Nat.le_of_ble_eq_true rfl)⟩) (fun r_1 h_2 => ?_)
  subst h_2
  refine lv_if_ne (tgt := 10) hx hb dX9_caseOf_5 (by decide) (fun c_ => absurd c_ (by decide)) (fun _ => ?_)
  refine lv_iconst (v := (-1)) hx hb dX9_caseOf_8 (by decide) ?_
  exact W.iret (v := (-1)) hx hb hr (fun t ht hW => ⟨(-1), rfl, rfl, ht⟩) (fun q h => by cases h) dX9_caseOf_9

set_option maxHeartbeats 4000000 in
set_option maxRecDepth 100000 in
theorem k_X9_slow (l : Launch) (D : va_G) (h0 : Nat) (b1 : Nat) (b2 : Nat) (b3 : Nat) (b4 : Nat) (b5 : Nat) (b6 : Nat) (b7 : Nat) (b8 : Nat) (b9 : Nat) (b10 : Nat) (b11 : Nat) (b12 : Nat) (b13 : Nat) (b14 : Nat) (b15 : Nat) (b16 : Nat) (b17 : Nat) (b18 : Nat) (b19 : Nat) (b20 : Nat) (b21 : Nat) (b22 : Nat) (b23 : Nat) (b24 : Nat) (b25 : Nat) (p0 : Int32) : Met l yX9_slow wsX9_slow ({ frames := 1, cells := 0, slots := 0, locals := 22 }) (va_Pc [.ref h0, .int p0] (wo D [] [(h0, .inr (9, [.int 0, .int 0, .int 0, .int 0, .int 50, .int 3, .int 0, .ref b1, .ref b2, .ref b3, .ref b4, .ref b5, .ref b6, .ref b7, .ref b8, .ref b9, .ref b10, .ref b11, .ref b12, .ref b13, .ref b14, .ref b15, .ref b16, .ref b17, .ref b18, .int 0, .int 0, .int 0, .ref b19, .ref b20, .ref b21, .int 0, .ref b22, .ref b23, .int 0, .ref b24, .ref b25]))])) (vp_Si (fun r => r = -1)) 0 0 (fun _ => False) := by
  refine Met.ofW (cc := cX9_slow) (maxL := 5) (ret := (some .int)) (by decide) rfl ?_
  intro p e s m args below meth c s₁ B hml hv
  obtain ⟨rfl, hP, hK, hD, hN⟩ := hv
  have hx := B.exec
  have hb := B.bytes
  have hr := B.returns
  have hts := atoms_spec (ws := wsX9_slow) B.pre
  have hown : s.vm.findClass RX9 = some m.cls := findClass_of_methodNamed B.named
  have hlocks := B.notSynchronized
  have hin_X9 : ∀ w ∈ u_ws RX9 TX9 37, w ∈ wsX9_slow := by decide +kernel
  have hl := lv_entry ([.ref h0, .int p0]) (n := 5) (Nat.le_of_ble_eq_true rfl)
  rw [lg_entry_eq]
  generalize (lg_sl ([.ref h0, .int p0]) ++ List.replicate (5 - (lg_sl ([.ref h0, .int p0])).length) Slot.unset).toArray = ls at hl ⊢
  have hl : lv_has ls 5 [(0, .ref h0), (1, .int p0)] := hl
  refine lv_iload_n hx hb dX9_slow_0 rfl (lv_at hl 1 rfl) ?_
  refine lv_iconst (v := 0) hx hb dX9_slow_1 (by decide) ?_
  refine lv_bipush (v := 39) hx hb dX9_slow_2 (by decide) ?_
  refine vp_callSi (zrS (As := [.int p0, .int 0, .int 39]) (rest := []) (wc := []) ⟨hx, hb, hml, hown, hts⟩ hN hK hP hD (k_X9_isIn l D p0 0 39 ) (va_cwS 3 hts gX9_slow_X9_isIn rfl rfl rfl (by decide +kernel) ⟨(Nat.le_of_ble_eq_true rfl), (Nat.le_of_ble_eq_true rfl)⟩) [] [] rfl rfl (by decide) rfl hl.1 rfl (Nat.le_of_ble_eq_true rfl) dX9_slow_4 ⟨(Nat.le_of_ble_eq_true rfl), (Nat.le_of_ble_eq_true rfl)⟩) (fun r_1 h_2 => ?_)
  rcases h_2 with ⟨h_2, rfl⟩ | ⟨h_2, rfl⟩
  · have h_2 : 0 ≤ (p0).toInt ∧ (p0).toInt ≤ 39 := h_2
    refine lv_if_ne (tgt := 12) hx hb dX9_slow_7 (by decide) (fun _ => ?_) (fun c_ => absurd c_ (by decide))
    refine lv_iconst (v := 0) hx hb dX9_slow_12 (by decide) ?_
    refine lv_istore_n (lv' := [(2, .int 0), (0, .ref h0), (1, .int p0)]) hx hb dX9_slow_13 rfl hl (by decide) rfl (fun ls hl => ?_)
    refine lv_iconst (v := 0) hx hb dX9_slow_14 (by decide) ?_
    refine lv_istore_n (lv' := [(3, .int 0), (2, .int 0), (0, .ref h0), (1, .int p0)]) hx hb dX9_slow_15 rfl hl (by decide) rfl (fun ls hl => ?_)
    refine lv_iload_n hx hb dX9_slow_16 rfl (lv_at hl 0 rfl) ?_
    refine lv_aload_n hx hb dX9_slow_17 rfl (lv_at hl 2 rfl) ?_
    refine va_get (D := D) (ci := 9) (v := .int 0) (C := RX9) (T := TX9) (N := 37) hx hb hts hin_X9 hown hK hP 0 rfl rfl 1 (by decide) (hts (.fieldLink RX9 93 "CryOrderModel" "alarms" "I") (by decide +kernel)) (fun _ h9 => h9) rfl dX9_slow_18 ?_
    refine lv_icmp_ge (tgt := 90) hx hb dX9_slow_21 (by decide) (fun _ => ?_) (fun c_ => absurd c_ (by decide))
    refine lv_iload_n hx hb dX9_slow_90 rfl (lv_at hl 1 rfl) ?_
    refine lv_sipush (v := 30000) hx hb dX9_slow_91 (by decide) ?_
    refine lv_icmp_le (tgt := 101) hx hb dX9_slow_94 (by decide) (fun _ => ?_) (fun c_ => absurd c_ (by decide))
    refine lv_iconst (v := (-1)) hx hb dX9_slow_101 (by decide) ?_
    exact W.iret (v := (-1)) hx hb hr (fun t ht hW => ⟨(-1), rfl, rfl, ht⟩) (fun q h => by cases h) dX9_slow_102
  · have h_2 : (p0).toInt < 0 ∨ 39 < (p0).toInt := h_2
    refine lv_if_ne (tgt := 12) hx hb dX9_slow_7 (by decide) (fun c_ => absurd c_ (by decide)) (fun _ => ?_)
    refine lv_iconst (v := (-1)) hx hb dX9_slow_10 (by decide) ?_
    exact W.iret (v := (-1)) hx hb hr (fun t ht hW => ⟨(-1), rfl, rfl, ht⟩) (fun q h => by cases h) dX9_slow_11

set_option maxHeartbeats 4000000 in
set_option maxRecDepth 100000 in
theorem k_X9_source (l : Launch) (D : va_G) (h0 : Nat) (b1 : Nat) (b2 : Nat) (b3 : Nat) (b4 : Nat) (b5 : Nat) (b6 : Nat) (b7 : Nat) (b8 : Nat) (b9 : Nat) (b10 : Nat) (b11 : Nat) (b12 : Nat) (b13 : Nat) (b14 : Nat) (b15 : Nat) (b16 : Nat) (b17 : Nat) (b18 : Nat) (b19 : Nat) (b20 : Nat) (b21 : Nat) (b22 : Nat) (b23 : Nat) (b24 : Nat) (b25 : Nat) (p0 : Int32) (p1 : Int32) : Met l yX9_source wsX9_source ({ frames := 1, cells := 0, slots := 0, locals := 22 }) (va_Pc [.ref h0, .int p0, .int p1] (wo D [] [(h0, .inr (9, [.int 0, .int 0, .int 0, .int 0, .int 50, .int 3, .int 0, .ref b1, .ref b2, .ref b3, .ref b4, .ref b5, .ref b6, .ref b7, .ref b8, .ref b9, .ref b10, .ref b11, .ref b12, .ref b13, .ref b14, .ref b15, .ref b16, .ref b17, .ref b18, .int 0, .int 0, .int 0, .ref b19, .ref b20, .ref b21, .int 0, .ref b22, .ref b23, .int 0, .ref b24, .ref b25]))])) (vp_Si (fun r => r = F_source p0 p1)) 0 0 (fun _ => False) := by
  refine Met.ofW (cc := cX9_source) (maxL := 6) (ret := (some .int)) (by decide) rfl ?_
  intro p e s m args below meth c s₁ B hml hv
  obtain ⟨rfl, hP, hK, hD, hN⟩ := hv
  have hx := B.exec
  have hb := B.bytes
  have hr := B.returns
  have hts := atoms_spec (ws := wsX9_source) B.pre
  have hown : s.vm.findClass RX9 = some m.cls := findClass_of_methodNamed B.named
  have hlocks := B.notSynchronized
  have hin_X9 : ∀ w ∈ u_ws RX9 TX9 37, w ∈ wsX9_source := by decide +kernel
  have hl := lv_entry ([.ref h0, .int p0, .int p1]) (n := 6) (Nat.le_of_ble_eq_true rfl)
  rw [lg_entry_eq]
  generalize (lg_sl ([.ref h0, .int p0, .int p1]) ++ List.replicate (6 - (lg_sl ([.ref h0, .int p0, .int p1])).length) Slot.unset).toArray = ls at hl ⊢
  have hl : lv_has ls 6 [(0, .ref h0), (1, .int p0), (2, .int p1)] := hl
  refine lv_iload_n hx hb dX9_source_0 rfl (lv_at hl 1 rfl) ?_
  refine lv_iconst (v := 0) hx hb dX9_source_1 (by decide) ?_
  refine lv_bipush (v := 9) hx hb dX9_source_2 (by decide) ?_
  refine vp_callSi (zrS (As := [.int p0, .int 0, .int 9]) (rest := []) (wc := []) ⟨hx, hb, hml, hown, hts⟩ hN hK hP hD (k_X9_isIn l D p0 0 9 ) (va_cwS 3 hts gX9_source_X9_isIn rfl rfl rfl (by decide +kernel) ⟨(Nat.le_of_ble_eq_true rfl), (Nat.le_of_ble_eq_true rfl)⟩) [] [] rfl rfl (by decide) rfl hl.1 rfl (Nat.le_of_ble_eq_true rfl) dX9_source_4 ⟨(Nat.le_of_ble_eq_true rfl), (Nat.le_of_ble_eq_true rfl)⟩) (fun r_1 h_2 => ?_)
  rcases h_2 with ⟨h_2, rfl⟩ | ⟨h_2, rfl⟩
  · have h_2 : 0 ≤ (p0).toInt ∧ (p0).toInt ≤ 9 := h_2
    refine lv_if_eq (tgt := 20) hx hb dX9_source_7 (by decide) (fun c_ => absurd c_ (by decide)) (fun _ => ?_)
    refine lv_iload_n hx hb dX9_source_10 rfl (lv_at hl 2 rfl) ?_
    refine lv_iconst (v := 0) hx hb dX9_source_11 (by decide) ?_
    refine lv_bipush (v := 6) hx hb dX9_source_12 (by decide) ?_
    refine vp_callSi (zrS (As := [.int p1, .int 0, .int 6]) (rest := []) (wc := []) ⟨hx, hb, hml, hown, hts⟩ hN hK hP hD (k_X9_isIn l D p1 0 6 ) (va_cwS 3 hts gX9_source_X9_isIn rfl rfl rfl (by decide +kernel) ⟨(Nat.le_of_ble_eq_true rfl), (Nat.le_of_ble_eq_true rfl)⟩) [] [] rfl rfl (by decide) rfl hl.1 rfl (Nat.le_of_ble_eq_true rfl) dX9_source_14 ⟨(Nat.le_of_ble_eq_true rfl), (Nat.le_of_ble_eq_true rfl)⟩) (fun r_3 h_4 => ?_)
    rcases h_4 with ⟨h_4, rfl⟩ | ⟨h_4, rfl⟩
    · have h_4 : 0 ≤ (p1).toInt ∧ (p1).toInt ≤ 6 := h_4
      refine lv_if_ne (tgt := 22) hx hb dX9_source_17 (by decide) (fun _ => ?_) (fun c_ => absurd c_ (by decide))
      refine lv_iconst (v := 0) hx hb dX9_source_22 (by decide) ?_
      refine lv_istore_n (lv' := [(3, .int 0), (0, .ref h0), (1, .int p0), (2, .int p1)]) hx hb dX9_source_23 rfl hl (by decide) rfl (fun ls hl => ?_)
      refine lv_iconst (v := 0) hx hb dX9_source_24 (by decide) ?_
      refine lv_istore (lv' := [(4, .int 0), (3, .int 0), (0, .ref h0), (1, .int p0), (2, .int p1)]) hx hb dX9_source_25 hl (by decide) rfl (fun ls hl => ?_)
      refine lv_iload hx hb dX9_source_27 (lv_at hl 0 rfl) ?_
      refine lv_aload_n hx hb dX9_source_29 rfl (lv_at hl 2 rfl) ?_
      refine va_get (D := D) (ci := 9) (v := .int 0) (C := RX9) (T := TX9) (N := 37) hx hb hts hin_X9 hown hK hP 0 rfl rfl 1 (by decide) (hts (.fieldLink RX9 93 "CryOrderModel" "alarms" "I") (by decide +kernel)) (fun _ h9 => h9) rfl dX9_source_30 ?_
      refine lv_icmp_ge (tgt := 197) hx hb dX9_source_33 (by decide) (fun _ => ?_) (fun c_ => absurd c_ (by decide))
      refine lv_iload_n hx hb dX9_source_197 rfl (lv_at hl 1 rfl) ?_
      exact W.iret (v := 0) hx hb hr (fun t ht hW => ⟨0, rfl, (by unfold F_source; first | exact (if_pos (by omega)).symm | exact (if_neg (by omega)).symm), ht⟩) (fun q h => by cases h) dX9_source_198
    · have h_4 : (p1).toInt < 0 ∨ 6 < (p1).toInt := h_4
      refine lv_if_ne (tgt := 22) hx hb dX9_source_17 (by decide) (fun c_ => absurd c_ (by decide)) (fun _ => ?_)
      refine lv_iconst (v := (-1)) hx hb dX9_source_20 (by decide) ?_
      exact W.iret (v := (-1)) hx hb hr (fun t ht hW => ⟨(-1), rfl, (by unfold F_source; first | exact (if_pos (by omega)).symm | exact (if_neg (by omega)).symm), ht⟩) (fun q h => by cases h) dX9_source_21
  · have h_2 : (p0).toInt < 0 ∨ 9 < (p0).toInt := h_2
    refine lv_if_eq (tgt := 20) hx hb dX9_source_7 (by decide) (fun _ => ?_) (fun c_ => absurd c_ (by decide))
    refine lv_iconst (v := (-1)) hx hb dX9_source_20 (by decide) ?_
    exact W.iret (v := (-1)) hx hb hr (fun t ht hW => ⟨(-1), rfl, (by unfold F_source; first | exact (if_pos (by omega)).symm | exact (if_neg (by omega)).symm), ht⟩) (fun q h => by cases h) dX9_source_21

set_option maxHeartbeats 4000000 in
set_option maxRecDepth 100000 in
theorem k_X9_node (l : Launch) (D : va_G) (sz : Nat) (h0 : Nat) (b1 : Nat) (b2 : Nat) (b3 : Nat) (b4 : Nat) (b5 : Nat) (b6 : Nat) (b7 : Nat) (b8 : Nat) (b9 : Nat) (b10 : Nat) (b11 : Nat) (b12 : Nat) (b13 : Nat) (b14 : Nat) (b15 : Nat) (b16 : Nat) (b17 : Nat) (b18 : Nat) (b19 : Nat) (b20 : Nat) (b21 : Nat) (b22 : Nat) (b23 : Nat) (b24 : Nat) (b25 : Nat) (p0 : Int32) (p1 : Int32) (p2 : Int32) : Met l yX9_node wsX9_node ({ frames := 1, cells := 0, slots := 0, locals := 24 }) (va_Pc [.ref h0, .int p0, .int p1, .int p2] (wz sz D [] [(h0, .inr (9, [.int 0, .int 0, .int 0, .int 0, .int 50, .int 3, .int 0, .ref b1, .ref b2, .ref b3, .ref b4, .ref b5, .ref b6, .ref b7, .ref b8, .ref b9, .ref b10, .ref b11, .ref b12, .ref b13, .ref b14, .ref b15, .ref b16, .ref b17, .ref b18, .int 0, .int 0, .int 0, .ref b19, .ref b20, .ref b21, .int 0, .ref b22, .ref b23, .int 0, .ref b24, .ref b25]))])) (va_Qi (fun (r : Int32) (_ : Unit) => r = F_node p0 p1 p2) (fun _ t => wp D [] (va_A [(h0, .inr (9, [.int 0, .int 0, .int 0, .int 0, .int 50, .int 3, .int 0, .ref b1, .ref b2, .ref b3, .ref b4, .ref b5, .ref b6, .ref b7, .ref b8, .ref b9, .ref b10, .ref b11, .ref b12, .ref b13, .ref b14, .ref b15, .ref b16, .ref b17, .ref b18, .int 0, .int 0, .int 0, .ref b19, .ref b20, .ref b21, .int 0, .ref b22, .ref b23, .int 0, .ref b24, .ref b25]))] sz) [] t) (va_A [(h0, .inr (9, [.int 0, .int 0, .int 0, .int 0, .int 50, .int 3, .int 0, .ref b1, .ref b2, .ref b3, .ref b4, .ref b5, .ref b6, .ref b7, .ref b8, .ref b9, .ref b10, .ref b11, .ref b12, .ref b13, .ref b14, .ref b15, .ref b16, .ref b17, .ref b18, .int 0, .int 0, .int 0, .ref b19, .ref b20, .ref b21, .int 0, .ref b22, .ref b23, .int 0, .ref b24, .ref b25]))] sz)) 0 0 (va_A [(h0, .inr (9, [.int 0, .int 0, .int 0, .int 0, .int 50, .int 3, .int 0, .ref b1, .ref b2, .ref b3, .ref b4, .ref b5, .ref b6, .ref b7, .ref b8, .ref b9, .ref b10, .ref b11, .ref b12, .ref b13, .ref b14, .ref b15, .ref b16, .ref b17, .ref b18, .int 0, .int 0, .int 0, .ref b19, .ref b20, .ref b21, .int 0, .ref b22, .ref b23, .int 0, .ref b24, .ref b25]))] sz) := by
  refine Met.ofW (cc := cX9_node) (maxL := 4) (ret := (some .int)) (by decide) rfl ?_
  intro p e s m args below meth c s₁ B hml hv
  obtain ⟨rfl, hsz, hP, hK, hD0, hN⟩ := hv
  have hx := B.exec
  have hb := B.bytes
  have hr := B.returns
  have hts := atoms_spec (ws := wsX9_node) B.pre
  have hown : s.vm.findClass RX9 = some m.cls := findClass_of_methodNamed B.named
  have hlocks := B.notSynchronized
  subst hsz
  have hD := hD0.self (sz := s.heap.size)
  generalize hAe : va_A [(h0, .inr (9, [.int 0, .int 0, .int 0, .int 0, .int 50, .int 3, .int 0, .ref b1, .ref b2, .ref b3, .ref b4, .ref b5, .ref b6, .ref b7, .ref b8, .ref b9, .ref b10, .ref b11, .ref b12, .ref b13, .ref b14, .ref b15, .ref b16, .ref b17, .ref b18, .int 0, .int 0, .int 0, .ref b19, .ref b20, .ref b21, .int 0, .ref b22, .ref b23, .int 0, .ref b24, .ref b25]))] s.heap.size = A at hD ⊢
  have hA : ∀ q : Nat, s.heap.size ≤ q → A q := fun q h => by rw [← hAe]; exact Or.inr h
  have hS : va_S A s.heap s.heap [] := va_S.rf
  have hin_X9 : ∀ w ∈ u_ws RX9 TX9 37, w ∈ wsX9_node := by decide +kernel
  have hl := lv_entry ([.ref h0, .int p0, .int p1, .int p2]) (n := 4) (Nat.le_of_ble_eq_true rfl)
  rw [lg_entry_eq]
  generalize (lg_sl ([.ref h0, .int p0, .int p1, .int p2]) ++ List.replicate (4 - (lg_sl ([.ref h0, .int p0, .int p1, .int p2])).length) Slot.unset).toArray = ls at hl ⊢
  have hl : lv_has ls 4 [(0, .ref h0), (1, .int p0), (2, .int p1), (3, .int p2)] := hl
  refine lv_iload_n hx hb dX9_node_0 rfl (lv_at hl 1 rfl) ?_
  refine lv_iconst (v := 0) hx hb dX9_node_1 (by decide) ?_
  refine lv_iconst (v := 4) hx hb dX9_node_2 (by decide) ?_
  refine vp_callSi (zrS (As := [.int p0, .int 0, .int 4]) (rest := []) (wc := []) ⟨hx, hb, hml, hown, hts⟩ hN hK hP hD (k_X9_isIn l D p0 0 4 ) (va_cwS 3 hts gX9_node_X9_isIn rfl rfl rfl (by decide +kernel) ⟨(Nat.le_of_ble_eq_true rfl), (Nat.le_of_ble_eq_true rfl)⟩) [] [] rfl rfl (by decide) rfl hl.1 rfl (Nat.le_of_ble_eq_true rfl) dX9_node_3 ⟨(Nat.le_of_ble_eq_true rfl), (Nat.le_of_ble_eq_true rfl)⟩) (fun r_1 h_2 => ?_)
  rcases h_2 with ⟨h_2, rfl⟩ | ⟨h_2, rfl⟩
  · have h_2 : 0 ≤ (p0).toInt ∧ (p0).toInt ≤ 4 := h_2
    refine lv_if_eq (tgt := 20) hx hb dX9_node_6 (by decide) (fun c_ => absurd c_ (by decide)) (fun _ => ?_)
    refine lv_iload_n hx hb dX9_node_9 rfl (lv_at hl 2 rfl) ?_
    refine lv_iconst (v := 0) hx hb dX9_node_10 (by decide) ?_
    refine lv_sipush (v := 4095) hx hb dX9_node_11 (by decide) ?_
    refine vp_callSi (zrS (As := [.int p1, .int 0, .int 4095]) (rest := []) (wc := []) ⟨hx, hb, hml, hown, hts⟩ hN hK hP hD (k_X9_isIn l D p1 0 4095 ) (va_cwS 3 hts gX9_node_X9_isIn rfl rfl rfl (by decide +kernel) ⟨(Nat.le_of_ble_eq_true rfl), (Nat.le_of_ble_eq_true rfl)⟩) [] [] rfl rfl (by decide) rfl hl.1 rfl (Nat.le_of_ble_eq_true rfl) dX9_node_14 ⟨(Nat.le_of_ble_eq_true rfl), (Nat.le_of_ble_eq_true rfl)⟩) (fun r_3 h_4 => ?_)
    rcases h_4 with ⟨h_4, rfl⟩ | ⟨h_4, rfl⟩
    · have h_4 : 0 ≤ (p1).toInt ∧ (p1).toInt ≤ 4095 := h_4
      refine lv_if_ne (tgt := 22) hx hb dX9_node_17 (by decide) (fun _ => ?_) (fun c_ => absurd c_ (by decide))
      refine lv_aload_n hx hb dX9_node_22 rfl (lv_at hl 0 rfl) ?_
      refine lv_iload_n hx hb dX9_node_23 rfl (lv_at hl 1 rfl) ?_
      refine lv_iload_n hx hb dX9_node_24 rfl (lv_at hl 2 rfl) ?_
      refine va_callv (zwV (As := [.int p0, .int p1]) (rest := []) (wc := [(h0, .inr (9, [.int 0, .int 0, .int 0, .int 0, .int 50, .int 3, .int 0, .ref b1, .ref b2, .ref b3, .ref b4, .ref b5, .ref b6, .ref b7, .ref b8, .ref b9, .ref b10, .ref b11, .ref b12, .ref b13, .ref b14, .ref b15, .ref b16, .ref b17, .ref b18, .int 0, .int 0, .int 0, .ref b19, .ref b20, .ref b21, .int 0, .ref b22, .ref b23, .int 0, .ref b24, .ref b25]))]) ⟨hx, hb, hml, hown, hts⟩ hN hK hP hD (k_X9_counts l D s.heap.size h0 b1 b2 b3 b4 b5 b6 b7 b8 b9 b10 b11 b12 b13 b14 b15 b16 b17 b18 b19 b20 b21 b22 b23 b24 b25 p0 p1 ) (cwV 2 hts gX9_node_X9_counts rfl rfl rfl (by decide +kernel) ⟨(Nat.le_of_ble_eq_true rfl), (Nat.le_of_ble_eq_true rfl)⟩) [] [0] rfl rfl (by decide) 9 0 rfl rfl rfl hl.1 rfl (Nat.le_of_ble_eq_true rfl) dX9_node_25 ⟨(Nat.le_of_ble_eq_true rfl), (Nat.le_of_ble_eq_true rfl)⟩) hS (fun q _ h => va_free (wc := [(h0, .inr (9, [.int 0, .int 0, .int 0, .int 0, .int 50, .int 3, .int 0, .ref b1, .ref b2, .ref b3, .ref b4, .ref b5, .ref b6, .ref b7, .ref b8, .ref b9, .ref b10, .ref b11, .ref b12, .ref b13, .ref b14, .ref b15, .ref b16, .ref b17, .ref b18, .int 0, .int 0, .int 0, .ref b19, .ref b20, .ref b21, .int 0, .ref b22, .ref b23, .int 0, .ref b24, .ref b25]))]) hD hS hA [0] rfl q h) (va_free (wc := [(h0, .inr (9, [.int 0, .int 0, .int 0, .int 0, .int 50, .int 3, .int 0, .ref b1, .ref b2, .ref b3, .ref b4, .ref b5, .ref b6, .ref b7, .ref b8, .ref b9, .ref b10, .ref b11, .ref b12, .ref b13, .ref b14, .ref b15, .ref b16, .ref b17, .ref b18, .int 0, .int 0, .int 0, .ref b19, .ref b20, .ref b21, .int 0, .ref b22, .ref b23, .int 0, .ref b24, .ref b25]))]) hD hS hA [0] rfl) (fun u t H_5 locs1 ht hvm hw hB hz1 hk1 hS1 => ?_)
      obtain ⟨hP, hD, hK⟩ := zj (wc := [(h0, .inr (9, [.int 0, .int 0, .int 0, .int 0, .int 50, .int 3, .int 0, .ref b1, .ref b2, .ref b3, .ref b4, .ref b5, .ref b6, .ref b7, .ref b8, .ref b9, .ref b10, .ref b11, .ref b12, .ref b13, .ref b14, .ref b15, .ref b16, .ref b17, .ref b18, .int 0, .int 0, .int 0, .ref b19, .ref b20, .ref b21, .int 0, .ref b22, .ref b23, .int 0, .ref b24, .ref b25]))]) (wr := []) (w1 := [(h0, .inr (9, [.int 0, .int 0, .int 0, .int 0, .int 50, .int 3, .int 0, .ref b1, .ref b2, .ref b3, .ref b4, .ref b5, .ref b6, .ref b7, .ref b8, .ref b9, .ref b10, .ref b11, .ref b12, .ref b13, .ref b14, .ref b15, .ref b16, .ref b17, .ref b18, .int 0, .int 0, .int 0, .ref b19, .ref b20, .ref b21, .int 0, .ref b22, .ref b23, .int 0, .ref b24, .ref b25]))]) hK hP hD hS hA [0] [] rfl rfl (by decide) (by decide) hk1 ht hvm hB
      have hS := hS1
      have hP : va_P D vwCl [(h0, .inr (9, [.int 0, .int 0, .int 0, .int 0, .int 50, .int 3, .int 0, .ref b1, .ref b2, .ref b3, .ref b4, .ref b5, .ref b6, .ref b7, .ref b8, .ref b9, .ref b10, .ref b11, .ref b12, .ref b13, .ref b14, .ref b15, .ref b16, .ref b17, .ref b18, .int 0, .int 0, .int 0, .ref b19, .ref b20, .ref b21, .int 0, .ref b22, .ref b23, .int 0, .ref b24, .ref b25]))] H_5 := hP
      have hD : va_D A [(h0, .inr (9, [.int 0, .int 0, .int 0, .int 0, .int 50, .int 3, .int 0, .ref b1, .ref b2, .ref b3, .ref b4, .ref b5, .ref b6, .ref b7, .ref b8, .ref b9, .ref b10, .ref b11, .ref b12, .ref b13, .ref b14, .ref b15, .ref b16, .ref b17, .ref b18, .int 0, .int 0, .int 0, .ref b19, .ref b20, .ref b21, .int 0, .ref b22, .ref b23, .int 0, .ref b24, .ref b25]))] := hD
      have hK : va_K D vwCl [] s := hK
      refine lv_iload_n hx hb dX9_node_28 rfl (lv_at hl 3 rfl) ?_
      refine bz_ne (zx := (p2).toInt) (tgt := 39) hx hb dX9_node_29 (by decide) rfl (fun c_6 => ?_) (fun c_6 => ?_)
      · refine lv_iload_n hx hb dX9_node_39 rfl (lv_at hl 3 rfl) ?_
        refine lv_iconst (v := 1) hx hb dX9_node_40 (by decide) ?_
        refine bi_ne (zx := (p2).toInt) (zy := 1) (tgt := 51) hx hb dX9_node_41 (by decide) rfl (by decide) (fun c_7 => ?_) (fun c_7 => ?_)
        · refine lv_iload_n hx hb dX9_node_51 rfl (lv_at hl 3 rfl) ?_
          refine lv_iconst (v := 2) hx hb dX9_node_52 (by decide) ?_
          refine bi_ne (zx := (p2).toInt) (zy := 2) (tgt := 63) hx hb dX9_node_53 (by decide) rfl (by decide) (fun c_8 => ?_) (fun c_8 => ?_)
          · refine lv_iconst (v := (-1)) hx hb dX9_node_63 (by decide) ?_
            refine W.widen (k := 0) (n := 0) (Nat.le_of_ble_eq_true rfl) (Nat.le_of_ble_eq_true rfl) ?_
            have hP9 := hP.sub (ws' := []) [] rfl
            have hD9 := hD.sub (ws' := []) [] (by decide) rfl
            have hK9 := hK.sub (tys' := []) [] rfl
            exact W.iret (v := (-1)) hx hb hr (fun t ht hW => ⟨⟨(-1), (), rfl, (by unfold F_node; first | exact (if_pos (by omega)).symm | exact (if_neg (by omega)).symm), by rw [ht]; exact hP9, va_K.moved hW.alike hK9, hD9⟩, hS.F ht⟩) hS.2.2 dX9_node_64
          · refine lv_aload_n hx hb dX9_node_56 rfl (lv_at hl 0 rfl) ?_
            refine va_get (D := D) (ci := 9) (v := .int 0) (C := RX9) (T := TX9) (N := 37) hx hb hts hin_X9 hown hK hP 0 rfl rfl 27 (by decide) (hts (.fieldLink RX9 137 "CryOrderModel" "opens" "I") (by decide +kernel)) (fun _ h9 => h9) rfl dX9_node_57 ?_
            refine lv_goto (tgt := 64) hx hb dX9_node_60 (by decide) ?_
            refine W.widen (k := 0) (n := 0) (Nat.le_of_ble_eq_true rfl) (Nat.le_of_ble_eq_true rfl) ?_
            have hP9 := hP.sub (ws' := []) [] rfl
            have hD9 := hD.sub (ws' := []) [] (by decide) rfl
            have hK9 := hK.sub (tys' := []) [] rfl
            exact W.iret (v := 0) hx hb hr (fun t ht hW => ⟨⟨0, (), rfl, (by unfold F_node; first | exact (if_pos (by omega)).symm | exact (if_neg (by omega)).symm), by rw [ht]; exact hP9, va_K.moved hW.alike hK9, hD9⟩, hS.F ht⟩) hS.2.2 dX9_node_64
        · refine lv_aload_n hx hb dX9_node_44 rfl (lv_at hl 0 rfl) ?_
          refine va_get (D := D) (ci := 9) (v := .int 0) (C := RX9) (T := TX9) (N := 37) hx hb hts hin_X9 hown hK hP 0 rfl rfl 26 (by decide) (hts (.fieldLink RX9 134 "CryOrderModel" "settled" "I") (by decide +kernel)) (fun _ h9 => h9) rfl dX9_node_45 ?_
          refine lv_goto (tgt := 64) hx hb dX9_node_48 (by decide) ?_
          refine W.widen (k := 0) (n := 0) (Nat.le_of_ble_eq_true rfl) (Nat.le_of_ble_eq_true rfl) ?_
          have hP9 := hP.sub (ws' := []) [] rfl
          have hD9 := hD.sub (ws' := []) [] (by decide) rfl
          have hK9 := hK.sub (tys' := []) [] rfl
          exact W.iret (v := 0) hx hb hr (fun t ht hW => ⟨⟨0, (), rfl, (by unfold F_node; first | exact (if_pos (by omega)).symm | exact (if_neg (by omega)).symm), by rw [ht]; exact hP9, va_K.moved hW.alike hK9, hD9⟩, hS.F ht⟩) hS.2.2 dX9_node_64
      · refine lv_aload_n hx hb dX9_node_32 rfl (lv_at hl 0 rfl) ?_
        refine va_get (D := D) (ci := 9) (v := .int 0) (C := RX9) (T := TX9) (N := 37) hx hb hts hin_X9 hown hK hP 0 rfl rfl 25 (by decide) (hts (.fieldLink RX9 131 "CryOrderModel" "trues" "I") (by decide +kernel)) (fun _ h9 => h9) rfl dX9_node_33 ?_
        refine lv_goto (tgt := 64) hx hb dX9_node_36 (by decide) ?_
        refine W.widen (k := 0) (n := 0) (Nat.le_of_ble_eq_true rfl) (Nat.le_of_ble_eq_true rfl) ?_
        have hP9 := hP.sub (ws' := []) [] rfl
        have hD9 := hD.sub (ws' := []) [] (by decide) rfl
        have hK9 := hK.sub (tys' := []) [] rfl
        exact W.iret (v := 0) hx hb hr (fun t ht hW => ⟨⟨0, (), rfl, (by unfold F_node; first | exact (if_pos (by omega)).symm | exact (if_neg (by omega)).symm), by rw [ht]; exact hP9, va_K.moved hW.alike hK9, hD9⟩, hS.F ht⟩) hS.2.2 dX9_node_64
    · have h_4 : (p1).toInt < 0 ∨ 4095 < (p1).toInt := h_4
      refine lv_if_ne (tgt := 22) hx hb dX9_node_17 (by decide) (fun c_ => absurd c_ (by decide)) (fun _ => ?_)
      refine lv_iconst (v := (-1)) hx hb dX9_node_20 (by decide) ?_
      refine W.widen (k := 0) (n := 0) (Nat.le_of_ble_eq_true rfl) (Nat.le_of_ble_eq_true rfl) ?_
      have hP9 := hP.sub (ws' := []) [] rfl
      have hD9 := hD.sub (ws' := []) [] (by decide) rfl
      have hK9 := hK.sub (tys' := []) [] rfl
      exact W.iret (v := (-1)) hx hb hr (fun t ht hW => ⟨⟨(-1), (), rfl, (by unfold F_node; first | exact (if_pos (by omega)).symm | exact (if_neg (by omega)).symm), by rw [ht]; exact hP9, va_K.moved hW.alike hK9, hD9⟩, hS.F ht⟩) hS.2.2 dX9_node_21
  · have h_2 : (p0).toInt < 0 ∨ 4 < (p0).toInt := h_2
    refine lv_if_eq (tgt := 20) hx hb dX9_node_6 (by decide) (fun _ => ?_) (fun c_ => absurd c_ (by decide))
    refine lv_iconst (v := (-1)) hx hb dX9_node_20 (by decide) ?_
    refine W.widen (k := 0) (n := 0) (Nat.le_of_ble_eq_true rfl) (Nat.le_of_ble_eq_true rfl) ?_
    have hP9 := hP.sub (ws' := []) [] rfl
    have hD9 := hD.sub (ws' := []) [] (by decide) rfl
    have hK9 := hK.sub (tys' := []) [] rfl
    exact W.iret (v := (-1)) hx hb hr (fun t ht hW => ⟨⟨(-1), (), rfl, (by unfold F_node; first | exact (if_pos (by omega)).symm | exact (if_neg (by omega)).symm), by rw [ht]; exact hP9, va_K.moved hW.alike hK9, hD9⟩, hS.F ht⟩) hS.2.2 dX9_node_21

set_option maxHeartbeats 4000000 in
set_option maxRecDepth 100000 in
theorem k_X9_order (l : Launch) (D : va_G) (sz : Nat) (h0 : Nat) (b1 : Nat) (b2 : Nat) (b3 : Nat) (b4 : Nat) (b5 : Nat) (b6 : Nat) (b7 : Nat) (b8 : Nat) (b9 : Nat) (b10 : Nat) (b11 : Nat) (b12 : Nat) (b13 : Nat) (b14 : Nat) (b15 : Nat) (b16 : Nat) (b17 : Nat) (b18 : Nat) (b19 : Nat) (b20 : Nat) (b21 : Nat) (b22 : Nat) (b23 : Nat) (b24 : Nat) (b25 : Nat) (p0 : Int32) : Met l yX9_order wsX9_order ({ frames := 1, cells := 0, slots := 0, locals := 25 }) (va_Pc [.ref h0, .int p0] (wz sz D [] [(h0, .inr (9, [.int 0, .int 0, .int 0, .int 0, .int 50, .int 3, .int 0, .ref b1, .ref b2, .ref b3, .ref b4, .ref b5, .ref b6, .ref b7, .ref b8, .ref b9, .ref b10, .ref b11, .ref b12, .ref b13, .ref b14, .ref b15, .ref b16, .ref b17, .ref b18, .int 0, .int 0, .int 0, .ref b19, .ref b20, .ref b21, .int 0, .ref b22, .ref b23, .int 0, .ref b24, .ref b25]))])) (va_Qi (fun (r : Int32) (_ : Unit) => r = -1) (fun _ t => wp D [] (va_A [(h0, .inr (9, [.int 0, .int 0, .int 0, .int 0, .int 50, .int 3, .int 0, .ref b1, .ref b2, .ref b3, .ref b4, .ref b5, .ref b6, .ref b7, .ref b8, .ref b9, .ref b10, .ref b11, .ref b12, .ref b13, .ref b14, .ref b15, .ref b16, .ref b17, .ref b18, .int 0, .int 0, .int 0, .ref b19, .ref b20, .ref b21, .int 0, .ref b22, .ref b23, .int 0, .ref b24, .ref b25]))] sz) [] t) (va_A [(h0, .inr (9, [.int 0, .int 0, .int 0, .int 0, .int 50, .int 3, .int 0, .ref b1, .ref b2, .ref b3, .ref b4, .ref b5, .ref b6, .ref b7, .ref b8, .ref b9, .ref b10, .ref b11, .ref b12, .ref b13, .ref b14, .ref b15, .ref b16, .ref b17, .ref b18, .int 0, .int 0, .int 0, .ref b19, .ref b20, .ref b21, .int 0, .ref b22, .ref b23, .int 0, .ref b24, .ref b25]))] sz)) 0 0 (va_A [(h0, .inr (9, [.int 0, .int 0, .int 0, .int 0, .int 50, .int 3, .int 0, .ref b1, .ref b2, .ref b3, .ref b4, .ref b5, .ref b6, .ref b7, .ref b8, .ref b9, .ref b10, .ref b11, .ref b12, .ref b13, .ref b14, .ref b15, .ref b16, .ref b17, .ref b18, .int 0, .int 0, .int 0, .ref b19, .ref b20, .ref b21, .int 0, .ref b22, .ref b23, .int 0, .ref b24, .ref b25]))] sz) := by
  refine Met.ofW (cc := cX9_order) (maxL := 2) (ret := (some .int)) (by decide) rfl ?_
  intro p e s m args below meth c s₁ B hml hv
  obtain ⟨rfl, hsz, hP, hK, hD0, hN⟩ := hv
  have hx := B.exec
  have hb := B.bytes
  have hr := B.returns
  have hts := atoms_spec (ws := wsX9_order) B.pre
  have hown : s.vm.findClass RX9 = some m.cls := findClass_of_methodNamed B.named
  have hlocks := B.notSynchronized
  subst hsz
  have hD := hD0.self (sz := s.heap.size)
  generalize hAe : va_A [(h0, .inr (9, [.int 0, .int 0, .int 0, .int 0, .int 50, .int 3, .int 0, .ref b1, .ref b2, .ref b3, .ref b4, .ref b5, .ref b6, .ref b7, .ref b8, .ref b9, .ref b10, .ref b11, .ref b12, .ref b13, .ref b14, .ref b15, .ref b16, .ref b17, .ref b18, .int 0, .int 0, .int 0, .ref b19, .ref b20, .ref b21, .int 0, .ref b22, .ref b23, .int 0, .ref b24, .ref b25]))] s.heap.size = A at hD ⊢
  have hA : ∀ q : Nat, s.heap.size ≤ q → A q := fun q h => by rw [← hAe]; exact Or.inr h
  have hS : va_S A s.heap s.heap [] := va_S.rf
  have hin_X9 : ∀ w ∈ u_ws RX9 TX9 37, w ∈ wsX9_order := by decide +kernel
  have hl := lv_entry ([.ref h0, .int p0]) (n := 2) (Nat.le_of_ble_eq_true rfl)
  rw [lg_entry_eq]
  generalize (lg_sl ([.ref h0, .int p0]) ++ List.replicate (2 - (lg_sl ([.ref h0, .int p0])).length) Slot.unset).toArray = ls at hl ⊢
  have hl : lv_has ls 2 [(0, .ref h0), (1, .int p0)] := hl
  refine lv_aload_n hx hb dX9_order_0 rfl (lv_at hl 0 rfl) ?_
  refine va_callv (zwV (As := []) (rest := []) (wc := [(h0, .inr (9, [.int 0, .int 0, .int 0, .int 0, .int 50, .int 3, .int 0, .ref b1, .ref b2, .ref b3, .ref b4, .ref b5, .ref b6, .ref b7, .ref b8, .ref b9, .ref b10, .ref b11, .ref b12, .ref b13, .ref b14, .ref b15, .ref b16, .ref b17, .ref b18, .int 0, .int 0, .int 0, .ref b19, .ref b20, .ref b21, .int 0, .ref b22, .ref b23, .int 0, .ref b24, .ref b25]))]) ⟨hx, hb, hml, hown, hts⟩ hN hK hP hD (k_X9_joins l D s.heap.size h0 b1 b2 b3 b4 b5 b6 b7 b8 b9 b10 b11 b12 b13 b14 b15 b16 b17 b18 b19 b20 b21 b22 b23 b24 b25 ) (cwV 0 hts gX9_order_X9_joins rfl rfl rfl (by decide +kernel) ⟨(Nat.le_of_ble_eq_true rfl), (Nat.le_of_ble_eq_true rfl)⟩) [] [0] rfl rfl (by decide) 9 0 rfl rfl rfl hl.1 rfl (Nat.le_of_ble_eq_true rfl) dX9_order_1 ⟨(Nat.le_of_ble_eq_true rfl), (Nat.le_of_ble_eq_true rfl)⟩) hS (fun q _ h => va_free (wc := [(h0, .inr (9, [.int 0, .int 0, .int 0, .int 0, .int 50, .int 3, .int 0, .ref b1, .ref b2, .ref b3, .ref b4, .ref b5, .ref b6, .ref b7, .ref b8, .ref b9, .ref b10, .ref b11, .ref b12, .ref b13, .ref b14, .ref b15, .ref b16, .ref b17, .ref b18, .int 0, .int 0, .int 0, .ref b19, .ref b20, .ref b21, .int 0, .ref b22, .ref b23, .int 0, .ref b24, .ref b25]))]) hD hS hA [0] rfl q h) (va_free (wc := [(h0, .inr (9, [.int 0, .int 0, .int 0, .int 0, .int 50, .int 3, .int 0, .ref b1, .ref b2, .ref b3, .ref b4, .ref b5, .ref b6, .ref b7, .ref b8, .ref b9, .ref b10, .ref b11, .ref b12, .ref b13, .ref b14, .ref b15, .ref b16, .ref b17, .ref b18, .int 0, .int 0, .int 0, .ref b19, .ref b20, .ref b21, .int 0, .ref b22, .ref b23, .int 0, .ref b24, .ref b25]))]) hD hS hA [0] rfl) (fun u t H_1 locs1 ht hvm hw hB hz1 hk1 hS1 => ?_)
  obtain ⟨hP, hD, hK⟩ := zj (wc := [(h0, .inr (9, [.int 0, .int 0, .int 0, .int 0, .int 50, .int 3, .int 0, .ref b1, .ref b2, .ref b3, .ref b4, .ref b5, .ref b6, .ref b7, .ref b8, .ref b9, .ref b10, .ref b11, .ref b12, .ref b13, .ref b14, .ref b15, .ref b16, .ref b17, .ref b18, .int 0, .int 0, .int 0, .ref b19, .ref b20, .ref b21, .int 0, .ref b22, .ref b23, .int 0, .ref b24, .ref b25]))]) (wr := []) (w1 := [(h0, .inr (9, [.int 0, .int 0, .int 0, .int 0, .int 50, .int 3, .int 0, .ref b1, .ref b2, .ref b3, .ref b4, .ref b5, .ref b6, .ref b7, .ref b8, .ref b9, .ref b10, .ref b11, .ref b12, .ref b13, .ref b14, .ref b15, .ref b16, .ref b17, .ref b18, .int 0, .int 0, .int 0, .ref b19, .ref b20, .ref b21, .int 0, .ref b22, .ref b23, .int 0, .ref b24, .ref b25]))]) hK hP hD hS hA [0] [] rfl rfl (by decide) (by decide) hk1 ht hvm hB
  have hS := hS1
  have hP : va_P D vwCl [(h0, .inr (9, [.int 0, .int 0, .int 0, .int 0, .int 50, .int 3, .int 0, .ref b1, .ref b2, .ref b3, .ref b4, .ref b5, .ref b6, .ref b7, .ref b8, .ref b9, .ref b10, .ref b11, .ref b12, .ref b13, .ref b14, .ref b15, .ref b16, .ref b17, .ref b18, .int 0, .int 0, .int 0, .ref b19, .ref b20, .ref b21, .int 0, .ref b22, .ref b23, .int 0, .ref b24, .ref b25]))] H_1 := hP
  have hD : va_D A [(h0, .inr (9, [.int 0, .int 0, .int 0, .int 0, .int 50, .int 3, .int 0, .ref b1, .ref b2, .ref b3, .ref b4, .ref b5, .ref b6, .ref b7, .ref b8, .ref b9, .ref b10, .ref b11, .ref b12, .ref b13, .ref b14, .ref b15, .ref b16, .ref b17, .ref b18, .int 0, .int 0, .int 0, .ref b19, .ref b20, .ref b21, .int 0, .ref b22, .ref b23, .int 0, .ref b24, .ref b25]))] := hD
  have hK : va_K D vwCl [] s := hK
  refine lv_iload_n hx hb dX9_order_4 rfl (lv_at hl 1 rfl) ?_
  refine lv_iconst (v := 0) hx hb dX9_order_5 (by decide) ?_
  refine lv_aload_n hx hb dX9_order_6 rfl (lv_at hl 0 rfl) ?_
  refine va_get (D := D) (ci := 9) (v := .int 0) (C := RX9) (T := TX9) (N := 37) hx hb hts hin_X9 hown hK hP 0 rfl rfl 31 (by decide) (hts (.fieldLink RX9 165 "CryOrderModel" "cases" "I") (by decide +kernel)) (fun _ h9 => h9) rfl dX9_order_7 ?_
  refine lv_iconst (v := 1) hx hb dX9_order_10 (by decide) ?_
  refine lv_isub hx hb dX9_order_11 ?_
  refine lv_tope (z := (-1)) (by decide) ?_
  refine vp_callSi (zrS (As := [.int p0, .int 0, .int (-1)]) (rest := []) (wc := []) ⟨hx, hb, hml, hown, hts⟩ hN hK hP hD (k_X9_isIn l D p0 0 ((-1)) ) (va_cwS 3 hts gX9_order_X9_isIn rfl rfl rfl (by decide +kernel) ⟨(Nat.le_of_ble_eq_true rfl), (Nat.le_of_ble_eq_true rfl)⟩) [] [] rfl rfl (by decide) rfl hl.1 rfl (Nat.le_of_ble_eq_true rfl) dX9_order_12 ⟨(Nat.le_of_ble_eq_true rfl), (Nat.le_of_ble_eq_true rfl)⟩) (fun r_2 h_3 => ?_)
  rcases h_3 with ⟨h_3, rfl⟩ | ⟨h_3, rfl⟩
  · have h_3 : 0 ≤ (p0).toInt ∧ (p0).toInt ≤ (-1) := h_3
    exfalso; omega
  · have h_3 : (p0).toInt < 0 ∨ (-1) < (p0).toInt := h_3
    refine lv_if_eq (tgt := 27) hx hb dX9_order_15 (by decide) (fun _ => ?_) (fun c_ => absurd c_ (by decide))
    refine lv_iconst (v := (-1)) hx hb dX9_order_27 (by decide) ?_
    refine W.widen (k := 0) (n := 0) (Nat.le_of_ble_eq_true rfl) (Nat.le_of_ble_eq_true rfl) ?_
    have hP9 := hP.sub (ws' := []) [] rfl
    have hD9 := hD.sub (ws' := []) [] (by decide) rfl
    have hK9 := hK.sub (tys' := []) [] rfl
    exact W.iret (v := (-1)) hx hb hr (fun t ht hW => ⟨⟨(-1), (), rfl, rfl, by rw [ht]; exact hP9, va_K.moved hW.alike hK9, hD9⟩, hS.F ht⟩) hS.2.2 dX9_order_28

set_option maxHeartbeats 4000000 in
set_option maxRecDepth 100000 in
theorem k_X9_plan (l : Launch) (D : va_G) (sz : Nat) (h0 : Nat) (b1 : Nat) (b2 : Nat) (b3 : Nat) (b4 : Nat) (b5 : Nat) (b6 : Nat) (b7 : Nat) (b8 : Nat) (b9 : Nat) (b10 : Nat) (b11 : Nat) (b12 : Nat) (b13 : Nat) (b14 : Nat) (b15 : Nat) (b16 : Nat) (b17 : Nat) (b18 : Nat) (b19 : Nat) (b20 : Nat) (b21 : Nat) (b22 : Nat) (b23 : Nat) (b24 : Nat) (b25 : Nat) (p0 : Int32) (p1 : Int32) : Met l yX9_plan wsX9_plan ({ frames := 2, cells := 0, slots := 0, locals := 54 }) (va_Pc [.ref h0, .int p0, .int p1] (wz sz D [] [(h0, .inr (9, [.int 0, .int 0, .int 0, .int 0, .int 50, .int 3, .int 0, .ref b1, .ref b2, .ref b3, .ref b4, .ref b5, .ref b6, .ref b7, .ref b8, .ref b9, .ref b10, .ref b11, .ref b12, .ref b13, .ref b14, .ref b15, .ref b16, .ref b17, .ref b18, .int 0, .int 0, .int 0, .ref b19, .ref b20, .ref b21, .int 0, .ref b22, .ref b23, .int 0, .ref b24, .ref b25]))])) (va_Qi (fun (r : Int32) (_ : Unit) => r = F_plan p0 p1) (fun _ t => wp D [] (va_A [(h0, .inr (9, [.int 0, .int 0, .int 0, .int 0, .int 50, .int 3, .int 0, .ref b1, .ref b2, .ref b3, .ref b4, .ref b5, .ref b6, .ref b7, .ref b8, .ref b9, .ref b10, .ref b11, .ref b12, .ref b13, .ref b14, .ref b15, .ref b16, .ref b17, .ref b18, .int 0, .int 0, .int 0, .ref b19, .ref b20, .ref b21, .int 0, .ref b22, .ref b23, .int 0, .ref b24, .ref b25]))] sz) [] t) (va_A [(h0, .inr (9, [.int 0, .int 0, .int 0, .int 0, .int 50, .int 3, .int 0, .ref b1, .ref b2, .ref b3, .ref b4, .ref b5, .ref b6, .ref b7, .ref b8, .ref b9, .ref b10, .ref b11, .ref b12, .ref b13, .ref b14, .ref b15, .ref b16, .ref b17, .ref b18, .int 0, .int 0, .int 0, .ref b19, .ref b20, .ref b21, .int 0, .ref b22, .ref b23, .int 0, .ref b24, .ref b25]))] sz)) 0 0 (va_A [(h0, .inr (9, [.int 0, .int 0, .int 0, .int 0, .int 50, .int 3, .int 0, .ref b1, .ref b2, .ref b3, .ref b4, .ref b5, .ref b6, .ref b7, .ref b8, .ref b9, .ref b10, .ref b11, .ref b12, .ref b13, .ref b14, .ref b15, .ref b16, .ref b17, .ref b18, .int 0, .int 0, .int 0, .ref b19, .ref b20, .ref b21, .int 0, .ref b22, .ref b23, .int 0, .ref b24, .ref b25]))] sz) := by
  refine Met.ofW (cc := cX9_plan) (maxL := 3) (ret := (some .int)) (by decide) rfl ?_
  intro p e s m args below meth c s₁ B hml hv
  obtain ⟨rfl, hsz, hP, hK, hD0, hN⟩ := hv
  have hx := B.exec
  have hb := B.bytes
  have hr := B.returns
  have hts := atoms_spec (ws := wsX9_plan) B.pre
  have hown : s.vm.findClass RX9 = some m.cls := findClass_of_methodNamed B.named
  have hlocks := B.notSynchronized
  subst hsz
  have hD := hD0.self (sz := s.heap.size)
  generalize hAe : va_A [(h0, .inr (9, [.int 0, .int 0, .int 0, .int 0, .int 50, .int 3, .int 0, .ref b1, .ref b2, .ref b3, .ref b4, .ref b5, .ref b6, .ref b7, .ref b8, .ref b9, .ref b10, .ref b11, .ref b12, .ref b13, .ref b14, .ref b15, .ref b16, .ref b17, .ref b18, .int 0, .int 0, .int 0, .ref b19, .ref b20, .ref b21, .int 0, .ref b22, .ref b23, .int 0, .ref b24, .ref b25]))] s.heap.size = A at hD ⊢
  have hA : ∀ q : Nat, s.heap.size ≤ q → A q := fun q h => by rw [← hAe]; exact Or.inr h
  have hS : va_S A s.heap s.heap [] := va_S.rf
  have hin_X9 : ∀ w ∈ u_ws RX9 TX9 37, w ∈ wsX9_plan := by decide +kernel
  have hl := lv_entry ([.ref h0, .int p0, .int p1]) (n := 3) (Nat.le_of_ble_eq_true rfl)
  rw [lg_entry_eq]
  generalize (lg_sl ([.ref h0, .int p0, .int p1]) ++ List.replicate (3 - (lg_sl ([.ref h0, .int p0, .int p1])).length) Slot.unset).toArray = ls at hl ⊢
  have hl : lv_has ls 3 [(0, .ref h0), (1, .int p0), (2, .int p1)] := hl
  refine lv_iload_n hx hb dX9_plan_0 rfl (lv_at hl 1 rfl) ?_
  refine vp_callSi (zrS (As := [.int p0]) (rest := []) (wc := []) ⟨hx, hb, hml, hown, hts⟩ hN hK hP hD (k_X9_isPlan l D p0 ) (va_cwS 1 hts gX9_plan_X9_isPlan rfl rfl rfl (by decide +kernel) ⟨(Nat.le_of_ble_eq_true rfl), (Nat.le_of_ble_eq_true rfl)⟩) [] [] rfl rfl (by decide) rfl hl.1 rfl (Nat.le_of_ble_eq_true rfl) dX9_plan_1 ⟨(Nat.le_of_ble_eq_true rfl), (Nat.le_of_ble_eq_true rfl)⟩) (fun r_1 h_2 => ?_)
  rcases h_2 with ⟨h_2, rfl⟩ | ⟨h_2, rfl⟩
  · have h_2 : 0 ≤ (p0).toInt ∧ (p0).toInt ≤ 300 := h_2
    refine lv_if_ne (tgt := 9) hx hb dX9_plan_4 (by decide) (fun _ => ?_) (fun c_ => absurd c_ (by decide))
    refine lv_aload_n hx hb dX9_plan_9 rfl (lv_at hl 0 rfl) ?_
    refine lv_iload_n hx hb dX9_plan_10 rfl (lv_at hl 1 rfl) ?_
    refine va_callv (zwV (As := [.int p0]) (rest := []) (wc := [(h0, .inr (9, [.int 0, .int 0, .int 0, .int 0, .int 50, .int 3, .int 0, .ref b1, .ref b2, .ref b3, .ref b4, .ref b5, .ref b6, .ref b7, .ref b8, .ref b9, .ref b10, .ref b11, .ref b12, .ref b13, .ref b14, .ref b15, .ref b16, .ref b17, .ref b18, .int 0, .int 0, .int 0, .ref b19, .ref b20, .ref b21, .int 0, .ref b22, .ref b23, .int 0, .ref b24, .ref b25]))]) ⟨hx, hb, hml, hown, hts⟩ hN hK hP hD (k_X9_plans l D s.heap.size h0 b1 b2 b3 b4 b5 b6 b7 b8 b9 b10 b11 b12 b13 b14 b15 b16 b17 b18 b19 b20 b21 b22 b23 b24 b25 p0 ) (cwV 1 hts gX9_plan_X9_plans rfl rfl rfl (by decide +kernel) ⟨(Nat.le_of_ble_eq_true rfl), (Nat.le_of_ble_eq_true rfl)⟩) [] [0] rfl rfl (by decide) 9 0 rfl rfl rfl hl.1 rfl (Nat.le_of_ble_eq_true rfl) dX9_plan_11 ⟨(Nat.le_of_ble_eq_true rfl), (Nat.le_of_ble_eq_true rfl)⟩) hS (fun q _ h => va_free (wc := [(h0, .inr (9, [.int 0, .int 0, .int 0, .int 0, .int 50, .int 3, .int 0, .ref b1, .ref b2, .ref b3, .ref b4, .ref b5, .ref b6, .ref b7, .ref b8, .ref b9, .ref b10, .ref b11, .ref b12, .ref b13, .ref b14, .ref b15, .ref b16, .ref b17, .ref b18, .int 0, .int 0, .int 0, .ref b19, .ref b20, .ref b21, .int 0, .ref b22, .ref b23, .int 0, .ref b24, .ref b25]))]) hD hS hA [0] rfl q h) (va_free (wc := [(h0, .inr (9, [.int 0, .int 0, .int 0, .int 0, .int 50, .int 3, .int 0, .ref b1, .ref b2, .ref b3, .ref b4, .ref b5, .ref b6, .ref b7, .ref b8, .ref b9, .ref b10, .ref b11, .ref b12, .ref b13, .ref b14, .ref b15, .ref b16, .ref b17, .ref b18, .int 0, .int 0, .int 0, .ref b19, .ref b20, .ref b21, .int 0, .ref b22, .ref b23, .int 0, .ref b24, .ref b25]))]) hD hS hA [0] rfl) (fun u t H_3 locs1 ht hvm hw hB hz1 hk1 hS1 => ?_)
    obtain ⟨hP, hD, hK⟩ := zj (wc := [(h0, .inr (9, [.int 0, .int 0, .int 0, .int 0, .int 50, .int 3, .int 0, .ref b1, .ref b2, .ref b3, .ref b4, .ref b5, .ref b6, .ref b7, .ref b8, .ref b9, .ref b10, .ref b11, .ref b12, .ref b13, .ref b14, .ref b15, .ref b16, .ref b17, .ref b18, .int 0, .int 0, .int 0, .ref b19, .ref b20, .ref b21, .int 0, .ref b22, .ref b23, .int 0, .ref b24, .ref b25]))]) (wr := []) (w1 := [(h0, .inr (9, [.int 0, .int 0, .int 0, .int 0, .int 50, .int 3, .int 0, .ref b1, .ref b2, .ref b3, .ref b4, .ref b5, .ref b6, .ref b7, .ref b8, .ref b9, .ref b10, .ref b11, .ref b12, .ref b13, .ref b14, .ref b15, .ref b16, .ref b17, .ref b18, .int 0, .int 0, .int 0, .ref b19, .ref b20, .ref b21, .int 0, .ref b22, .ref b23, .int 0, .ref b24, .ref b25]))]) hK hP hD hS hA [0] [] rfl rfl (by decide) (by decide) hk1 ht hvm hB
    have hS := hS1
    have hP : va_P D vwCl [(h0, .inr (9, [.int 0, .int 0, .int 0, .int 0, .int 50, .int 3, .int 0, .ref b1, .ref b2, .ref b3, .ref b4, .ref b5, .ref b6, .ref b7, .ref b8, .ref b9, .ref b10, .ref b11, .ref b12, .ref b13, .ref b14, .ref b15, .ref b16, .ref b17, .ref b18, .int 0, .int 0, .int 0, .ref b19, .ref b20, .ref b21, .int 0, .ref b22, .ref b23, .int 0, .ref b24, .ref b25]))] H_3 := hP
    have hD : va_D A [(h0, .inr (9, [.int 0, .int 0, .int 0, .int 0, .int 50, .int 3, .int 0, .ref b1, .ref b2, .ref b3, .ref b4, .ref b5, .ref b6, .ref b7, .ref b8, .ref b9, .ref b10, .ref b11, .ref b12, .ref b13, .ref b14, .ref b15, .ref b16, .ref b17, .ref b18, .int 0, .int 0, .int 0, .ref b19, .ref b20, .ref b21, .int 0, .ref b22, .ref b23, .int 0, .ref b24, .ref b25]))] := hD
    have hK : va_K D vwCl [] s := hK
    refine lv_iload_n hx hb dX9_plan_14 rfl (lv_at hl 2 rfl) ?_
    refine lv_iconst (v := (-1)) hx hb dX9_plan_15 (by decide) ?_
    refine bi_ne (zx := (p1).toInt) (zy := (-1)) (tgt := 26) hx hb dX9_plan_16 (by decide) rfl (by decide) (fun c_4 => ?_) (fun c_4 => ?_)
    · refine lv_iload_n hx hb dX9_plan_26 rfl (lv_at hl 2 rfl) ?_
      refine lv_iconst (v := 0) hx hb dX9_plan_27 (by decide) ?_
      refine lv_aload_n hx hb dX9_plan_28 rfl (lv_at hl 0 rfl) ?_
      refine va_get (D := D) (ci := 9) (v := .int 0) (C := RX9) (T := TX9) (N := 37) hx hb hts hin_X9 hown hK hP 0 rfl rfl 34 (by decide) (hts (.fieldLink RX9 183 "CryOrderModel" "takenMany" "I") (by decide +kernel)) (fun _ h9 => h9) rfl dX9_plan_29 ?_
      refine lv_iconst (v := 1) hx hb dX9_plan_32 (by decide) ?_
      refine lv_isub hx hb dX9_plan_33 ?_
      refine lv_tope (z := (-1)) (by decide) ?_
      refine vp_callSi (zrS (As := [.int p1, .int 0, .int (-1)]) (rest := []) (wc := []) ⟨hx, hb, hml, hown, hts⟩ hN hK hP hD (k_X9_isIn l D p1 0 ((-1)) ) (va_cwS 3 hts gX9_plan_X9_isIn rfl rfl rfl (by decide +kernel) ⟨(Nat.le_of_ble_eq_true rfl), (Nat.le_of_ble_eq_true rfl)⟩) [] [] rfl rfl (by decide) rfl hl.1 rfl (Nat.le_of_ble_eq_true rfl) dX9_plan_34 ⟨(Nat.le_of_ble_eq_true rfl), (Nat.le_of_ble_eq_true rfl)⟩) (fun r_5 h_6 => ?_)
      rcases h_6 with ⟨h_6, rfl⟩ | ⟨h_6, rfl⟩
      · have h_6 : 0 ≤ (p1).toInt ∧ (p1).toInt ≤ (-1) := h_6
        exfalso; omega
      · have h_6 : (p1).toInt < 0 ∨ (-1) < (p1).toInt := h_6
        refine lv_if_eq (tgt := 49) hx hb dX9_plan_37 (by decide) (fun _ => ?_) (fun c_ => absurd c_ (by decide))
        refine lv_iconst (v := (-1)) hx hb dX9_plan_49 (by decide) ?_
        refine W.widen (k := 0) (n := 0) (Nat.le_of_ble_eq_true rfl) (Nat.le_of_ble_eq_true rfl) ?_
        have hP9 := hP.sub (ws' := []) [] rfl
        have hD9 := hD.sub (ws' := []) [] (by decide) rfl
        have hK9 := hK.sub (tys' := []) [] rfl
        exact W.iret (v := (-1)) hx hb hr (fun t ht hW => ⟨⟨(-1), (), rfl, (by unfold F_plan; first | exact (if_pos (by omega)).symm | exact (if_neg (by omega)).symm), by rw [ht]; exact hP9, va_K.moved hW.alike hK9, hD9⟩, hS.F ht⟩) hS.2.2 dX9_plan_50
    · refine lv_aload_n hx hb dX9_plan_19 rfl (lv_at hl 0 rfl) ?_
      refine va_get (D := D) (ci := 9) (v := .int 0) (C := RX9) (T := TX9) (N := 37) hx hb hts hin_X9 hown hK hP 0 rfl rfl 34 (by decide) (hts (.fieldLink RX9 183 "CryOrderModel" "takenMany" "I") (by decide +kernel)) (fun _ h9 => h9) rfl dX9_plan_20 ?_
      refine lv_goto (tgt := 50) hx hb dX9_plan_23 (by decide) ?_
      refine W.widen (k := 0) (n := 0) (Nat.le_of_ble_eq_true rfl) (Nat.le_of_ble_eq_true rfl) ?_
      have hP9 := hP.sub (ws' := []) [] rfl
      have hD9 := hD.sub (ws' := []) [] (by decide) rfl
      have hK9 := hK.sub (tys' := []) [] rfl
      exact W.iret (v := 0) hx hb hr (fun t ht hW => ⟨⟨0, (), rfl, (by unfold F_plan; first | exact (if_pos (by omega)).symm | exact (if_neg (by omega)).symm), by rw [ht]; exact hP9, va_K.moved hW.alike hK9, hD9⟩, hS.F ht⟩) hS.2.2 dX9_plan_50
  · have h_2 : (p0).toInt < 0 ∨ 300 < (p0).toInt := h_2
    refine lv_if_ne (tgt := 9) hx hb dX9_plan_4 (by decide) (fun c_ => absurd c_ (by decide)) (fun _ => ?_)
    refine lv_iconst (v := (-1)) hx hb dX9_plan_7 (by decide) ?_
    refine W.widen (k := 0) (n := 0) (Nat.le_of_ble_eq_true rfl) (Nat.le_of_ble_eq_true rfl) ?_
    have hP9 := hP.sub (ws' := []) [] rfl
    have hD9 := hD.sub (ws' := []) [] (by decide) rfl
    have hK9 := hK.sub (tys' := []) [] rfl
    exact W.iret (v := (-1)) hx hb hr (fun t ht hW => ⟨⟨(-1), (), rfl, (by unfold F_plan; first | exact (if_pos (by omega)).symm | exact (if_neg (by omega)).symm), by rw [ht]; exact hP9, va_K.moved hW.alike hK9, hD9⟩, hS.F ht⟩) hS.2.2 dX9_plan_8

set_option maxHeartbeats 4000000 in
set_option maxRecDepth 100000 in
theorem k_X9_worth (l : Launch) (D : va_G) (sz : Nat) (h0 : Nat) (b1 : Nat) (b2 : Nat) (b3 : Nat) (b4 : Nat) (b5 : Nat) (b6 : Nat) (b7 : Nat) (b8 : Nat) (b9 : Nat) (b10 : Nat) (b11 : Nat) (b12 : Nat) (b13 : Nat) (b14 : Nat) (b15 : Nat) (b16 : Nat) (b17 : Nat) (b18 : Nat) (b19 : Nat) (b20 : Nat) (b21 : Nat) (b22 : Nat) (b23 : Nat) (b24 : Nat) (b25 : Nat) (p0 : Int32) (p1 : Int32) : Met l yX9_worth wsX9_worth ({ frames := 2, cells := 0, slots := 0, locals := 54 }) (va_Pc [.ref h0, .int p0, .int p1] (wz sz D [] [(h0, .inr (9, [.int 0, .int 0, .int 0, .int 0, .int 50, .int 3, .int 0, .ref b1, .ref b2, .ref b3, .ref b4, .ref b5, .ref b6, .ref b7, .ref b8, .ref b9, .ref b10, .ref b11, .ref b12, .ref b13, .ref b14, .ref b15, .ref b16, .ref b17, .ref b18, .int 0, .int 0, .int 0, .ref b19, .ref b20, .ref b21, .int 0, .ref b22, .ref b23, .int 0, .ref b24, .ref b25]))])) (va_Qi (fun (r : Int32) (_ : Unit) => r = F_worth p0 p1) (fun _ t => wp D [] (va_A [(h0, .inr (9, [.int 0, .int 0, .int 0, .int 0, .int 50, .int 3, .int 0, .ref b1, .ref b2, .ref b3, .ref b4, .ref b5, .ref b6, .ref b7, .ref b8, .ref b9, .ref b10, .ref b11, .ref b12, .ref b13, .ref b14, .ref b15, .ref b16, .ref b17, .ref b18, .int 0, .int 0, .int 0, .ref b19, .ref b20, .ref b21, .int 0, .ref b22, .ref b23, .int 0, .ref b24, .ref b25]))] sz) [] t) (va_A [(h0, .inr (9, [.int 0, .int 0, .int 0, .int 0, .int 50, .int 3, .int 0, .ref b1, .ref b2, .ref b3, .ref b4, .ref b5, .ref b6, .ref b7, .ref b8, .ref b9, .ref b10, .ref b11, .ref b12, .ref b13, .ref b14, .ref b15, .ref b16, .ref b17, .ref b18, .int 0, .int 0, .int 0, .ref b19, .ref b20, .ref b21, .int 0, .ref b22, .ref b23, .int 0, .ref b24, .ref b25]))] sz)) 0 0 (va_A [(h0, .inr (9, [.int 0, .int 0, .int 0, .int 0, .int 50, .int 3, .int 0, .ref b1, .ref b2, .ref b3, .ref b4, .ref b5, .ref b6, .ref b7, .ref b8, .ref b9, .ref b10, .ref b11, .ref b12, .ref b13, .ref b14, .ref b15, .ref b16, .ref b17, .ref b18, .int 0, .int 0, .int 0, .ref b19, .ref b20, .ref b21, .int 0, .ref b22, .ref b23, .int 0, .ref b24, .ref b25]))] sz) := by
  refine Met.ofW (cc := cX9_worth) (maxL := 6) (ret := (some .int)) (by decide) rfl ?_
  intro p e s m args below meth c s₁ B hml hv
  obtain ⟨rfl, hsz, hP, hK, hD0, hN⟩ := hv
  have hx := B.exec
  have hb := B.bytes
  have hr := B.returns
  have hts := atoms_spec (ws := wsX9_worth) B.pre
  have hown : s.vm.findClass RX9 = some m.cls := findClass_of_methodNamed B.named
  have hlocks := B.notSynchronized
  subst hsz
  have hD := hD0.self (sz := s.heap.size)
  generalize hAe : va_A [(h0, .inr (9, [.int 0, .int 0, .int 0, .int 0, .int 50, .int 3, .int 0, .ref b1, .ref b2, .ref b3, .ref b4, .ref b5, .ref b6, .ref b7, .ref b8, .ref b9, .ref b10, .ref b11, .ref b12, .ref b13, .ref b14, .ref b15, .ref b16, .ref b17, .ref b18, .int 0, .int 0, .int 0, .ref b19, .ref b20, .ref b21, .int 0, .ref b22, .ref b23, .int 0, .ref b24, .ref b25]))] s.heap.size = A at hD ⊢
  have hA : ∀ q : Nat, s.heap.size ≤ q → A q := fun q h => by rw [← hAe]; exact Or.inr h
  have hS : va_S A s.heap s.heap [] := va_S.rf
  have hin_X9 : ∀ w ∈ u_ws RX9 TX9 37, w ∈ wsX9_worth := by decide +kernel
  have hl := lv_entry ([.ref h0, .int p0, .int p1]) (n := 6) (Nat.le_of_ble_eq_true rfl)
  rw [lg_entry_eq]
  generalize (lg_sl ([.ref h0, .int p0, .int p1]) ++ List.replicate (6 - (lg_sl ([.ref h0, .int p0, .int p1])).length) Slot.unset).toArray = ls at hl ⊢
  have hl : lv_has ls 6 [(0, .ref h0), (1, .int p0), (2, .int p1)] := hl
  refine lv_iload_n hx hb dX9_worth_0 rfl (lv_at hl 1 rfl) ?_
  refine vp_callSi (zrS (As := [.int p0]) (rest := []) (wc := []) ⟨hx, hb, hml, hown, hts⟩ hN hK hP hD (k_X9_isPlan l D p0 ) (va_cwS 1 hts gX9_worth_X9_isPlan rfl rfl rfl (by decide +kernel) ⟨(Nat.le_of_ble_eq_true rfl), (Nat.le_of_ble_eq_true rfl)⟩) [] [] rfl rfl (by decide) rfl hl.1 rfl (Nat.le_of_ble_eq_true rfl) dX9_worth_1 ⟨(Nat.le_of_ble_eq_true rfl), (Nat.le_of_ble_eq_true rfl)⟩) (fun r_1 h_2 => ?_)
  rcases h_2 with ⟨h_2, rfl⟩ | ⟨h_2, rfl⟩
  · have h_2 : 0 ≤ (p0).toInt ∧ (p0).toInt ≤ 300 := h_2
    refine lv_if_eq (tgt := 16) hx hb dX9_worth_4 (by decide) (fun c_ => absurd c_ (by decide)) (fun _ => ?_)
    refine lv_iload_n hx hb dX9_worth_7 rfl (lv_at hl 2 rfl) ?_
    refine lv_iconst (v := 0) hx hb dX9_worth_8 (by decide) ?_
    refine lv_iconst (v := 2) hx hb dX9_worth_9 (by decide) ?_
    refine vp_callSi (zrS (As := [.int p1, .int 0, .int 2]) (rest := []) (wc := []) ⟨hx, hb, hml, hown, hts⟩ hN hK hP hD (k_X9_isIn l D p1 0 2 ) (va_cwS 3 hts gX9_worth_X9_isIn rfl rfl rfl (by decide +kernel) ⟨(Nat.le_of_ble_eq_true rfl), (Nat.le_of_ble_eq_true rfl)⟩) [] [] rfl rfl (by decide) rfl hl.1 rfl (Nat.le_of_ble_eq_true rfl) dX9_worth_10 ⟨(Nat.le_of_ble_eq_true rfl), (Nat.le_of_ble_eq_true rfl)⟩) (fun r_3 h_4 => ?_)
    rcases h_4 with ⟨h_4, rfl⟩ | ⟨h_4, rfl⟩
    · have h_4 : 0 ≤ (p1).toInt ∧ (p1).toInt ≤ 2 := h_4
      refine lv_if_ne (tgt := 18) hx hb dX9_worth_13 (by decide) (fun _ => ?_) (fun c_ => absurd c_ (by decide))
      refine lv_aload_n hx hb dX9_worth_18 rfl (lv_at hl 0 rfl) ?_
      refine lv_iload_n hx hb dX9_worth_19 rfl (lv_at hl 1 rfl) ?_
      refine va_callv (zwV (As := [.int p0]) (rest := []) (wc := [(h0, .inr (9, [.int 0, .int 0, .int 0, .int 0, .int 50, .int 3, .int 0, .ref b1, .ref b2, .ref b3, .ref b4, .ref b5, .ref b6, .ref b7, .ref b8, .ref b9, .ref b10, .ref b11, .ref b12, .ref b13, .ref b14, .ref b15, .ref b16, .ref b17, .ref b18, .int 0, .int 0, .int 0, .ref b19, .ref b20, .ref b21, .int 0, .ref b22, .ref b23, .int 0, .ref b24, .ref b25]))]) ⟨hx, hb, hml, hown, hts⟩ hN hK hP hD (k_X9_plans l D s.heap.size h0 b1 b2 b3 b4 b5 b6 b7 b8 b9 b10 b11 b12 b13 b14 b15 b16 b17 b18 b19 b20 b21 b22 b23 b24 b25 p0 ) (cwV 1 hts gX9_worth_X9_plans rfl rfl rfl (by decide +kernel) ⟨(Nat.le_of_ble_eq_true rfl), (Nat.le_of_ble_eq_true rfl)⟩) [] [0] rfl rfl (by decide) 9 0 rfl rfl rfl hl.1 rfl (Nat.le_of_ble_eq_true rfl) dX9_worth_20 ⟨(Nat.le_of_ble_eq_true rfl), (Nat.le_of_ble_eq_true rfl)⟩) hS (fun q _ h => va_free (wc := [(h0, .inr (9, [.int 0, .int 0, .int 0, .int 0, .int 50, .int 3, .int 0, .ref b1, .ref b2, .ref b3, .ref b4, .ref b5, .ref b6, .ref b7, .ref b8, .ref b9, .ref b10, .ref b11, .ref b12, .ref b13, .ref b14, .ref b15, .ref b16, .ref b17, .ref b18, .int 0, .int 0, .int 0, .ref b19, .ref b20, .ref b21, .int 0, .ref b22, .ref b23, .int 0, .ref b24, .ref b25]))]) hD hS hA [0] rfl q h) (va_free (wc := [(h0, .inr (9, [.int 0, .int 0, .int 0, .int 0, .int 50, .int 3, .int 0, .ref b1, .ref b2, .ref b3, .ref b4, .ref b5, .ref b6, .ref b7, .ref b8, .ref b9, .ref b10, .ref b11, .ref b12, .ref b13, .ref b14, .ref b15, .ref b16, .ref b17, .ref b18, .int 0, .int 0, .int 0, .ref b19, .ref b20, .ref b21, .int 0, .ref b22, .ref b23, .int 0, .ref b24, .ref b25]))]) hD hS hA [0] rfl) (fun u t H_5 locs1 ht hvm hw hB hz1 hk1 hS1 => ?_)
      obtain ⟨hP, hD, hK⟩ := zj (wc := [(h0, .inr (9, [.int 0, .int 0, .int 0, .int 0, .int 50, .int 3, .int 0, .ref b1, .ref b2, .ref b3, .ref b4, .ref b5, .ref b6, .ref b7, .ref b8, .ref b9, .ref b10, .ref b11, .ref b12, .ref b13, .ref b14, .ref b15, .ref b16, .ref b17, .ref b18, .int 0, .int 0, .int 0, .ref b19, .ref b20, .ref b21, .int 0, .ref b22, .ref b23, .int 0, .ref b24, .ref b25]))]) (wr := []) (w1 := [(h0, .inr (9, [.int 0, .int 0, .int 0, .int 0, .int 50, .int 3, .int 0, .ref b1, .ref b2, .ref b3, .ref b4, .ref b5, .ref b6, .ref b7, .ref b8, .ref b9, .ref b10, .ref b11, .ref b12, .ref b13, .ref b14, .ref b15, .ref b16, .ref b17, .ref b18, .int 0, .int 0, .int 0, .ref b19, .ref b20, .ref b21, .int 0, .ref b22, .ref b23, .int 0, .ref b24, .ref b25]))]) hK hP hD hS hA [0] [] rfl rfl (by decide) (by decide) hk1 ht hvm hB
      have hS := hS1
      have hP : va_P D vwCl [(h0, .inr (9, [.int 0, .int 0, .int 0, .int 0, .int 50, .int 3, .int 0, .ref b1, .ref b2, .ref b3, .ref b4, .ref b5, .ref b6, .ref b7, .ref b8, .ref b9, .ref b10, .ref b11, .ref b12, .ref b13, .ref b14, .ref b15, .ref b16, .ref b17, .ref b18, .int 0, .int 0, .int 0, .ref b19, .ref b20, .ref b21, .int 0, .ref b22, .ref b23, .int 0, .ref b24, .ref b25]))] H_5 := hP
      have hD : va_D A [(h0, .inr (9, [.int 0, .int 0, .int 0, .int 0, .int 50, .int 3, .int 0, .ref b1, .ref b2, .ref b3, .ref b4, .ref b5, .ref b6, .ref b7, .ref b8, .ref b9, .ref b10, .ref b11, .ref b12, .ref b13, .ref b14, .ref b15, .ref b16, .ref b17, .ref b18, .int 0, .int 0, .int 0, .ref b19, .ref b20, .ref b21, .int 0, .ref b22, .ref b23, .int 0, .ref b24, .ref b25]))] := hD
      have hK : va_K D vwCl [] s := hK
      refine lv_iconst (v := 0) hx hb dX9_worth_23 (by decide) ?_
      refine lv_istore_n (lv' := [(3, .int 0), (0, .ref h0), (1, .int p0), (2, .int p1)]) hx hb dX9_worth_24 rfl hl (by decide) rfl (fun ls hl => ?_)
      refine lv_iconst (v := 0) hx hb dX9_worth_25 (by decide) ?_
      refine lv_istore (lv' := [(4, .int 0), (3, .int 0), (0, .ref h0), (1, .int p0), (2, .int p1)]) hx hb dX9_worth_26 hl (by decide) rfl (fun ls hl => ?_)
      refine lv_iload hx hb dX9_worth_28 (lv_at hl 0 rfl) ?_
      refine lv_aload_n hx hb dX9_worth_30 rfl (lv_at hl 2 rfl) ?_
      refine va_get (D := D) (ci := 9) (v := .int 0) (C := RX9) (T := TX9) (N := 37) hx hb hts hin_X9 hown hK hP 0 rfl rfl 31 (by decide) (hts (.fieldLink RX9 165 "CryOrderModel" "cases" "I") (by decide +kernel)) (fun _ h9 => h9) rfl dX9_worth_31 ?_
      refine lv_icmp_ge (tgt := 116) hx hb dX9_worth_34 (by decide) (fun _ => ?_) (fun c_ => absurd c_ (by decide))
      refine lv_iload_n hx hb dX9_worth_116 rfl (lv_at hl 1 rfl) ?_
      refine W.widen (k := 0) (n := 0) (Nat.le_of_ble_eq_true rfl) (Nat.le_of_ble_eq_true rfl) ?_
      have hP9 := hP.sub (ws' := []) [] rfl
      have hD9 := hD.sub (ws' := []) [] (by decide) rfl
      have hK9 := hK.sub (tys' := []) [] rfl
      exact W.iret (v := 0) hx hb hr (fun t ht hW => ⟨⟨0, (), rfl, (by unfold F_worth; first | exact (if_pos (by omega)).symm | exact (if_neg (by omega)).symm), by rw [ht]; exact hP9, va_K.moved hW.alike hK9, hD9⟩, hS.F ht⟩) hS.2.2 dX9_worth_117
    · have h_4 : (p1).toInt < 0 ∨ 2 < (p1).toInt := h_4
      refine lv_if_ne (tgt := 18) hx hb dX9_worth_13 (by decide) (fun c_ => absurd c_ (by decide)) (fun _ => ?_)
      refine lv_iconst (v := (-1)) hx hb dX9_worth_16 (by decide) ?_
      refine W.widen (k := 0) (n := 0) (Nat.le_of_ble_eq_true rfl) (Nat.le_of_ble_eq_true rfl) ?_
      have hP9 := hP.sub (ws' := []) [] rfl
      have hD9 := hD.sub (ws' := []) [] (by decide) rfl
      have hK9 := hK.sub (tys' := []) [] rfl
      exact W.iret (v := (-1)) hx hb hr (fun t ht hW => ⟨⟨(-1), (), rfl, (by unfold F_worth; first | exact (if_pos (by omega)).symm | exact (if_neg (by omega)).symm), by rw [ht]; exact hP9, va_K.moved hW.alike hK9, hD9⟩, hS.F ht⟩) hS.2.2 dX9_worth_17
  · have h_2 : (p0).toInt < 0 ∨ 300 < (p0).toInt := h_2
    refine lv_if_eq (tgt := 16) hx hb dX9_worth_4 (by decide) (fun _ => ?_) (fun c_ => absurd c_ (by decide))
    refine lv_iconst (v := (-1)) hx hb dX9_worth_16 (by decide) ?_
    refine W.widen (k := 0) (n := 0) (Nat.le_of_ble_eq_true rfl) (Nat.le_of_ble_eq_true rfl) ?_
    have hP9 := hP.sub (ws' := []) [] rfl
    have hD9 := hD.sub (ws' := []) [] (by decide) rfl
    have hK9 := hK.sub (tys' := []) [] rfl
    exact W.iret (v := (-1)) hx hb hr (fun t ht hW => ⟨⟨(-1), (), rfl, (by unfold F_worth; first | exact (if_pos (by omega)).symm | exact (if_neg (by omega)).symm), by rw [ht]; exact hP9, va_K.moved hW.alike hK9, hD9⟩, hS.F ht⟩) hS.2.2 dX9_worth_17

set_option maxHeartbeats 4000000 in
set_option maxRecDepth 100000 in
theorem k_X9_count (l : Launch) (D : va_G) (sz : Nat) (h0 : Nat) (b1 : Nat) (b2 : Nat) (b3 : Nat) (b4 : Nat) (b5 : Nat) (b6 : Nat) (b7 : Nat) (b8 : Nat) (b9 : Nat) (b10 : Nat) (b11 : Nat) (b12 : Nat) (b13 : Nat) (b14 : Nat) (b15 : Nat) (b16 : Nat) (b17 : Nat) (b18 : Nat) (b19 : Nat) (b20 : Nat) (b21 : Nat) (b22 : Nat) (b23 : Nat) (b24 : Nat) (b25 : Nat) (p0 : Int32) : Met l yX9_count wsX9_count ({ frames := 1, cells := 0, slots := 0, locals := 25 }) (va_Pc [.ref h0, .int p0] (wz sz D [] [(h0, .inr (9, [.int 0, .int 0, .int 0, .int 0, .int 50, .int 3, .int 0, .ref b1, .ref b2, .ref b3, .ref b4, .ref b5, .ref b6, .ref b7, .ref b8, .ref b9, .ref b10, .ref b11, .ref b12, .ref b13, .ref b14, .ref b15, .ref b16, .ref b17, .ref b18, .int 0, .int 0, .int 0, .ref b19, .ref b20, .ref b21, .int 0, .ref b22, .ref b23, .int 0, .ref b24, .ref b25]))])) (va_Qi (fun (r : Int32) (_ : Unit) => r = F_count p0) (fun _ t => wp D [] (va_A [(h0, .inr (9, [.int 0, .int 0, .int 0, .int 0, .int 50, .int 3, .int 0, .ref b1, .ref b2, .ref b3, .ref b4, .ref b5, .ref b6, .ref b7, .ref b8, .ref b9, .ref b10, .ref b11, .ref b12, .ref b13, .ref b14, .ref b15, .ref b16, .ref b17, .ref b18, .int 0, .int 0, .int 0, .ref b19, .ref b20, .ref b21, .int 0, .ref b22, .ref b23, .int 0, .ref b24, .ref b25]))] sz) [] t) (va_A [(h0, .inr (9, [.int 0, .int 0, .int 0, .int 0, .int 50, .int 3, .int 0, .ref b1, .ref b2, .ref b3, .ref b4, .ref b5, .ref b6, .ref b7, .ref b8, .ref b9, .ref b10, .ref b11, .ref b12, .ref b13, .ref b14, .ref b15, .ref b16, .ref b17, .ref b18, .int 0, .int 0, .int 0, .ref b19, .ref b20, .ref b21, .int 0, .ref b22, .ref b23, .int 0, .ref b24, .ref b25]))] sz)) 0 0 (va_A [(h0, .inr (9, [.int 0, .int 0, .int 0, .int 0, .int 50, .int 3, .int 0, .ref b1, .ref b2, .ref b3, .ref b4, .ref b5, .ref b6, .ref b7, .ref b8, .ref b9, .ref b10, .ref b11, .ref b12, .ref b13, .ref b14, .ref b15, .ref b16, .ref b17, .ref b18, .int 0, .int 0, .int 0, .ref b19, .ref b20, .ref b21, .int 0, .ref b22, .ref b23, .int 0, .ref b24, .ref b25]))] sz) := by
  refine Met.ofW (cc := cX9_count) (maxL := 4) (ret := (some .int)) (by decide) rfl ?_
  intro p e s m args below meth c s₁ B hml hv
  obtain ⟨rfl, hsz, hP, hK, hD0, hN⟩ := hv
  have hx := B.exec
  have hb := B.bytes
  have hr := B.returns
  have hts := atoms_spec (ws := wsX9_count) B.pre
  have hown : s.vm.findClass RX9 = some m.cls := findClass_of_methodNamed B.named
  have hlocks := B.notSynchronized
  subst hsz
  have hD := hD0.self (sz := s.heap.size)
  generalize hAe : va_A [(h0, .inr (9, [.int 0, .int 0, .int 0, .int 0, .int 50, .int 3, .int 0, .ref b1, .ref b2, .ref b3, .ref b4, .ref b5, .ref b6, .ref b7, .ref b8, .ref b9, .ref b10, .ref b11, .ref b12, .ref b13, .ref b14, .ref b15, .ref b16, .ref b17, .ref b18, .int 0, .int 0, .int 0, .ref b19, .ref b20, .ref b21, .int 0, .ref b22, .ref b23, .int 0, .ref b24, .ref b25]))] s.heap.size = A at hD ⊢
  have hA : ∀ q : Nat, s.heap.size ≤ q → A q := fun q h => by rw [← hAe]; exact Or.inr h
  have hS : va_S A s.heap s.heap [] := va_S.rf
  have hin_X9 : ∀ w ∈ u_ws RX9 TX9 37, w ∈ wsX9_count := by decide +kernel
  have hl := lv_entry ([.ref h0, .int p0]) (n := 4) (Nat.le_of_ble_eq_true rfl)
  rw [lg_entry_eq]
  generalize (lg_sl ([.ref h0, .int p0]) ++ List.replicate (4 - (lg_sl ([.ref h0, .int p0])).length) Slot.unset).toArray = ls at hl ⊢
  have hl : lv_has ls 4 [(0, .ref h0), (1, .int p0)] := hl
  refine lv_iload_n hx hb dX9_count_0 rfl (lv_at hl 1 rfl) ?_
  rcases (show (p0).toInt = 0 ∨ (p0).toInt = 1 ∨ (p0).toInt = 2 ∨ (p0).toInt = 3 ∨ (p0).toInt = 4 ∨ (p0).toInt = 5 ∨ ((p0).toInt < 0 ∨ 5 < (p0).toInt) by omega) with c_1 | c_1 | c_1 | c_1 | c_1 | c_1 | c_1
  · refine lv_tableIn (tgt := 40) hx hb dX9_count_1 (by omega) (by omega) (by rw [c_1]; rfl) (by decide) ?_
    refine lv_aload_n hx hb dX9_count_40 rfl (lv_at hl 0 rfl) ?_
    refine va_get (D := D) (ci := 9) (v := .int 0) (C := RX9) (T := TX9) (N := 37) hx hb hts hin_X9 hown hK hP 0 rfl rfl 0 (by decide) (hts (.fieldLink RX9 100 "CryOrderModel" "now" "I") (by decide +kernel)) (fun _ h9 => h9) rfl dX9_count_41 ?_
    refine W.widen (k := 0) (n := 0) (Nat.le_of_ble_eq_true rfl) (Nat.le_of_ble_eq_true rfl) ?_
    have hP9 := hP.sub (ws' := []) [] rfl
    have hD9 := hD.sub (ws' := []) [] (by decide) rfl
    have hK9 := hK.sub (tys' := []) [] rfl
    exact W.iret (v := 0) hx hb hr (fun t ht hW => ⟨⟨0, (), rfl, (by unfold F_count; first | exact (if_pos (by omega)).symm | exact (if_neg (by omega)).symm), by rw [ht]; exact hP9, va_K.moved hW.alike hK9, hD9⟩, hS.F ht⟩) hS.2.2 dX9_count_44
  · refine lv_tableIn (tgt := 45) hx hb dX9_count_1 (by omega) (by omega) (by rw [c_1]; rfl) (by decide) ?_
    refine lv_aload_n hx hb dX9_count_45 rfl (lv_at hl 0 rfl) ?_
    refine va_get (D := D) (ci := 9) (v := .int 0) (C := RX9) (T := TX9) (N := 37) hx hb hts hin_X9 hown hK hP 0 rfl rfl 1 (by decide) (hts (.fieldLink RX9 93 "CryOrderModel" "alarms" "I") (by decide +kernel)) (fun _ h9 => h9) rfl dX9_count_46 ?_
    refine W.widen (k := 0) (n := 0) (Nat.le_of_ble_eq_true rfl) (Nat.le_of_ble_eq_true rfl) ?_
    have hP9 := hP.sub (ws' := []) [] rfl
    have hD9 := hD.sub (ws' := []) [] (by decide) rfl
    have hK9 := hK.sub (tys' := []) [] rfl
    exact W.iret (v := 0) hx hb hr (fun t ht hW => ⟨⟨0, (), rfl, (by unfold F_count; first | exact (if_pos (by omega)).symm | exact (if_neg (by omega)).symm), by rw [ht]; exact hP9, va_K.moved hW.alike hK9, hD9⟩, hS.F ht⟩) hS.2.2 dX9_count_49
  · refine lv_tableIn (tgt := 50) hx hb dX9_count_1 (by omega) (by omega) (by rw [c_1]; rfl) (by decide) ?_
    refine lv_iconst (v := 0) hx hb dX9_count_50 (by decide) ?_
    refine lv_istore_n (lv' := [(2, .int 0), (0, .ref h0), (1, .int p0)]) hx hb dX9_count_51 rfl hl (by decide) rfl (fun ls hl => ?_)
    refine lv_iconst (v := 0) hx hb dX9_count_52 (by decide) ?_
    refine lv_istore_n (lv' := [(3, .int 0), (2, .int 0), (0, .ref h0), (1, .int p0)]) hx hb dX9_count_53 rfl hl (by decide) rfl (fun ls hl => ?_)
    refine lv_iload_n hx hb dX9_count_54 rfl (lv_at hl 0 rfl) ?_
    refine lv_aload_n hx hb dX9_count_55 rfl (lv_at hl 2 rfl) ?_
    refine va_get (D := D) (ci := 9) (v := .int 0) (C := RX9) (T := TX9) (N := 37) hx hb hts hin_X9 hown hK hP 0 rfl rfl 1 (by decide) (hts (.fieldLink RX9 93 "CryOrderModel" "alarms" "I") (by decide +kernel)) (fun _ h9 => h9) rfl dX9_count_56 ?_
    refine lv_icmp_ge (tgt := 88) hx hb dX9_count_59 (by decide) (fun _ => ?_) (fun c_ => absurd c_ (by decide))
    refine lv_iload_n hx hb dX9_count_88 rfl (lv_at hl 1 rfl) ?_
    refine W.widen (k := 0) (n := 0) (Nat.le_of_ble_eq_true rfl) (Nat.le_of_ble_eq_true rfl) ?_
    have hP9 := hP.sub (ws' := []) [] rfl
    have hD9 := hD.sub (ws' := []) [] (by decide) rfl
    have hK9 := hK.sub (tys' := []) [] rfl
    exact W.iret (v := 0) hx hb hr (fun t ht hW => ⟨⟨0, (), rfl, (by unfold F_count; first | exact (if_pos (by omega)).symm | exact (if_neg (by omega)).symm), by rw [ht]; exact hP9, va_K.moved hW.alike hK9, hD9⟩, hS.F ht⟩) hS.2.2 dX9_count_89
  · refine lv_tableIn (tgt := 90) hx hb dX9_count_1 (by omega) (by omega) (by rw [c_1]; rfl) (by decide) ?_
    refine lv_aload_n hx hb dX9_count_90 rfl (lv_at hl 0 rfl) ?_
    refine va_callv (zwV (As := []) (rest := []) (wc := [(h0, .inr (9, [.int 0, .int 0, .int 0, .int 0, .int 50, .int 3, .int 0, .ref b1, .ref b2, .ref b3, .ref b4, .ref b5, .ref b6, .ref b7, .ref b8, .ref b9, .ref b10, .ref b11, .ref b12, .ref b13, .ref b14, .ref b15, .ref b16, .ref b17, .ref b18, .int 0, .int 0, .int 0, .ref b19, .ref b20, .ref b21, .int 0, .ref b22, .ref b23, .int 0, .ref b24, .ref b25]))]) ⟨hx, hb, hml, hown, hts⟩ hN hK hP hD (k_X9_joins l D s.heap.size h0 b1 b2 b3 b4 b5 b6 b7 b8 b9 b10 b11 b12 b13 b14 b15 b16 b17 b18 b19 b20 b21 b22 b23 b24 b25 ) (cwV 0 hts gX9_count_X9_joins rfl rfl rfl (by decide +kernel) ⟨(Nat.le_of_ble_eq_true rfl), (Nat.le_of_ble_eq_true rfl)⟩) [] [0] rfl rfl (by decide) 9 0 rfl rfl rfl hl.1 rfl (Nat.le_of_ble_eq_true rfl) dX9_count_91 ⟨(Nat.le_of_ble_eq_true rfl), (Nat.le_of_ble_eq_true rfl)⟩) hS (fun q _ h => va_free (wc := [(h0, .inr (9, [.int 0, .int 0, .int 0, .int 0, .int 50, .int 3, .int 0, .ref b1, .ref b2, .ref b3, .ref b4, .ref b5, .ref b6, .ref b7, .ref b8, .ref b9, .ref b10, .ref b11, .ref b12, .ref b13, .ref b14, .ref b15, .ref b16, .ref b17, .ref b18, .int 0, .int 0, .int 0, .ref b19, .ref b20, .ref b21, .int 0, .ref b22, .ref b23, .int 0, .ref b24, .ref b25]))]) hD hS hA [0] rfl q h) (va_free (wc := [(h0, .inr (9, [.int 0, .int 0, .int 0, .int 0, .int 50, .int 3, .int 0, .ref b1, .ref b2, .ref b3, .ref b4, .ref b5, .ref b6, .ref b7, .ref b8, .ref b9, .ref b10, .ref b11, .ref b12, .ref b13, .ref b14, .ref b15, .ref b16, .ref b17, .ref b18, .int 0, .int 0, .int 0, .ref b19, .ref b20, .ref b21, .int 0, .ref b22, .ref b23, .int 0, .ref b24, .ref b25]))]) hD hS hA [0] rfl) (fun u t H_2 locs1 ht hvm hw hB hz1 hk1 hS1 => ?_)
    obtain ⟨hP, hD, hK⟩ := zj (wc := [(h0, .inr (9, [.int 0, .int 0, .int 0, .int 0, .int 50, .int 3, .int 0, .ref b1, .ref b2, .ref b3, .ref b4, .ref b5, .ref b6, .ref b7, .ref b8, .ref b9, .ref b10, .ref b11, .ref b12, .ref b13, .ref b14, .ref b15, .ref b16, .ref b17, .ref b18, .int 0, .int 0, .int 0, .ref b19, .ref b20, .ref b21, .int 0, .ref b22, .ref b23, .int 0, .ref b24, .ref b25]))]) (wr := []) (w1 := [(h0, .inr (9, [.int 0, .int 0, .int 0, .int 0, .int 50, .int 3, .int 0, .ref b1, .ref b2, .ref b3, .ref b4, .ref b5, .ref b6, .ref b7, .ref b8, .ref b9, .ref b10, .ref b11, .ref b12, .ref b13, .ref b14, .ref b15, .ref b16, .ref b17, .ref b18, .int 0, .int 0, .int 0, .ref b19, .ref b20, .ref b21, .int 0, .ref b22, .ref b23, .int 0, .ref b24, .ref b25]))]) hK hP hD hS hA [0] [] rfl rfl (by decide) (by decide) hk1 ht hvm hB
    have hS := hS1
    have hP : va_P D vwCl [(h0, .inr (9, [.int 0, .int 0, .int 0, .int 0, .int 50, .int 3, .int 0, .ref b1, .ref b2, .ref b3, .ref b4, .ref b5, .ref b6, .ref b7, .ref b8, .ref b9, .ref b10, .ref b11, .ref b12, .ref b13, .ref b14, .ref b15, .ref b16, .ref b17, .ref b18, .int 0, .int 0, .int 0, .ref b19, .ref b20, .ref b21, .int 0, .ref b22, .ref b23, .int 0, .ref b24, .ref b25]))] H_2 := hP
    have hD : va_D A [(h0, .inr (9, [.int 0, .int 0, .int 0, .int 0, .int 50, .int 3, .int 0, .ref b1, .ref b2, .ref b3, .ref b4, .ref b5, .ref b6, .ref b7, .ref b8, .ref b9, .ref b10, .ref b11, .ref b12, .ref b13, .ref b14, .ref b15, .ref b16, .ref b17, .ref b18, .int 0, .int 0, .int 0, .ref b19, .ref b20, .ref b21, .int 0, .ref b22, .ref b23, .int 0, .ref b24, .ref b25]))] := hD
    have hK : va_K D vwCl [] s := hK
    refine lv_aload_n hx hb dX9_count_94 rfl (lv_at hl 0 rfl) ?_
    refine va_get (D := D) (ci := 9) (v := .int 0) (C := RX9) (T := TX9) (N := 37) hx hb hts hin_X9 hown hK hP 0 rfl rfl 31 (by decide) (hts (.fieldLink RX9 165 "CryOrderModel" "cases" "I") (by decide +kernel)) (fun _ h9 => h9) rfl dX9_count_95 ?_
    refine W.widen (k := 0) (n := 0) (Nat.le_of_ble_eq_true rfl) (Nat.le_of_ble_eq_true rfl) ?_
    have hP9 := hP.sub (ws' := []) [] rfl
    have hD9 := hD.sub (ws' := []) [] (by decide) rfl
    have hK9 := hK.sub (tys' := []) [] rfl
    exact W.iret (v := 0) hx hb hr (fun t ht hW => ⟨⟨0, (), rfl, (by unfold F_count; first | exact (if_pos (by omega)).symm | exact (if_neg (by omega)).symm), by rw [ht]; exact hP9, va_K.moved hW.alike hK9, hD9⟩, hS.F ht⟩) hS.2.2 dX9_count_98
  · refine lv_tableIn (tgt := 99) hx hb dX9_count_1 (by omega) (by omega) (by rw [c_1]; rfl) (by decide) ?_
    refine lv_aload_n hx hb dX9_count_99 rfl (lv_at hl 0 rfl) ?_
    refine va_get (D := D) (ci := 9) (v := .int 0) (C := RX9) (T := TX9) (N := 37) hx hb hts hin_X9 hown hK hP 0 rfl rfl 2 (by decide) (hts (.fieldLink RX9 111 "CryOrderModel" "silences" "I") (by decide +kernel)) (fun _ h9 => h9) rfl dX9_count_100 ?_
    refine W.widen (k := 0) (n := 0) (Nat.le_of_ble_eq_true rfl) (Nat.le_of_ble_eq_true rfl) ?_
    have hP9 := hP.sub (ws' := []) [] rfl
    have hD9 := hD.sub (ws' := []) [] (by decide) rfl
    have hK9 := hK.sub (tys' := []) [] rfl
    exact W.iret (v := 0) hx hb hr (fun t ht hW => ⟨⟨0, (), rfl, (by unfold F_count; first | exact (if_pos (by omega)).symm | exact (if_neg (by omega)).symm), by rw [ht]; exact hP9, va_K.moved hW.alike hK9, hD9⟩, hS.F ht⟩) hS.2.2 dX9_count_103
  · refine lv_tableIn (tgt := 104) hx hb dX9_count_1 (by omega) (by omega) (by rw [c_1]; rfl) (by decide) ?_
    refine lv_aload_n hx hb dX9_count_104 rfl (lv_at hl 0 rfl) ?_
    refine va_get (D := D) (ci := 9) (v := .int 0) (C := RX9) (T := TX9) (N := 37) hx hb hts hin_X9 hown hK hP 0 rfl rfl 3 (by decide) (hts (.fieldLink RX9 124 "CryOrderModel" "ties" "I") (by decide +kernel)) (fun _ h9 => h9) rfl dX9_count_105 ?_
    refine W.widen (k := 0) (n := 0) (Nat.le_of_ble_eq_true rfl) (Nat.le_of_ble_eq_true rfl) ?_
    have hP9 := hP.sub (ws' := []) [] rfl
    have hD9 := hD.sub (ws' := []) [] (by decide) rfl
    have hK9 := hK.sub (tys' := []) [] rfl
    exact W.iret (v := 0) hx hb hr (fun t ht hW => ⟨⟨0, (), rfl, (by unfold F_count; first | exact (if_pos (by omega)).symm | exact (if_neg (by omega)).symm), by rw [ht]; exact hP9, va_K.moved hW.alike hK9, hD9⟩, hS.F ht⟩) hS.2.2 dX9_count_108
  · refine lv_tableOut (tgt := 109) hx hb dX9_count_1 (by omega) (by decide) ?_
    refine lv_iconst (v := (-1)) hx hb dX9_count_109 (by decide) ?_
    refine W.widen (k := 0) (n := 0) (Nat.le_of_ble_eq_true rfl) (Nat.le_of_ble_eq_true rfl) ?_
    have hP9 := hP.sub (ws' := []) [] rfl
    have hD9 := hD.sub (ws' := []) [] (by decide) rfl
    have hK9 := hK.sub (tys' := []) [] rfl
    exact W.iret (v := (-1)) hx hb hr (fun t ht hW => ⟨⟨(-1), (), rfl, (by unfold F_count; first | exact (if_pos (by omega)).symm | exact (if_neg (by omega)).symm), by rw [ht]; exact hP9, va_K.moved hW.alike hK9, hD9⟩, hS.F ht⟩) hS.2.2 dX9_count_110
