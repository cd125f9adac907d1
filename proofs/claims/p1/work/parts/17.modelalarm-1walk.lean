set_option maxHeartbeats 4000000 in
set_option maxRecDepth 100000 in
theorem k_X9_alarm (l : Launch) (D : va_G) (sz : Nat) (h0 : Nat) (b1 : Nat) (b2 : Nat) (b3 : Nat) (b4 : Nat) (b5 : Nat) (b6 : Nat) (b7 : Nat) (b8 : Nat) (b9 : Nat) (b10 : Nat) (b11 : Nat) (b12 : Nat) (b13 : Nat) (b14 : Nat) (b15 : Nat) (b16 : Nat) (b17 : Nat) (b18 : Nat) (b19 : Nat) (b20 : Nat) (b21 : Nat) (b22 : Nat) (b23 : Nat) (b24 : Nat) (b25 : Nat) (d11 : ClassId) (d12 : ClassId) (d1 : ClassId) (d2 : ClassId) (d3 : ClassId) (d4 : ClassId) (d5 : ClassId) (d6 : ClassId) (p0 : Int32) (p1 : Int32) (p2 : Int32) (p3 : Int32) : Met l yX9_alarm wsX9_alarm ({ frames := 1, cells := 0, slots := 0, locals := 22 }) (va_Pc [.ref h0, .int p0, .int p1, .int p2, .int p3] (wz sz D [(d11, .boolean), (d12, .boolean), (d1, .int), (d2, .int), (d3, .int), (d4, .int), (d5, .int), (d6, .int)] [(h0, .inr (9, [.int 0, .int 0, .int 0, .int 0, .int 50, .int 3, .int 0, .ref b1, .ref b2, .ref b3, .ref b4, .ref b5, .ref b6, .ref b7, .ref b8, .ref b9, .ref b10, .ref b11, .ref b12, .ref b13, .ref b14, .ref b15, .ref b16, .ref b17, .ref b18, .int 0, .int 0, .int 0, .ref b19, .ref b20, .ref b21, .int 0, .ref b22, .ref b23, .int 0, .ref b24, .ref b25])), (b11, .inl (d11, 200, .inl (fun _ => 0))), (b12, .inl (d12, 200, .inl (fun _ => 0))), (b1, .inl (d1, 200, .inl (fun _ => 0))), (b2, .inl (d2, 200, .inl (fun _ => 0))), (b3, .inl (d3, 200, .inl (fun _ => 0))), (b4, .inl (d4, 200, .inl (fun _ => 0))), (b5, .inl (d5, 200, .inl (fun _ => 0))), (b6, .inl (d6, 200, .inl (fun _ => 0)))])) (va_Qi (fun (r : Int32) (_ : Unit) => r = F_alarm p0 p1 p2 p3) (fun _ t => wp D [] (va_A [(h0, .inr (9, [.int 0, .int 0, .int 0, .int 0, .int 50, .int 3, .int 0, .ref b1, .ref b2, .ref b3, .ref b4, .ref b5, .ref b6, .ref b7, .ref b8, .ref b9, .ref b10, .ref b11, .ref b12, .ref b13, .ref b14, .ref b15, .ref b16, .ref b17, .ref b18, .int 0, .int 0, .int 0, .ref b19, .ref b20, .ref b21, .int 0, .ref b22, .ref b23, .int 0, .ref b24, .ref b25])), (b11, .inl (d11, 200, .inl (fun _ => 0))), (b12, .inl (d12, 200, .inl (fun _ => 0))), (b1, .inl (d1, 200, .inl (fun _ => 0))), (b2, .inl (d2, 200, .inl (fun _ => 0))), (b3, .inl (d3, 200, .inl (fun _ => 0))), (b4, .inl (d4, 200, .inl (fun _ => 0))), (b5, .inl (d5, 200, .inl (fun _ => 0))), (b6, .inl (d6, 200, .inl (fun _ => 0)))] sz) [] t) (va_A [(h0, .inr (9, [.int 0, .int 0, .int 0, .int 0, .int 50, .int 3, .int 0, .ref b1, .ref b2, .ref b3, .ref b4, .ref b5, .ref b6, .ref b7, .ref b8, .ref b9, .ref b10, .ref b11, .ref b12, .ref b13, .ref b14, .ref b15, .ref b16, .ref b17, .ref b18, .int 0, .int 0, .int 0, .ref b19, .ref b20, .ref b21, .int 0, .ref b22, .ref b23, .int 0, .ref b24, .ref b25])), (b11, .inl (d11, 200, .inl (fun _ => 0))), (b12, .inl (d12, 200, .inl (fun _ => 0))), (b1, .inl (d1, 200, .inl (fun _ => 0))), (b2, .inl (d2, 200, .inl (fun _ => 0))), (b3, .inl (d3, 200, .inl (fun _ => 0))), (b4, .inl (d4, 200, .inl (fun _ => 0))), (b5, .inl (d5, 200, .inl (fun _ => 0))), (b6, .inl (d6, 200, .inl (fun _ => 0)))] sz)) 0 0 (va_A [(h0, .inr (9, [.int 0, .int 0, .int 0, .int 0, .int 50, .int 3, .int 0, .ref b1, .ref b2, .ref b3, .ref b4, .ref b5, .ref b6, .ref b7, .ref b8, .ref b9, .ref b10, .ref b11, .ref b12, .ref b13, .ref b14, .ref b15, .ref b16, .ref b17, .ref b18, .int 0, .int 0, .int 0, .ref b19, .ref b20, .ref b21, .int 0, .ref b22, .ref b23, .int 0, .ref b24, .ref b25])), (b11, .inl (d11, 200, .inl (fun _ => 0))), (b12, .inl (d12, 200, .inl (fun _ => 0))), (b1, .inl (d1, 200, .inl (fun _ => 0))), (b2, .inl (d2, 200, .inl (fun _ => 0))), (b3, .inl (d3, 200, .inl (fun _ => 0))), (b4, .inl (d4, 200, .inl (fun _ => 0))), (b5, .inl (d5, 200, .inl (fun _ => 0))), (b6, .inl (d6, 200, .inl (fun _ => 0)))] sz) := by
  refine Met.ofW (cc := cX9_alarm) (maxL := 8) (ret := (some .int)) (by decide) rfl ?_
  intro p e s m args below meth c s₁ B hml hv
  obtain ⟨rfl, hsz, hP, hK, hD0, hN⟩ := hv
  have hx := B.exec
  have hb := B.bytes
  have hr := B.returns
  have hts := atoms_spec (ws := wsX9_alarm) B.pre
  have hown : s.vm.findClass RX9 = some m.cls := findClass_of_methodNamed B.named
  have hlocks := B.notSynchronized
  subst hsz
  have hD := hD0.self (sz := s.heap.size)
  generalize hAe : va_A [(h0, .inr (9, [.int 0, .int 0, .int 0, .int 0, .int 50, .int 3, .int 0, .ref b1, .ref b2, .ref b3, .ref b4, .ref b5, .ref b6, .ref b7, .ref b8, .ref b9, .ref b10, .ref b11, .ref b12, .ref b13, .ref b14, .ref b15, .ref b16, .ref b17, .ref b18, .int 0, .int 0, .int 0, .ref b19, .ref b20, .ref b21, .int 0, .ref b22, .ref b23, .int 0, .ref b24, .ref b25])), (b11, .inl (d11, 200, .inl (fun _ => 0))), (b12, .inl (d12, 200, .inl (fun _ => 0))), (b1, .inl (d1, 200, .inl (fun _ => 0))), (b2, .inl (d2, 200, .inl (fun _ => 0))), (b3, .inl (d3, 200, .inl (fun _ => 0))), (b4, .inl (d4, 200, .inl (fun _ => 0))), (b5, .inl (d5, 200, .inl (fun _ => 0))), (b6, .inl (d6, 200, .inl (fun _ => 0)))] s.heap.size = A at hD ⊢
  have hA : ∀ q : Nat, s.heap.size ≤ q → A q := fun q h => by rw [← hAe]; exact Or.inr h
  have hS : va_S A s.heap s.heap [] := va_S.rf
  have hin_X9 : ∀ w ∈ u_ws RX9 TX9 37, w ∈ wsX9_alarm := by decide +kernel
  have hl := lv_entry ([.ref h0, .int p0, .int p1, .int p2, .int p3]) (n := 8) (Nat.le_of_ble_eq_true rfl)
  rw [lg_entry_eq]
  generalize (lg_sl ([.ref h0, .int p0, .int p1, .int p2, .int p3]) ++ List.replicate (8 - (lg_sl ([.ref h0, .int p0, .int p1, .int p2, .int p3])).length) Slot.unset).toArray = ls at hl ⊢
  have hl : lv_has ls 8 [(0, .ref h0), (1, .int p0), (2, .int p1), (3, .int p2), (4, .int p3)] := hl
  refine lv_iload_n hx hb dX9_alarm_0 rfl (lv_at hl 1 rfl) ?_
  refine lv_iconst (v := 0) hx hb dX9_alarm_1 (by decide) ?_
  refine lv_bipush (v := 9) hx hb dX9_alarm_2 (by decide) ?_
  refine vp_callSi (zrS (As := [.int p0, .int 0, .int 9]) (rest := []) (wc := []) ⟨hx, hb, hml, hown, hts⟩ hN hK hP hD (k_X9_isIn l D p0 0 9 ) (va_cwS 3 hts gX9_alarm_X9_isIn rfl rfl rfl (by decide +kernel) ⟨(Nat.le_of_ble_eq_true rfl), (Nat.le_of_ble_eq_true rfl)⟩) [] [] rfl rfl (by decide) rfl hl.1 rfl (Nat.le_of_ble_eq_true rfl) dX9_alarm_4 ⟨(Nat.le_of_ble_eq_true rfl), (Nat.le_of_ble_eq_true rfl)⟩) (fun r_1 h_2 => ?_)
  rcases h_2 with ⟨h_2, rfl⟩ | ⟨h_2, rfl⟩
  · have h_2 : 0 ≤ (p0).toInt ∧ (p0).toInt ≤ 9 := h_2
    refine lv_if_eq (tgt := 42) hx hb dX9_alarm_7 (by decide) (fun c_ => absurd c_ (by decide)) (fun _ => ?_)
    refine lv_iload_n hx hb dX9_alarm_10 rfl (lv_at hl 2 rfl) ?_
    refine lv_iconst (v := 0) hx hb dX9_alarm_11 (by decide) ?_
    refine lv_bipush (v := 39) hx hb dX9_alarm_12 (by decide) ?_
    refine vp_callSi (zrS (As := [.int p1, .int 0, .int 39]) (rest := []) (wc := []) ⟨hx, hb, hml, hown, hts⟩ hN hK hP hD (k_X9_isIn l D p1 0 39 ) (va_cwS 3 hts gX9_alarm_X9_isIn rfl rfl rfl (by decide +kernel) ⟨(Nat.le_of_ble_eq_true rfl), (Nat.le_of_ble_eq_true rfl)⟩) [] [] rfl rfl (by decide) rfl hl.1 rfl (Nat.le_of_ble_eq_true rfl) dX9_alarm_14 ⟨(Nat.le_of_ble_eq_true rfl), (Nat.le_of_ble_eq_true rfl)⟩) (fun r_3 h_4 => ?_)
    rcases h_4 with ⟨h_4, rfl⟩ | ⟨h_4, rfl⟩
    · have h_4 : 0 ≤ (p1).toInt ∧ (p1).toInt ≤ 39 := h_4
      refine lv_if_eq (tgt := 42) hx hb dX9_alarm_17 (by decide) (fun c_ => absurd c_ (by decide)) (fun _ => ?_)
      refine lv_iload_n hx hb dX9_alarm_20 rfl (lv_at hl 3 rfl) ?_
      refine lv_iconst (v := 0) hx hb dX9_alarm_21 (by decide) ?_
      refine lv_sipush (v := 4095) hx hb dX9_alarm_22 (by decide) ?_
      refine vp_callSi (zrS (As := [.int p2, .int 0, .int 4095]) (rest := []) (wc := []) ⟨hx, hb, hml, hown, hts⟩ hN hK hP hD (k_X9_isIn l D p2 0 4095 ) (va_cwS 3 hts gX9_alarm_X9_isIn rfl rfl rfl (by decide +kernel) ⟨(Nat.le_of_ble_eq_true rfl), (Nat.le_of_ble_eq_true rfl)⟩) [] [] rfl rfl (by decide) rfl hl.1 rfl (Nat.le_of_ble_eq_true rfl) dX9_alarm_25 ⟨(Nat.le_of_ble_eq_true rfl), (Nat.le_of_ble_eq_true rfl)⟩) (fun r_5 h_6 => ?_)
      rcases h_6 with ⟨h_6, rfl⟩ | ⟨h_6, rfl⟩
      · have h_6 : 0 ≤ (p2).toInt ∧ (p2).toInt ≤ 4095 := h_6
        refine lv_if_eq (tgt := 42) hx hb dX9_alarm_28 (by decide) (fun c_ => absurd c_ (by decide)) (fun _ => ?_)
        refine lv_iload hx hb dX9_alarm_31 (lv_at hl 4 rfl) ?_
        refine lv_iconst (v := 1) hx hb dX9_alarm_33 (by decide) ?_
        refine lv_bipush (v := 100) hx hb dX9_alarm_34 (by decide) ?_
        refine vp_callSi (zrS (As := [.int p3, .int 1, .int 100]) (rest := []) (wc := []) ⟨hx, hb, hml, hown, hts⟩ hN hK hP hD (k_X9_isIn l D p3 1 100 ) (va_cwS 3 hts gX9_alarm_X9_isIn rfl rfl rfl (by decide +kernel) ⟨(Nat.le_of_ble_eq_true rfl), (Nat.le_of_ble_eq_true rfl)⟩) [] [] rfl rfl (by decide) rfl hl.1 rfl (Nat.le_of_ble_eq_true rfl) dX9_alarm_36 ⟨(Nat.le_of_ble_eq_true rfl), (Nat.le_of_ble_eq_true rfl)⟩) (fun r_7 h_8 => ?_)
        rcases h_8 with ⟨h_8, rfl⟩ | ⟨h_8, rfl⟩
        · have h_8 : 1 ≤ (p3).toInt ∧ (p3).toInt ≤ 100 := h_8
          refine lv_if_ne (tgt := 45) hx hb dX9_alarm_39 (by decide) (fun _ => ?_) (fun c_ => absurd c_ (by decide))
          refine lv_aload_n hx hb dX9_alarm_45 rfl (lv_at hl 0 rfl) ?_
          refine va_get (D := D) (ci := 9) (v := .int 0) (C := RX9) (T := TX9) (N := 37) hx hb hts hin_X9 hown hK hP 0 rfl rfl 1 (by decide) (hts (.fieldLink RX9 93 "CryOrderModel" "alarms" "I") (by decide +kernel)) (fun _ h9 => h9) rfl dX9_alarm_46 ?_
          refine lv_iconst (v := 1) hx hb dX9_alarm_49 (by decide) ?_
          refine lv_isub hx hb dX9_alarm_50 ?_
          refine lv_tope (z := (-1)) (by decide) ?_
          refine lv_istore (lv' := [(5, .int (-1)), (0, .ref h0), (1, .int p0), (2, .int p1), (3, .int p2), (4, .int p3)]) hx hb dX9_alarm_51 hl (by decide) rfl (fun ls hl => ?_)
          refine lv_iload hx hb dX9_alarm_53 (lv_at hl 0 rfl) ?_
          refine lv_if_lt (tgt := 151) hx hb dX9_alarm_55 (by decide) (fun _ => ?_) (fun c_ => absurd c_ (by decide))
          refine lv_aload_n hx hb dX9_alarm_151 rfl (lv_at hl 1 rfl) ?_
          refine va_get (D := D) (ci := 9) (v := .int 0) (C := RX9) (T := TX9) (N := 37) hx hb hts hin_X9 hown hK hP 0 rfl rfl 1 (by decide) (hts (.fieldLink RX9 93 "CryOrderModel" "alarms" "I") (by decide +kernel)) (fun _ h9 => h9) rfl dX9_alarm_152 ?_
          refine lv_sipush (v := 200) hx hb dX9_alarm_155 (by decide) ?_
          refine lv_icmp_ne (tgt := 164) hx hb dX9_alarm_158 (by decide) (fun _ => ?_) (fun c_ => absurd c_ (by decide))
          refine lv_aload_n hx hb dX9_alarm_164 rfl (lv_at hl 1 rfl) ?_
          refine va_get (D := D) (ci := 9) (v := .int 0) (C := RX9) (T := TX9) (N := 37) hx hb hts hin_X9 hown hK hP 0 rfl rfl 1 (by decide) (hts (.fieldLink RX9 93 "CryOrderModel" "alarms" "I") (by decide +kernel)) (fun _ h9 => h9) rfl dX9_alarm_165 ?_
          refine lv_istore (lv' := [(5, .int 0), (0, .ref h0), (1, .int p0), (2, .int p1), (3, .int p2), (4, .int p3)]) hx hb dX9_alarm_168 hl (by decide) rfl (fun ls hl => ?_)
          refine lv_iconst (v := 0) hx hb dX9_alarm_170 (by decide) ?_
          refine lv_istore (lv' := [(6, .int 0), (5, .int 0), (0, .ref h0), (1, .int p0), (2, .int p1), (3, .int p2), (4, .int p3)]) hx hb dX9_alarm_171 hl (by decide) rfl (fun ls hl => ?_)
          refine lv_iconst (v := 0) hx hb dX9_alarm_173 (by decide) ?_
          refine lv_istore (lv' := [(7, .int 0), (6, .int 0), (5, .int 0), (0, .ref h0), (1, .int p0), (2, .int p1), (3, .int p2), (4, .int p3)]) hx hb dX9_alarm_174 hl (by decide) rfl (fun ls hl => ?_)
          refine lv_iload hx hb dX9_alarm_176 (lv_at hl 0 rfl) ?_
          refine lv_iload hx hb dX9_alarm_178 (lv_at hl 2 rfl) ?_
          refine lv_icmp_ge (tgt := 250) hx hb dX9_alarm_180 (by decide) (fun _ => ?_) (fun c_ => absurd c_ (by decide))
          refine lv_iconst (v := 0) hx hb dX9_alarm_250 (by decide) ?_
          refine lv_istore (lv' := [(7, .int 0), (6, .int 0), (5, .int 0), (0, .ref h0), (1, .int p0), (2, .int p1), (3, .int p2), (4, .int p3)]) hx hb dX9_alarm_251 hl (by decide) rfl (fun ls hl => ?_)
          refine lv_iload hx hb dX9_alarm_253 (lv_at hl 0 rfl) ?_
          refine lv_aload_n hx hb dX9_alarm_255 rfl (lv_at hl 3 rfl) ?_
          refine va_get (D := D) (ci := 9) (v := .int 0) (C := RX9) (T := TX9) (N := 37) hx hb hts hin_X9 hown hK hP 0 rfl rfl 2 (by decide) (hts (.fieldLink RX9 111 "CryOrderModel" "silences" "I") (by decide +kernel)) (fun _ h9 => h9) rfl dX9_alarm_256 ?_
          refine lv_icmp_ge (tgt := 325) hx hb dX9_alarm_259 (by decide) (fun _ => ?_) (fun c_ => absurd c_ (by decide))
          refine lv_aload_n hx hb dX9_alarm_325 rfl (lv_at hl 3 rfl) ?_
          refine va_get (D := D) (ci := 9) (v := .ref b12) (C := RX9) (T := TX9) (N := 37) hx hb hts hin_X9 hown hK hP 0 rfl rfl 18 (by decide) (hts (.fieldLink RX9 51 "CryOrderModel" "isCapped" "[Z") (by decide +kernel)) (fun _ h9 => h9) rfl dX9_alarm_326 ?_
          refine lv_iload hx hb dX9_alarm_329 (lv_at hl 2 rfl) ?_
          refine lv_aload_n hx hb dX9_alarm_331 rfl (lv_at hl 3 rfl) ?_
          refine va_get (D := D) (ci := 9) (v := .ref b11) (C := RX9) (T := TX9) (N := 37) hx hb hts hin_X9 hown hK hP 0 rfl rfl 17 (by decide) (hts (.fieldLink RX9 47 "CryOrderModel" "isSilenced" "[Z") (by decide +kernel)) (fun _ h9 => h9) rfl dX9_alarm_332 ?_
          refine lv_iload hx hb dX9_alarm_335 (lv_at hl 2 rfl) ?_
          refine va_zald hx hb hK hP 1 0 rfl rfl (vp_in0 (by decide)) dX9_alarm_337 ?_
          refine lv_tope (z := 0) rfl ?_
          refine lv_if_ne (tgt := 354) hx hb dX9_alarm_338 (by decide) (fun c_ => absurd c_ (by decide)) (fun _ => ?_)
          refine lv_iload hx hb dX9_alarm_341 (lv_at hl 1 rfl) ?_
          refine lv_aload_n hx hb dX9_alarm_343 rfl (lv_at hl 3 rfl) ?_
          refine va_get (D := D) (ci := 9) (v := .int 50) (C := RX9) (T := TX9) (N := 37) hx hb hts hin_X9 hown hK hP 0 rfl rfl 4 (by decide) (hts (.fieldLink RX9 7 "CryOrderModel" "cap" "I") (by decide +kernel)) (fun _ h9 => h9) rfl dX9_alarm_344 ?_
          refine lv_icmp_lt (tgt := 354) hx hb dX9_alarm_347 (by decide) (fun _ => ?_) (fun c_ => absurd c_ (by decide))
          refine lv_iconst (v := 0) hx hb dX9_alarm_354 (by decide) ?_
          refine va_zast hx hb hK hP hD hS 2 1 rfl rfl (vp_in0 (by decide)) dX9_alarm_355 (fun H_9 locs hP hD hS => ?_)
          have hP : va_P D vwCl [(h0, .inr (9, [.int 0, .int 0, .int 0, .int 0, .int 50, .int 3, .int 0, .ref b1, .ref b2, .ref b3, .ref b4, .ref b5, .ref b6, .ref b7, .ref b8, .ref b9, .ref b10, .ref b11, .ref b12, .ref b13, .ref b14, .ref b15, .ref b16, .ref b17, .ref b18, .int 0, .int 0, .int 0, .ref b19, .ref b20, .ref b21, .int 0, .ref b22, .ref b23, .int 0, .ref b24, .ref b25])), (b11, .inl (d11, 200, .inl (fun _ => 0))), (b12, .inl (d12, 200, .inl (upd (fun _ => 0) (0 : Int32).toNatClampNeg (vp_nar .boolean (0))))), (b1, .inl (d1, 200, .inl (fun _ => 0))), (b2, .inl (d2, 200, .inl (fun _ => 0))), (b3, .inl (d3, 200, .inl (fun _ => 0))), (b4, .inl (d4, 200, .inl (fun _ => 0))), (b5, .inl (d5, 200, .inl (fun _ => 0))), (b6, .inl (d6, 200, .inl (fun _ => 0)))] H_9 := hP
          have hD : va_D A [(h0, .inr (9, [.int 0, .int 0, .int 0, .int 0, .int 50, .int 3, .int 0, .ref b1, .ref b2, .ref b3, .ref b4, .ref b5, .ref b6, .ref b7, .ref b8, .ref b9, .ref b10, .ref b11, .ref b12, .ref b13, .ref b14, .ref b15, .ref b16, .ref b17, .ref b18, .int 0, .int 0, .int 0, .ref b19, .ref b20, .ref b21, .int 0, .ref b22, .ref b23, .int 0, .ref b24, .ref b25])), (b11, .inl (d11, 200, .inl (fun _ => 0))), (b12, .inl (d12, 200, .inl (upd (fun _ => 0) (0 : Int32).toNatClampNeg (vp_nar .boolean (0))))), (b1, .inl (d1, 200, .inl (fun _ => 0))), (b2, .inl (d2, 200, .inl (fun _ => 0))), (b3, .inl (d3, 200, .inl (fun _ => 0))), (b4, .inl (d4, 200, .inl (fun _ => 0))), (b5, .inl (d5, 200, .inl (fun _ => 0))), (b6, .inl (d6, 200, .inl (fun _ => 0)))] := hD
          refine lv_aload_n hx hb dX9_alarm_356 rfl (lv_at hl 3 rfl) ?_
          refine lv_dup hx hb dX9_alarm_357 rfl ?_
          refine va_get (D := D) (ci := 9) (v := .int 0) (C := RX9) (T := TX9) (N := 37) hx hb hts hin_X9 hown hK hP 0 rfl rfl 1 (by decide) (hts (.fieldLink RX9 93 "CryOrderModel" "alarms" "I") (by decide +kernel)) (fun _ h9 => h9) rfl dX9_alarm_358 ?_
          refine lv_iconst (v := 1) hx hb dX9_alarm_361 (by decide) ?_
          refine lv_iadd hx hb dX9_alarm_362 ?_
          refine lv_tope (z := 1) (by decide) ?_
          refine va_put (D := D) (ci := 9) (v := .int 1) (ty := .int) (C := RX9) (T := TX9) (N := 37) hx hb hts hin_X9 tyX9 tyX9_ok nmX9 hown hK hP hD hS 0 rfl rfl 1 (by decide) (hts (.fieldLink RX9 93 "CryOrderModel" "alarms" "I") (by decide +kernel)) (fun _ h9 => h9) rfl (by decide +kernel) rfl rfl (Nat.le_of_ble_eq_true rfl) dX9_alarm_363 (fun H_10 locs hP hD hS => ?_)
          have hP : va_P D vwCl [(h0, .inr (9, [.int 0, .int 1, .int 0, .int 0, .int 50, .int 3, .int 0, .ref b1, .ref b2, .ref b3, .ref b4, .ref b5, .ref b6, .ref b7, .ref b8, .ref b9, .ref b10, .ref b11, .ref b12, .ref b13, .ref b14, .ref b15, .ref b16, .ref b17, .ref b18, .int 0, .int 0, .int 0, .ref b19, .ref b20, .ref b21, .int 0, .ref b22, .ref b23, .int 0, .ref b24, .ref b25])), (b11, .inl (d11, 200, .inl (fun _ => 0))), (b12, .inl (d12, 200, .inl (upd (fun _ => 0) (0 : Int32).toNatClampNeg (vp_nar .boolean (0))))), (b1, .inl (d1, 200, .inl (fun _ => 0))), (b2, .inl (d2, 200, .inl (fun _ => 0))), (b3, .inl (d3, 200, .inl (fun _ => 0))), (b4, .inl (d4, 200, .inl (fun _ => 0))), (b5, .inl (d5, 200, .inl (fun _ => 0))), (b6, .inl (d6, 200, .inl (fun _ => 0)))] H_10 := hP
          have hD : va_D A [(h0, .inr (9, [.int 0, .int 1, .int 0, .int 0, .int 50, .int 3, .int 0, .ref b1, .ref b2, .ref b3, .ref b4, .ref b5, .ref b6, .ref b7, .ref b8, .ref b9, .ref b10, .ref b11, .ref b12, .ref b13, .ref b14, .ref b15, .ref b16, .ref b17, .ref b18, .int 0, .int 0, .int 0, .ref b19, .ref b20, .ref b21, .int 0, .ref b22, .ref b23, .int 0, .ref b24, .ref b25])), (b11, .inl (d11, 200, .inl (fun _ => 0))), (b12, .inl (d12, 200, .inl (upd (fun _ => 0) (0 : Int32).toNatClampNeg (vp_nar .boolean (0))))), (b1, .inl (d1, 200, .inl (fun _ => 0))), (b2, .inl (d2, 200, .inl (fun _ => 0))), (b3, .inl (d3, 200, .inl (fun _ => 0))), (b4, .inl (d4, 200, .inl (fun _ => 0))), (b5, .inl (d5, 200, .inl (fun _ => 0))), (b6, .inl (d6, 200, .inl (fun _ => 0)))] := hD
          refine lv_aload_n hx hb dX9_alarm_366 rfl (lv_at hl 3 rfl) ?_
          refine va_get (D := D) (ci := 9) (v := .ref b1) (C := RX9) (T := TX9) (N := 37) hx hb hts hin_X9 hown hK hP 0 rfl rfl 7 (by decide) (hts (.fieldLink RX9 16 "CryOrderModel" "came" "[I") (by decide +kernel)) (fun _ h9 => h9) rfl dX9_alarm_367 ?_
          refine lv_iload hx hb dX9_alarm_370 (lv_at hl 2 rfl) ?_
          refine lv_aload_n hx hb dX9_alarm_372 rfl (lv_at hl 3 rfl) ?_
          refine va_get (D := D) (ci := 9) (v := .int 0) (C := RX9) (T := TX9) (N := 37) hx hb hts hin_X9 hown hK hP 0 rfl rfl 0 (by decide) (hts (.fieldLink RX9 100 "CryOrderModel" "now" "I") (by decide +kernel)) (fun _ h9 => h9) rfl dX9_alarm_373 ?_
          refine va_iast hx hb hK hP hD hS 3 2 rfl rfl (vp_in0 (by decide)) dX9_alarm_376 (fun H_11 locs hP hD hS => ?_)
          have hP : va_P D vwCl [(h0, .inr (9, [.int 0, .int 1, .int 0, .int 0, .int 50, .int 3, .int 0, .ref b1, .ref b2, .ref b3, .ref b4, .ref b5, .ref b6, .ref b7, .ref b8, .ref b9, .ref b10, .ref b11, .ref b12, .ref b13, .ref b14, .ref b15, .ref b16, .ref b17, .ref b18, .int 0, .int 0, .int 0, .ref b19, .ref b20, .ref b21, .int 0, .ref b22, .ref b23, .int 0, .ref b24, .ref b25])), (b11, .inl (d11, 200, .inl (fun _ => 0))), (b12, .inl (d12, 200, .inl (upd (fun _ => 0) (0 : Int32).toNatClampNeg (vp_nar .boolean (0))))), (b1, .inl (d1, 200, .inl (upd (fun _ => 0) (0 : Int32).toNatClampNeg (0)))), (b2, .inl (d2, 200, .inl (fun _ => 0))), (b3, .inl (d3, 200, .inl (fun _ => 0))), (b4, .inl (d4, 200, .inl (fun _ => 0))), (b5, .inl (d5, 200, .inl (fun _ => 0))), (b6, .inl (d6, 200, .inl (fun _ => 0)))] H_11 := hP
          have hD : va_D A [(h0, .inr (9, [.int 0, .int 1, .int 0, .int 0, .int 50, .int 3, .int 0, .ref b1, .ref b2, .ref b3, .ref b4, .ref b5, .ref b6, .ref b7, .ref b8, .ref b9, .ref b10, .ref b11, .ref b12, .ref b13, .ref b14, .ref b15, .ref b16, .ref b17, .ref b18, .int 0, .int 0, .int 0, .ref b19, .ref b20, .ref b21, .int 0, .ref b22, .ref b23, .int 0, .ref b24, .ref b25])), (b11, .inl (d11, 200, .inl (fun _ => 0))), (b12, .inl (d12, 200, .inl (upd (fun _ => 0) (0 : Int32).toNatClampNeg (vp_nar .boolean (0))))), (b1, .inl (d1, 200, .inl (upd (fun _ => 0) (0 : Int32).toNatClampNeg (0)))), (b2, .inl (d2, 200, .inl (fun _ => 0))), (b3, .inl (d3, 200, .inl (fun _ => 0))), (b4, .inl (d4, 200, .inl (fun _ => 0))), (b5, .inl (d5, 200, .inl (fun _ => 0))), (b6, .inl (d6, 200, .inl (fun _ => 0)))] := hD
          refine lv_aload_n hx hb dX9_alarm_377 rfl (lv_at hl 3 rfl) ?_
          refine va_get (D := D) (ci := 9) (v := .ref b2) (C := RX9) (T := TX9) (N := 37) hx hb hts hin_X9 hown hK hP 0 rfl rfl 8 (by decide) (hts (.fieldLink RX9 20 "CryOrderModel" "last" "[I") (by decide +kernel)) (fun _ h9 => h9) rfl dX9_alarm_378 ?_
          refine lv_iload hx hb dX9_alarm_381 (lv_at hl 2 rfl) ?_
          refine lv_aload_n hx hb dX9_alarm_383 rfl (lv_at hl 3 rfl) ?_
          refine va_get (D := D) (ci := 9) (v := .int 0) (C := RX9) (T := TX9) (N := 37) hx hb hts hin_X9 hown hK hP 0 rfl rfl 0 (by decide) (hts (.fieldLink RX9 100 "CryOrderModel" "now" "I") (by decide +kernel)) (fun _ h9 => h9) rfl dX9_alarm_384 ?_
          refine va_iast hx hb hK hP hD hS 4 3 rfl rfl (vp_in0 (by decide)) dX9_alarm_387 (fun H_12 locs hP hD hS => ?_)
          have hP : va_P D vwCl [(h0, .inr (9, [.int 0, .int 1, .int 0, .int 0, .int 50, .int 3, .int 0, .ref b1, .ref b2, .ref b3, .ref b4, .ref b5, .ref b6, .ref b7, .ref b8, .ref b9, .ref b10, .ref b11, .ref b12, .ref b13, .ref b14, .ref b15, .ref b16, .ref b17, .ref b18, .int 0, .int 0, .int 0, .ref b19, .ref b20, .ref b21, .int 0, .ref b22, .ref b23, .int 0, .ref b24, .ref b25])), (b11, .inl (d11, 200, .inl (fun _ => 0))), (b12, .inl (d12, 200, .inl (upd (fun _ => 0) (0 : Int32).toNatClampNeg (vp_nar .boolean (0))))), (b1, .inl (d1, 200, .inl (upd (fun _ => 0) (0 : Int32).toNatClampNeg (0)))), (b2, .inl (d2, 200, .inl (upd (fun _ => 0) (0 : Int32).toNatClampNeg (0)))), (b3, .inl (d3, 200, .inl (fun _ => 0))), (b4, .inl (d4, 200, .inl (fun _ => 0))), (b5, .inl (d5, 200, .inl (fun _ => 0))), (b6, .inl (d6, 200, .inl (fun _ => 0)))] H_12 := hP
          have hD : va_D A [(h0, .inr (9, [.int 0, .int 1, .int 0, .int 0, .int 50, .int 3, .int 0, .ref b1, .ref b2, .ref b3, .ref b4, .ref b5, .ref b6, .ref b7, .ref b8, .ref b9, .ref b10, .ref b11, .ref b12, .ref b13, .ref b14, .ref b15, .ref b16, .ref b17, .ref b18, .int 0, .int 0, .int 0, .ref b19, .ref b20, .ref b21, .int 0, .ref b22, .ref b23, .int 0, .ref b24, .ref b25])), (b11, .inl (d11, 200, .inl (fun _ => 0))), (b12, .inl (d12, 200, .inl (upd (fun _ => 0) (0 : Int32).toNatClampNeg (vp_nar .boolean (0))))), (b1, .inl (d1, 200, .inl (upd (fun _ => 0) (0 : Int32).toNatClampNeg (0)))), (b2, .inl (d2, 200, .inl (upd (fun _ => 0) (0 : Int32).toNatClampNeg (0)))), (b3, .inl (d3, 200, .inl (fun _ => 0))), (b4, .inl (d4, 200, .inl (fun _ => 0))), (b5, .inl (d5, 200, .inl (fun _ => 0))), (b6, .inl (d6, 200, .inl (fun _ => 0)))] := hD
          refine lv_aload_n hx hb dX9_alarm_388 rfl (lv_at hl 3 rfl) ?_
          refine va_get (D := D) (ci := 9) (v := .ref b3) (C := RX9) (T := TX9) (N := 37) hx hb hts hin_X9 hown hK hP 0 rfl rfl 9 (by decide) (hts (.fieldLink RX9 23 "CryOrderModel" "source" "[I") (by decide +kernel)) (fun _ h9 => h9) rfl dX9_alarm_389 ?_
          refine lv_iload hx hb dX9_alarm_392 (lv_at hl 2 rfl) ?_
          refine lv_iload_n hx hb dX9_alarm_394 rfl (lv_at hl 4 rfl) ?_
          refine va_iast hx hb hK hP hD hS 5 4 rfl rfl (vp_in0 (by decide)) dX9_alarm_395 (fun H_13 locs hP hD hS => ?_)
          have hP : va_P D vwCl [(h0, .inr (9, [.int 0, .int 1, .int 0, .int 0, .int 50, .int 3, .int 0, .ref b1, .ref b2, .ref b3, .ref b4, .ref b5, .ref b6, .ref b7, .ref b8, .ref b9, .ref b10, .ref b11, .ref b12, .ref b13, .ref b14, .ref b15, .ref b16, .ref b17, .ref b18, .int 0, .int 0, .int 0, .ref b19, .ref b20, .ref b21, .int 0, .ref b22, .ref b23, .int 0, .ref b24, .ref b25])), (b11, .inl (d11, 200, .inl (fun _ => 0))), (b12, .inl (d12, 200, .inl (upd (fun _ => 0) (0 : Int32).toNatClampNeg (vp_nar .boolean (0))))), (b1, .inl (d1, 200, .inl (upd (fun _ => 0) (0 : Int32).toNatClampNeg (0)))), (b2, .inl (d2, 200, .inl (upd (fun _ => 0) (0 : Int32).toNatClampNeg (0)))), (b3, .inl (d3, 200, .inl (upd (fun _ => 0) (0 : Int32).toNatClampNeg (p0)))), (b4, .inl (d4, 200, .inl (fun _ => 0))), (b5, .inl (d5, 200, .inl (fun _ => 0))), (b6, .inl (d6, 200, .inl (fun _ => 0)))] H_13 := hP
          have hD : va_D A [(h0, .inr (9, [.int 0, .int 1, .int 0, .int 0, .int 50, .int 3, .int 0, .ref b1, .ref b2, .ref b3, .ref b4, .ref b5, .ref b6, .ref b7, .ref b8, .ref b9, .ref b10, .ref b11, .ref b12, .ref b13, .ref b14, .ref b15, .ref b16, .ref b17, .ref b18, .int 0, .int 0, .int 0, .ref b19, .ref b20, .ref b21, .int 0, .ref b22, .ref b23, .int 0, .ref b24, .ref b25])), (b11, .inl (d11, 200, .inl (fun _ => 0))), (b12, .inl (d12, 200, .inl (upd (fun _ => 0) (0 : Int32).toNatClampNeg (vp_nar .boolean (0))))), (b1, .inl (d1, 200, .inl (upd (fun _ => 0) (0 : Int32).toNatClampNeg (0)))), (b2, .inl (d2, 200, .inl (upd (fun _ => 0) (0 : Int32).toNatClampNeg (0)))), (b3, .inl (d3, 200, .inl (upd (fun _ => 0) (0 : Int32).toNatClampNeg (p0)))), (b4, .inl (d4, 200, .inl (fun _ => 0))), (b5, .inl (d5, 200, .inl (fun _ => 0))), (b6, .inl (d6, 200, .inl (fun _ => 0)))] := hD
          refine lv_aload_n hx hb dX9_alarm_396 rfl (lv_at hl 3 rfl) ?_
          refine va_get (D := D) (ci := 9) (v := .ref b4) (C := RX9) (T := TX9) (N := 37) hx hb hts hin_X9 hown hK hP 0 rfl rfl 10 (by decide) (hts (.fieldLink RX9 26 "CryOrderModel" "thing" "[I") (by decide +kernel)) (fun _ h9 => h9) rfl dX9_alarm_397 ?_
          refine lv_iload hx hb dX9_alarm_400 (lv_at hl 2 rfl) ?_
          refine lv_iload_n hx hb dX9_alarm_402 rfl (lv_at hl 5 rfl) ?_
          refine va_iast hx hb hK hP hD hS 6 5 rfl rfl (vp_in0 (by decide)) dX9_alarm_403 (fun H_14 locs hP hD hS => ?_)
          have hP : va_P D vwCl [(h0, .inr (9, [.int 0, .int 1, .int 0, .int 0, .int 50, .int 3, .int 0, .ref b1, .ref b2, .ref b3, .ref b4, .ref b5, .ref b6, .ref b7, .ref b8, .ref b9, .ref b10, .ref b11, .ref b12, .ref b13, .ref b14, .ref b15, .ref b16, .ref b17, .ref b18, .int 0, .int 0, .int 0, .ref b19, .ref b20, .ref b21, .int 0, .ref b22, .ref b23, .int 0, .ref b24, .ref b25])), (b11, .inl (d11, 200, .inl (fun _ => 0))), (b12, .inl (d12, 200, .inl (upd (fun _ => 0) (0 : Int32).toNatClampNeg (vp_nar .boolean (0))))), (b1, .inl (d1, 200, .inl (upd (fun _ => 0) (0 : Int32).toNatClampNeg (0)))), (b2, .inl (d2, 200, .inl (upd (fun _ => 0) (0 : Int32).toNatClampNeg (0)))), (b3, .inl (d3, 200, .inl (upd (fun _ => 0) (0 : Int32).toNatClampNeg (p0)))), (b4, .inl (d4, 200, .inl (upd (fun _ => 0) (0 : Int32).toNatClampNeg (p1)))), (b5, .inl (d5, 200, .inl (fun _ => 0))), (b6, .inl (d6, 200, .inl (fun _ => 0)))] H_14 := hP
          have hD : va_D A [(h0, .inr (9, [.int 0, .int 1, .int 0, .int 0, .int 50, .int 3, .int 0, .ref b1, .ref b2, .ref b3, .ref b4, .ref b5, .ref b6, .ref b7, .ref b8, .ref b9, .ref b10, .ref b11, .ref b12, .ref b13, .ref b14, .ref b15, .ref b16, .ref b17, .ref b18, .int 0, .int 0, .int 0, .ref b19, .ref b20, .ref b21, .int 0, .ref b22, .ref b23, .int 0, .ref b24, .ref b25])), (b11, .inl (d11, 200, .inl (fun _ => 0))), (b12, .inl (d12, 200, .inl (upd (fun _ => 0) (0 : Int32).toNatClampNeg (vp_nar .boolean (0))))), (b1, .inl (d1, 200, .inl (upd (fun _ => 0) (0 : Int32).toNatClampNeg (0)))), (b2, .inl (d2, 200, .inl (upd (fun _ => 0) (0 : Int32).toNatClampNeg (0)))), (b3, .inl (d3, 200, .inl (upd (fun _ => 0) (0 : Int32).toNatClampNeg (p0)))), (b4, .inl (d4, 200, .inl (upd (fun _ => 0) (0 : Int32).toNatClampNeg (p1)))), (b5, .inl (d5, 200, .inl (fun _ => 0))), (b6, .inl (d6, 200, .inl (fun _ => 0)))] := hD
          refine lv_aload_n hx hb dX9_alarm_404 rfl (lv_at hl 3 rfl) ?_
          refine va_get (D := D) (ci := 9) (v := .ref b5) (C := RX9) (T := TX9) (N := 37) hx hb hts hin_X9 hown hK hP 0 rfl rfl 11 (by decide) (hts (.fieldLink RX9 29 "CryOrderModel" "marks" "[I") (by decide +kernel)) (fun _ h9 => h9) rfl dX9_alarm_405 ?_
          refine lv_iload hx hb dX9_alarm_408 (lv_at hl 2 rfl) ?_
          refine lv_iload_n hx hb dX9_alarm_410 rfl (lv_at hl 6 rfl) ?_
          refine va_iast hx hb hK hP hD hS 7 6 rfl rfl (vp_in0 (by decide)) dX9_alarm_411 (fun H_15 locs hP hD hS => ?_)
          have hP : va_P D vwCl [(h0, .inr (9, [.int 0, .int 1, .int 0, .int 0, .int 50, .int 3, .int 0, .ref b1, .ref b2, .ref b3, .ref b4, .ref b5, .ref b6, .ref b7, .ref b8, .ref b9, .ref b10, .ref b11, .ref b12, .ref b13, .ref b14, .ref b15, .ref b16, .ref b17, .ref b18, .int 0, .int 0, .int 0, .ref b19, .ref b20, .ref b21, .int 0, .ref b22, .ref b23, .int 0, .ref b24, .ref b25])), (b11, .inl (d11, 200, .inl (fun _ => 0))), (b12, .inl (d12, 200, .inl (upd (fun _ => 0) (0 : Int32).toNatClampNeg (vp_nar .boolean (0))))), (b1, .inl (d1, 200, .inl (upd (fun _ => 0) (0 : Int32).toNatClampNeg (0)))), (b2, .inl (d2, 200, .inl (upd (fun _ => 0) (0 : Int32).toNatClampNeg (0)))), (b3, .inl (d3, 200, .inl (upd (fun _ => 0) (0 : Int32).toNatClampNeg (p0)))), (b4, .inl (d4, 200, .inl (upd (fun _ => 0) (0 : Int32).toNatClampNeg (p1)))), (b5, .inl (d5, 200, .inl (upd (fun _ => 0) (0 : Int32).toNatClampNeg (p2)))), (b6, .inl (d6, 200, .inl (fun _ => 0)))] H_15 := hP
          have hD : va_D A [(h0, .inr (9, [.int 0, .int 1, .int 0, .int 0, .int 50, .int 3, .int 0, .ref b1, .ref b2, .ref b3, .ref b4, .ref b5, .ref b6, .ref b7, .ref b8, .ref b9, .ref b10, .ref b11, .ref b12, .ref b13, .ref b14, .ref b15, .ref b16, .ref b17, .ref b18, .int 0, .int 0, .int 0, .ref b19, .ref b20, .ref b21, .int 0, .ref b22, .ref b23, .int 0, .ref b24, .ref b25])), (b11, .inl (d11, 200, .inl (fun _ => 0))), (b12, .inl (d12, 200, .inl (upd (fun _ => 0) (0 : Int32).toNatClampNeg (vp_nar .boolean (0))))), (b1, .inl (d1, 200, .inl (upd (fun _ => 0) (0 : Int32).toNatClampNeg (0)))), (b2, .inl (d2, 200, .inl (upd (fun _ => 0) (0 : Int32).toNatClampNeg (0)))), (b3, .inl (d3, 200, .inl (upd (fun _ => 0) (0 : Int32).toNatClampNeg (p0)))), (b4, .inl (d4, 200, .inl (upd (fun _ => 0) (0 : Int32).toNatClampNeg (p1)))), (b5, .inl (d5, 200, .inl (upd (fun _ => 0) (0 : Int32).toNatClampNeg (p2)))), (b6, .inl (d6, 200, .inl (fun _ => 0)))] := hD
          refine lv_aload_n hx hb dX9_alarm_412 rfl (lv_at hl 3 rfl) ?_
          refine va_get (D := D) (ci := 9) (v := .ref b6) (C := RX9) (T := TX9) (N := 37) hx hb hts hin_X9 hown hK hP 0 rfl rfl 12 (by decide) (hts (.fieldLink RX9 32 "CryOrderModel" "worth" "[I") (by decide +kernel)) (fun _ h9 => h9) rfl dX9_alarm_413 ?_
          refine lv_iload hx hb dX9_alarm_416 (lv_at hl 2 rfl) ?_
          refine lv_iload hx hb dX9_alarm_418 (lv_at hl 7 rfl) ?_
          refine va_iast hx hb hK hP hD hS 8 7 rfl rfl (vp_in0 (by decide)) dX9_alarm_420 (fun H_16 locs hP hD hS => ?_)
          have hP : va_P D vwCl [(h0, .inr (9, [.int 0, .int 1, .int 0, .int 0, .int 50, .int 3, .int 0, .ref b1, .ref b2, .ref b3, .ref b4, .ref b5, .ref b6, .ref b7, .ref b8, .ref b9, .ref b10, .ref b11, .ref b12, .ref b13, .ref b14, .ref b15, .ref b16, .ref b17, .ref b18, .int 0, .int 0, .int 0, .ref b19, .ref b20, .ref b21, .int 0, .ref b22, .ref b23, .int 0, .ref b24, .ref b25])), (b11, .inl (d11, 200, .inl (fun _ => 0))), (b12, .inl (d12, 200, .inl (upd (fun _ => 0) (0 : Int32).toNatClampNeg (vp_nar .boolean (0))))), (b1, .inl (d1, 200, .inl (upd (fun _ => 0) (0 : Int32).toNatClampNeg (0)))), (b2, .inl (d2, 200, .inl (upd (fun _ => 0) (0 : Int32).toNatClampNeg (0)))), (b3, .inl (d3, 200, .inl (upd (fun _ => 0) (0 : Int32).toNatClampNeg (p0)))), (b4, .inl (d4, 200, .inl (upd (fun _ => 0) (0 : Int32).toNatClampNeg (p1)))), (b5, .inl (d5, 200, .inl (upd (fun _ => 0) (0 : Int32).toNatClampNeg (p2)))), (b6, .inl (d6, 200, .inl (upd (fun _ => 0) (0 : Int32).toNatClampNeg (p3))))] H_16 := hP
          have hD : va_D A [(h0, .inr (9, [.int 0, .int 1, .int 0, .int 0, .int 50, .int 3, .int 0, .ref b1, .ref b2, .ref b3, .ref b4, .ref b5, .ref b6, .ref b7, .ref b8, .ref b9, .ref b10, .ref b11, .ref b12, .ref b13, .ref b14, .ref b15, .ref b16, .ref b17, .ref b18, .int 0, .int 0, .int 0, .ref b19, .ref b20, .ref b21, .int 0, .ref b22, .ref b23, .int 0, .ref b24, .ref b25])), (b11, .inl (d11, 200, .inl (fun _ => 0))), (b12, .inl (d12, 200, .inl (upd (fun _ => 0) (0 : Int32).toNatClampNeg (vp_nar .boolean (0))))), (b1, .inl (d1, 200, .inl (upd (fun _ => 0) (0 : Int32).toNatClampNeg (0)))), (b2, .inl (d2, 200, .inl (upd (fun _ => 0) (0 : Int32).toNatClampNeg (0)))), (b3, .inl (d3, 200, .inl (upd (fun _ => 0) (0 : Int32).toNatClampNeg (p0)))), (b4, .inl (d4, 200, .inl (upd (fun _ => 0) (0 : Int32).toNatClampNeg (p1)))), (b5, .inl (d5, 200, .inl (upd (fun _ => 0) (0 : Int32).toNatClampNeg (p2)))), (b6, .inl (d6, 200, .inl (upd (fun _ => 0) (0 : Int32).toNatClampNeg (p3))))] := hD
          refine lv_iload hx hb dX9_alarm_421 (lv_at hl 2 rfl) ?_
          refine W.widen (k := 0) (n := 0) (Nat.le_of_ble_eq_true rfl) (Nat.le_of_ble_eq_true rfl) ?_
          have hP9 := hP.sub (ws' := []) [] rfl
          have hD9 := hD.sub (ws' := []) [] (by decide) rfl
          have hK9 := hK.sub (tys' := []) [] rfl
          exact W.iret (v := 0) hx hb hr (fun t ht hW => ⟨⟨0, (), rfl, (by unfold F_alarm; first | exact (if_pos (by omega)).symm | exact (if_neg (by omega)).symm), by rw [ht]; exact hP9, va_K.moved hW.alike hK9, hD9⟩, hS.F ht⟩) hS.2.2 dX9_alarm_423
        · have h_8 : (p3).toInt < 1 ∨ 100 < (p3).toInt := h_8
          refine lv_if_ne (tgt := 45) hx hb dX9_alarm_39 (by decide) (fun c_ => absurd c_ (by decide)) (fun _ => ?_)
          refine lv_bipush (v := (-2)) hx hb dX9_alarm_42 (by decide) ?_
          refine W.widen (k := 0) (n := 0) (Nat.le_of_ble_eq_true rfl) (Nat.le_of_ble_eq_true rfl) ?_
          have hP9 := hP.sub (ws' := []) [] rfl
          have hD9 := hD.sub (ws' := []) [] (by decide) rfl
          have hK9 := hK.sub (tys' := []) [] rfl
          exact W.iret (v := (-2)) hx hb hr (fun t ht hW => ⟨⟨(-2), (), rfl, (by unfold F_alarm; first | exact (if_pos (by omega)).symm | exact (if_neg (by omega)).symm), by rw [ht]; exact hP9, va_K.moved hW.alike hK9, hD9⟩, hS.F ht⟩) hS.2.2 dX9_alarm_44
      · have h_6 : (p2).toInt < 0 ∨ 4095 < (p2).toInt := h_6
        refine lv_if_eq (tgt := 42) hx hb dX9_alarm_28 (by decide) (fun _ => ?_) (fun c_ => absurd c_ (by decide))
        refine lv_bipush (v := (-2)) hx hb dX9_alarm_42 (by decide) ?_
        refine W.widen (k := 0) (n := 0) (Nat.le_of_ble_eq_true rfl) (Nat.le_of_ble_eq_true rfl) ?_
        have hP9 := hP.sub (ws' := []) [] rfl
        have hD9 := hD.sub (ws' := []) [] (by decide) rfl
        have hK9 := hK.sub (tys' := []) [] rfl
        exact W.iret (v := (-2)) hx hb hr (fun t ht hW => ⟨⟨(-2), (), rfl, (by unfold F_alarm; first | exact (if_pos (by omega)).symm | exact (if_neg (by omega)).symm), by rw [ht]; exact hP9, va_K.moved hW.alike hK9, hD9⟩, hS.F ht⟩) hS.2.2 dX9_alarm_44
    · have h_4 : (p1).toInt < 0 ∨ 39 < (p1).toInt := h_4
      refine lv_if_eq (tgt := 42) hx hb dX9_alarm_17 (by decide) (fun _ => ?_) (fun c_ => absurd c_ (by decide))
      refine lv_bipush (v := (-2)) hx hb dX9_alarm_42 (by decide) ?_
      refine W.widen (k := 0) (n := 0) (Nat.le_of_ble_eq_true rfl) (Nat.le_of_ble_eq_true rfl) ?_
      have hP9 := hP.sub (ws' := []) [] rfl
      have hD9 := hD.sub (ws' := []) [] (by decide) rfl
      have hK9 := hK.sub (tys' := []) [] rfl
      exact W.iret (v := (-2)) hx hb hr (fun t ht hW => ⟨⟨(-2), (), rfl, (by unfold F_alarm; first | exact (if_pos (by omega)).symm | exact (if_neg (by omega)).symm), by rw [ht]; exact hP9, va_K.moved hW.alike hK9, hD9⟩, hS.F ht⟩) hS.2.2 dX9_alarm_44
  · have h_2 : (p0).toInt < 0 ∨ 9 < (p0).toInt := h_2
    refine lv_if_eq (tgt := 42) hx hb dX9_alarm_7 (by decide) (fun _ => ?_) (fun c_ => absurd c_ (by decide))
    refine lv_bipush (v := (-2)) hx hb dX9_alarm_42 (by decide) ?_
    refine W.widen (k := 0) (n := 0) (Nat.le_of_ble_eq_true rfl) (Nat.le_of_ble_eq_true rfl) ?_
    have hP9 := hP.sub (ws' := []) [] rfl
    have hD9 := hD.sub (ws' := []) [] (by decide) rfl
    have hK9 := hK.sub (tys' := []) [] rfl
    exact W.iret (v := (-2)) hx hb hr (fun t ht hW => ⟨⟨(-2), (), rfl, (by unfold F_alarm; first | exact (if_pos (by omega)).symm | exact (if_neg (by omega)).symm), by rw [ht]; exact hP9, va_K.moved hW.alike hK9, hD9⟩, hS.F ht⟩) hS.2.2 dX9_alarm_44
