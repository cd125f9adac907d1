set_option maxHeartbeats 4000000 in
set_option maxRecDepth 100000 in
theorem k_X8_pass (l : Launch) (D : va_G) (sz : Nat) (h0 : Nat) (a1 : Nat) (a2 : Nat) (a3 : Nat) (a4 : Nat) (a5 : Nat) (a6 : Nat) (a7 : Nat) (p0 : Int32) : Met l yX8_pass wsX8_pass ({ frames := 0, cells := 0, slots := 0, locals := 0 }) (va_Pc [.ref h0, .int p0] (wz sz D [] [(h0, .inr (8, [.ref a1, .ref a2, .ref a3, .ref a4, .ref a5, .ref a6, .ref a7, .int 0, .int 0, .int 0, .int 50, .int 3, .int 0, .int 0]))])) (va_Qi (fun (r : Int32) (_ : Unit) => r = F_pass p0) (fun _ t => wp D [] (va_A [(h0, .inr (8, [.ref a1, .ref a2, .ref a3, .ref a4, .ref a5, .ref a6, .ref a7, .int 0, .int 0, .int 0, .int 50, .int 3, .int 0, .int 0]))] sz) [] t) (va_A [(h0, .inr (8, [.ref a1, .ref a2, .ref a3, .ref a4, .ref a5, .ref a6, .ref a7, .int 0, .int 0, .int 0, .int 50, .int 3, .int 0, .int 0]))] sz)) 0 0 (va_A [(h0, .inr (8, [.ref a1, .ref a2, .ref a3, .ref a4, .ref a5, .ref a6, .ref a7, .int 0, .int 0, .int 0, .int 50, .int 3, .int 0, .int 0]))] sz) := by
  refine Met.ofW (cc := cX8_pass) (maxL := 2) (ret := (some .int)) (by decide) rfl ?_
  intro p e s m args below meth c s₁ B hml hv
  obtain ⟨rfl, hsz, hP, hK, hD0, hN⟩ := hv
  have hx := B.exec
  have hb := B.bytes
  have hr := B.returns
  have hts := atoms_spec (ws := wsX8_pass) B.pre
  have hown : s.vm.findClass RX8 = some m.cls := findClass_of_methodNamed B.named
  have hlocks := B.notSynchronized
  subst hsz
  have hD := hD0.self (sz := s.heap.size)
  generalize hAe : va_A [(h0, .inr (8, [.ref a1, .ref a2, .ref a3, .ref a4, .ref a5, .ref a6, .ref a7, .int 0, .int 0, .int 0, .int 50, .int 3, .int 0, .int 0]))] s.heap.size = A at hD ⊢
  have hA : ∀ q : Nat, s.heap.size ≤ q → A q := fun q h => by rw [← hAe]; exact Or.inr h
  have hS : va_S A s.heap s.heap [] := va_S.rf
  have hin_X8 : ∀ w ∈ u_ws RX8 TX8 14, w ∈ wsX8_pass := by decide +kernel
  have hl := lv_entry ([.ref h0, .int p0]) (n := 2) (Nat.le_of_ble_eq_true rfl)
  rw [lg_entry_eq]
  generalize (lg_sl ([.ref h0, .int p0]) ++ List.replicate (2 - (lg_sl ([.ref h0, .int p0])).length) Slot.unset).toArray = ls at hl ⊢
  have hl : lv_has ls 2 [(0, .ref h0), (1, .int p0)] := hl
  refine lv_iload_n hx hb dX8_pass_0 rfl (lv_at hl 1 rfl) ?_
  refine lv_iconst (v := 1) hx hb dX8_pass_1 (by decide) ?_
  refine bi_lt (zx := (p0).toInt) (zy := 1) (tgt := 24) hx hb dX8_pass_2 (by decide) rfl (by decide) (fun c_1 => ?_) (fun c_1 => ?_)
  · refine lv_iconst (v := (-1)) hx hb dX8_pass_24 (by decide) ?_
    refine W.widen (k := 0) (n := 0) (Nat.le_of_ble_eq_true rfl) (Nat.le_of_ble_eq_true rfl) ?_
    have hP9 := hP.sub (ws' := []) [] rfl
    have hD9 := hD.sub (ws' := []) [] (by decide) rfl
    have hK9 := hK.sub (tys' := []) [] rfl
    exact W.iret (v := (-1)) hx hb hr (fun t ht hW => ⟨⟨(-1), (), rfl, (by unfold F_pass; first | exact (if_pos (by omega)).symm | exact (if_neg (by omega)).symm), by rw [ht]; exact hP9, va_K.moved hW.alike hK9, hD9⟩, hS.F ht⟩) hS.2.2 dX8_pass_25
  · refine lv_iload_n hx hb dX8_pass_5 rfl (lv_at hl 1 rfl) ?_
    refine lv_sipush (v := 1000) hx hb dX8_pass_6 (by decide) ?_
    refine bi_gt (zx := (p0).toInt) (zy := 1000) (tgt := 24) hx hb dX8_pass_9 (by decide) rfl (by decide) (fun c_2 => ?_) (fun c_2 => ?_)
    · refine lv_iconst (v := (-1)) hx hb dX8_pass_24 (by decide) ?_
      refine W.widen (k := 0) (n := 0) (Nat.le_of_ble_eq_true rfl) (Nat.le_of_ble_eq_true rfl) ?_
      have hP9 := hP.sub (ws' := []) [] rfl
      have hD9 := hD.sub (ws' := []) [] (by decide) rfl
      have hK9 := hK.sub (tys' := []) [] rfl
      exact W.iret (v := (-1)) hx hb hr (fun t ht hW => ⟨⟨(-1), (), rfl, (by unfold F_pass; first | exact (if_pos (by omega)).symm | exact (if_neg (by omega)).symm), by rw [ht]; exact hP9, va_K.moved hW.alike hK9, hD9⟩, hS.F ht⟩) hS.2.2 dX8_pass_25
    · refine lv_aload_n hx hb dX8_pass_12 rfl (lv_at hl 0 rfl) ?_
      refine va_get (D := D) (ci := 8) (v := .int 0) (C := RX8) (T := TX8) (N := 14) hx hb hts hin_X8 hown hK hP 0 rfl rfl 9 (by decide) (hts (.fieldLink RX8 61 "CryOrder" "now" "I") (by decide +kernel)) (fun _ h9 => h9) rfl dX8_pass_13 ?_
      refine lv_iload_n hx hb dX8_pass_16 rfl (lv_at hl 1 rfl) ?_
      refine lv_iadd hx hb dX8_pass_17 ?_
      refine lv_tope (z := p0) (Int32.zero_add _) ?_
      refine lv_sipush (v := 10000) hx hb dX8_pass_18 (by decide) ?_
      refine bi_le (zx := (p0).toInt) (zy := 10000) (tgt := 26) hx hb dX8_pass_21 (by decide) rfl (by decide) (fun c_3 => ?_) (fun c_3 => ?_)
      · refine lv_aload_n hx hb dX8_pass_26 rfl (lv_at hl 0 rfl) ?_
        refine lv_dup hx hb dX8_pass_27 rfl ?_
        refine va_get (D := D) (ci := 8) (v := .int 0) (C := RX8) (T := TX8) (N := 14) hx hb hts hin_X8 hown hK hP 0 rfl rfl 9 (by decide) (hts (.fieldLink RX8 61 "CryOrder" "now" "I") (by decide +kernel)) (fun _ h9 => h9) rfl dX8_pass_28 ?_
        refine lv_iload_n hx hb dX8_pass_31 rfl (lv_at hl 1 rfl) ?_
        refine lv_iadd hx hb dX8_pass_32 ?_
        refine lv_tope (z := p0) (Int32.zero_add _) ?_
        refine va_put (D := D) (ci := 8) (v := .int p0) (ty := .int) (C := RX8) (T := TX8) (N := 14) hx hb hts hin_X8 tyX8 tyX8_ok nmX8 hown hK hP hD hS 0 rfl rfl 9 (by decide) (hts (.fieldLink RX8 61 "CryOrder" "now" "I") (by decide +kernel)) (fun _ h9 => h9) rfl (by decide +kernel) rfl rfl (Nat.le_of_ble_eq_true rfl) dX8_pass_33 (fun H_4 locs hP hD hS => ?_)
        have hP : va_P D vwCl [(h0, .inr (8, [.ref a1, .ref a2, .ref a3, .ref a4, .ref a5, .ref a6, .ref a7, .int 0, .int 0, .int p0, .int 50, .int 3, .int 0, .int 0]))] H_4 := hP
        have hD : va_D A [(h0, .inr (8, [.ref a1, .ref a2, .ref a3, .ref a4, .ref a5, .ref a6, .ref a7, .int 0, .int 0, .int p0, .int 50, .int 3, .int 0, .int 0]))] := hD
        refine lv_aload_n hx hb dX8_pass_36 rfl (lv_at hl 0 rfl) ?_
        refine va_get (D := D) (ci := 8) (v := .int p0) (C := RX8) (T := TX8) (N := 14) hx hb hts hin_X8 hown hK hP 0 rfl rfl 9 (by decide) (hts (.fieldLink RX8 61 "CryOrder" "now" "I") (by decide +kernel)) (fun _ h9 => h9) rfl dX8_pass_37 ?_
        refine W.widen (k := 0) (n := 0) (Nat.le_of_ble_eq_true rfl) (Nat.le_of_ble_eq_true rfl) ?_
        have hP9 := hP.sub (ws' := []) [] rfl
        have hD9 := hD.sub (ws' := []) [] (by decide) rfl
        have hK9 := hK.sub (tys' := []) [] rfl
        exact W.iret (v := p0) hx hb hr (fun t ht hW => ⟨⟨p0, (), rfl, (by unfold F_pass; first | exact (if_pos (by omega)).symm | exact (if_neg (by omega)).symm), by rw [ht]; exact hP9, va_K.moved hW.alike hK9, hD9⟩, hS.F ht⟩) hS.2.2 dX8_pass_40
      · refine lv_iconst (v := (-1)) hx hb dX8_pass_24 (by decide) ?_
        refine W.widen (k := 0) (n := 0) (Nat.le_of_ble_eq_true rfl) (Nat.le_of_ble_eq_true rfl) ?_
        have hP9 := hP.sub (ws' := []) [] rfl
        have hD9 := hD.sub (ws' := []) [] (by decide) rfl
        have hK9 := hK.sub (tys' := []) [] rfl
        exact W.iret (v := (-1)) hx hb hr (fun t ht hW => ⟨⟨(-1), (), rfl, (by unfold F_pass; first | exact (if_pos (by omega)).symm | exact (if_neg (by omega)).symm), by rw [ht]; exact hP9, va_K.moved hW.alike hK9, hD9⟩, hS.F ht⟩) hS.2.2 dX8_pass_25

set_option maxHeartbeats 4000000 in
set_option maxRecDepth 100000 in
theorem k_X8_set (l : Launch) (D : va_G) (sz : Nat) (h0 : Nat) (a1 : Nat) (a2 : Nat) (a3 : Nat) (a4 : Nat) (a5 : Nat) (a6 : Nat) (a7 : Nat) (p0 : Int32) (p1 : Int32) : Met l yX8_set wsX8_set ({ frames := 0, cells := 0, slots := 0, locals := 0 }) (va_Pc [.ref h0, .int p0, .int p1] (wz sz D [] [(h0, .inr (8, [.ref a1, .ref a2, .ref a3, .ref a4, .ref a5, .ref a6, .ref a7, .int 0, .int 0, .int 0, .int 50, .int 3, .int 0, .int 0]))])) (va_Qi (fun (r : Int32) (_ : Unit) => r = F_set p0 p1) (fun _ t => wp D [] (va_A [(h0, .inr (8, [.ref a1, .ref a2, .ref a3, .ref a4, .ref a5, .ref a6, .ref a7, .int 0, .int 0, .int 0, .int 50, .int 3, .int 0, .int 0]))] sz) [] t) (va_A [(h0, .inr (8, [.ref a1, .ref a2, .ref a3, .ref a4, .ref a5, .ref a6, .ref a7, .int 0, .int 0, .int 0, .int 50, .int 3, .int 0, .int 0]))] sz)) 0 0 (va_A [(h0, .inr (8, [.ref a1, .ref a2, .ref a3, .ref a4, .ref a5, .ref a6, .ref a7, .int 0, .int 0, .int 0, .int 50, .int 3, .int 0, .int 0]))] sz) := by
  refine Met.ofW (cc := cX8_set) (maxL := 3) (ret := (some .boolean)) (by decide) rfl ?_
  intro p e s m args below meth c s₁ B hml hv
  obtain ⟨rfl, hsz, hP, hK, hD0, hN⟩ := hv
  have hx := B.exec
  have hb := B.bytes
  have hr := B.returns
  have hts := atoms_spec (ws := wsX8_set) B.pre
  have hown : s.vm.findClass RX8 = some m.cls := findClass_of_methodNamed B.named
  have hlocks := B.notSynchronized
  subst hsz
  have hD := hD0.self (sz := s.heap.size)
  generalize hAe : va_A [(h0, .inr (8, [.ref a1, .ref a2, .ref a3, .ref a4, .ref a5, .ref a6, .ref a7, .int 0, .int 0, .int 0, .int 50, .int 3, .int 0, .int 0]))] s.heap.size = A at hD ⊢
  have hA : ∀ q : Nat, s.heap.size ≤ q → A q := fun q h => by rw [← hAe]; exact Or.inr h
  have hS : va_S A s.heap s.heap [] := va_S.rf
  have hin_X8 : ∀ w ∈ u_ws RX8 TX8 14, w ∈ wsX8_set := by decide +kernel
  have hl := lv_entry ([.ref h0, .int p0, .int p1]) (n := 3) (Nat.le_of_ble_eq_true rfl)
  rw [lg_entry_eq]
  generalize (lg_sl ([.ref h0, .int p0, .int p1]) ++ List.replicate (3 - (lg_sl ([.ref h0, .int p0, .int p1])).length) Slot.unset).toArray = ls at hl ⊢
  have hl : lv_has ls 3 [(0, .ref h0), (1, .int p0), (2, .int p1)] := hl
  refine lv_iload_n hx hb dX8_set_0 rfl (lv_at hl 1 rfl) ?_
  refine bz_ne (zx := (p0).toInt) (tgt := 22) hx hb dX8_set_1 (by decide) rfl (fun c_1 => ?_) (fun c_1 => ?_)
  · refine lv_iload_n hx hb dX8_set_22 rfl (lv_at hl 1 rfl) ?_
    refine lv_iconst (v := 1) hx hb dX8_set_23 (by decide) ?_
    refine bi_ne (zx := (p0).toInt) (zy := 1) (tgt := 50) hx hb dX8_set_24 (by decide) rfl (by decide) (fun c_2 => ?_) (fun c_2 => ?_)
    · refine lv_iload_n hx hb dX8_set_50 rfl (lv_at hl 1 rfl) ?_
      refine lv_iconst (v := 2) hx hb dX8_set_51 (by decide) ?_
      refine bi_ne (zx := (p0).toInt) (zy := 2) (tgt := 71) hx hb dX8_set_52 (by decide) rfl (by decide) (fun c_3 => ?_) (fun c_3 => ?_)
      · refine lv_iconst (v := 0) hx hb dX8_set_71 (by decide) ?_
        refine W.widen (k := 0) (n := 0) (Nat.le_of_ble_eq_true rfl) (Nat.le_of_ble_eq_true rfl) ?_
        have hP9 := hP.sub (ws' := []) [] rfl
        have hD9 := hD.sub (ws' := []) [] (by decide) rfl
        have hK9 := hK.sub (tys' := []) [] rfl
        exact W.zret (v := 0) hx hb hr rfl (fun t ht hW => ⟨⟨0, (), rfl, (by unfold F_set; first | exact (if_pos (by omega)).symm | exact (if_neg (by omega)).symm), by rw [ht]; exact hP9, va_K.moved hW.alike hK9, hD9⟩, hS.F ht⟩) hS.2.2 dX8_set_72
      · refine lv_iload_n hx hb dX8_set_55 rfl (lv_at hl 2 rfl) ?_
        refine bz_lt (zx := (p1).toInt) (tgt := 71) hx hb dX8_set_56 (by decide) rfl (fun c_4 => ?_) (fun c_4 => ?_)
        · refine lv_iconst (v := 0) hx hb dX8_set_71 (by decide) ?_
          refine W.widen (k := 0) (n := 0) (Nat.le_of_ble_eq_true rfl) (Nat.le_of_ble_eq_true rfl) ?_
          have hP9 := hP.sub (ws' := []) [] rfl
          have hD9 := hD.sub (ws' := []) [] (by decide) rfl
          have hK9 := hK.sub (tys' := []) [] rfl
          exact W.zret (v := 0) hx hb hr rfl (fun t ht hW => ⟨⟨0, (), rfl, (by unfold F_set; first | exact (if_pos (by omega)).symm | exact (if_neg (by omega)).symm), by rw [ht]; exact hP9, va_K.moved hW.alike hK9, hD9⟩, hS.F ht⟩) hS.2.2 dX8_set_72
        · refine lv_iload_n hx hb dX8_set_59 rfl (lv_at hl 2 rfl) ?_
          refine lv_iconst (v := 5) hx hb dX8_set_60 (by decide) ?_
          refine bi_gt (zx := (p1).toInt) (zy := 5) (tgt := 71) hx hb dX8_set_61 (by decide) rfl (by decide) (fun c_5 => ?_) (fun c_5 => ?_)
          · refine lv_iconst (v := 0) hx hb dX8_set_71 (by decide) ?_
            refine W.widen (k := 0) (n := 0) (Nat.le_of_ble_eq_true rfl) (Nat.le_of_ble_eq_true rfl) ?_
            have hP9 := hP.sub (ws' := []) [] rfl
            have hD9 := hD.sub (ws' := []) [] (by decide) rfl
            have hK9 := hK.sub (tys' := []) [] rfl
            exact W.zret (v := 0) hx hb hr rfl (fun t ht hW => ⟨⟨0, (), rfl, (by unfold F_set; first | exact (if_pos (by omega)).symm | exact (if_neg (by omega)).symm), by rw [ht]; exact hP9, va_K.moved hW.alike hK9, hD9⟩, hS.F ht⟩) hS.2.2 dX8_set_72
          · refine lv_aload_n hx hb dX8_set_64 rfl (lv_at hl 0 rfl) ?_
            refine lv_iload_n hx hb dX8_set_65 rfl (lv_at hl 2 rfl) ?_
            refine va_put (D := D) (ci := 8) (v := .int p1) (ty := .int) (C := RX8) (T := TX8) (N := 14) hx hb hts hin_X8 tyX8 tyX8_ok nmX8 hown hK hP hD hS 0 rfl rfl 12 (by decide) (hts (.fieldLink RX8 122 "CryOrder" "tries" "I") (by decide +kernel)) (fun _ h9 => h9) rfl (by decide +kernel) rfl rfl (Nat.le_of_ble_eq_true rfl) dX8_set_66 (fun H_6 locs hP hD hS => ?_)
            have hP : va_P D vwCl [(h0, .inr (8, [.ref a1, .ref a2, .ref a3, .ref a4, .ref a5, .ref a6, .ref a7, .int 0, .int 0, .int 0, .int 50, .int 3, .int p1, .int 0]))] H_6 := hP
            have hD : va_D A [(h0, .inr (8, [.ref a1, .ref a2, .ref a3, .ref a4, .ref a5, .ref a6, .ref a7, .int 0, .int 0, .int 0, .int 50, .int 3, .int p1, .int 0]))] := hD
            refine lv_iconst (v := 1) hx hb dX8_set_69 (by decide) ?_
            refine W.widen (k := 0) (n := 0) (Nat.le_of_ble_eq_true rfl) (Nat.le_of_ble_eq_true rfl) ?_
            have hP9 := hP.sub (ws' := []) [] rfl
            have hD9 := hD.sub (ws' := []) [] (by decide) rfl
            have hK9 := hK.sub (tys' := []) [] rfl
            exact W.zret (v := 1) hx hb hr rfl (fun t ht hW => ⟨⟨1, (), rfl, (by unfold F_set; first | exact (if_pos (by omega)).symm | exact (if_neg (by omega)).symm), by rw [ht]; exact hP9, va_K.moved hW.alike hK9, hD9⟩, hS.F ht⟩) hS.2.2 dX8_set_70
    · refine lv_iload_n hx hb dX8_set_27 rfl (lv_at hl 2 rfl) ?_
      refine lv_iconst (v := 1) hx hb dX8_set_28 (by decide) ?_
      refine bi_lt (zx := (p1).toInt) (zy := 1) (tgt := 50) hx hb dX8_set_29 (by decide) rfl (by decide) (fun c_7 => ?_) (fun c_7 => ?_)
      · refine lv_iload_n hx hb dX8_set_50 rfl (lv_at hl 1 rfl) ?_
        refine lv_iconst (v := 2) hx hb dX8_set_51 (by decide) ?_
        refine bi_ne (zx := (p0).toInt) (zy := 2) (tgt := 71) hx hb dX8_set_52 (by decide) rfl (by decide) (fun c_8 => ?_) (fun c_8 => ?_)
        · refine lv_iconst (v := 0) hx hb dX8_set_71 (by decide) ?_
          refine W.widen (k := 0) (n := 0) (Nat.le_of_ble_eq_true rfl) (Nat.le_of_ble_eq_true rfl) ?_
          have hP9 := hP.sub (ws' := []) [] rfl
          have hD9 := hD.sub (ws' := []) [] (by decide) rfl
          have hK9 := hK.sub (tys' := []) [] rfl
          exact W.zret (v := 0) hx hb hr rfl (fun t ht hW => ⟨⟨0, (), rfl, (by unfold F_set; first | exact (if_pos (by omega)).symm | exact (if_neg (by omega)).symm), by rw [ht]; exact hP9, va_K.moved hW.alike hK9, hD9⟩, hS.F ht⟩) hS.2.2 dX8_set_72
        · refine lv_iload_n hx hb dX8_set_55 rfl (lv_at hl 2 rfl) ?_
          refine bz_lt (zx := (p1).toInt) (tgt := 71) hx hb dX8_set_56 (by decide) rfl (fun c_9 => ?_) (fun c_9 => ?_)
          · refine lv_iconst (v := 0) hx hb dX8_set_71 (by decide) ?_
            refine W.widen (k := 0) (n := 0) (Nat.le_of_ble_eq_true rfl) (Nat.le_of_ble_eq_true rfl) ?_
            have hP9 := hP.sub (ws' := []) [] rfl
            have hD9 := hD.sub (ws' := []) [] (by decide) rfl
            have hK9 := hK.sub (tys' := []) [] rfl
            exact W.zret (v := 0) hx hb hr rfl (fun t ht hW => ⟨⟨0, (), rfl, (by unfold F_set; first | exact (if_pos (by omega)).symm | exact (if_neg (by omega)).symm), by rw [ht]; exact hP9, va_K.moved hW.alike hK9, hD9⟩, hS.F ht⟩) hS.2.2 dX8_set_72
          · refine lv_iload_n hx hb dX8_set_59 rfl (lv_at hl 2 rfl) ?_
            refine lv_iconst (v := 5) hx hb dX8_set_60 (by decide) ?_
            refine bi_gt (zx := (p1).toInt) (zy := 5) (tgt := 71) hx hb dX8_set_61 (by decide) rfl (by decide) (fun c_10 => ?_) (fun c_10 => ?_)
            · refine lv_iconst (v := 0) hx hb dX8_set_71 (by decide) ?_
              refine W.widen (k := 0) (n := 0) (Nat.le_of_ble_eq_true rfl) (Nat.le_of_ble_eq_true rfl) ?_
              have hP9 := hP.sub (ws' := []) [] rfl
              have hD9 := hD.sub (ws' := []) [] (by decide) rfl
              have hK9 := hK.sub (tys' := []) [] rfl
              exact W.zret (v := 0) hx hb hr rfl (fun t ht hW => ⟨⟨0, (), rfl, (by unfold F_set; first | exact (if_pos (by omega)).symm | exact (if_neg (by omega)).symm), by rw [ht]; exact hP9, va_K.moved hW.alike hK9, hD9⟩, hS.F ht⟩) hS.2.2 dX8_set_72
            · refine lv_aload_n hx hb dX8_set_64 rfl (lv_at hl 0 rfl) ?_
              refine lv_iload_n hx hb dX8_set_65 rfl (lv_at hl 2 rfl) ?_
              refine va_put (D := D) (ci := 8) (v := .int p1) (ty := .int) (C := RX8) (T := TX8) (N := 14) hx hb hts hin_X8 tyX8 tyX8_ok nmX8 hown hK hP hD hS 0 rfl rfl 12 (by decide) (hts (.fieldLink RX8 122 "CryOrder" "tries" "I") (by decide +kernel)) (fun _ h9 => h9) rfl (by decide +kernel) rfl rfl (Nat.le_of_ble_eq_true rfl) dX8_set_66 (fun H_11 locs hP hD hS => ?_)
              have hP : va_P D vwCl [(h0, .inr (8, [.ref a1, .ref a2, .ref a3, .ref a4, .ref a5, .ref a6, .ref a7, .int 0, .int 0, .int 0, .int 50, .int 3, .int p1, .int 0]))] H_11 := hP
              have hD : va_D A [(h0, .inr (8, [.ref a1, .ref a2, .ref a3, .ref a4, .ref a5, .ref a6, .ref a7, .int 0, .int 0, .int 0, .int 50, .int 3, .int p1, .int 0]))] := hD
              refine lv_iconst (v := 1) hx hb dX8_set_69 (by decide) ?_
              refine W.widen (k := 0) (n := 0) (Nat.le_of_ble_eq_true rfl) (Nat.le_of_ble_eq_true rfl) ?_
              have hP9 := hP.sub (ws' := []) [] rfl
              have hD9 := hD.sub (ws' := []) [] (by decide) rfl
              have hK9 := hK.sub (tys' := []) [] rfl
              exact W.zret (v := 1) hx hb hr rfl (fun t ht hW => ⟨⟨1, (), rfl, (by unfold F_set; first | exact (if_pos (by omega)).symm | exact (if_neg (by omega)).symm), by rw [ht]; exact hP9, va_K.moved hW.alike hK9, hD9⟩, hS.F ht⟩) hS.2.2 dX8_set_70
      · refine lv_iload_n hx hb dX8_set_32 rfl (lv_at hl 2 rfl) ?_
        refine lv_bipush (v := 20) hx hb dX8_set_33 (by decide) ?_
        refine bi_gt (zx := (p1).toInt) (zy := 20) (tgt := 50) hx hb dX8_set_35 (by decide) rfl (by decide) (fun c_12 => ?_) (fun c_12 => ?_)
        · refine lv_iload_n hx hb dX8_set_50 rfl (lv_at hl 1 rfl) ?_
          refine lv_iconst (v := 2) hx hb dX8_set_51 (by decide) ?_
          refine bi_ne (zx := (p0).toInt) (zy := 2) (tgt := 71) hx hb dX8_set_52 (by decide) rfl (by decide) (fun c_13 => ?_) (fun c_13 => ?_)
          · refine lv_iconst (v := 0) hx hb dX8_set_71 (by decide) ?_
            refine W.widen (k := 0) (n := 0) (Nat.le_of_ble_eq_true rfl) (Nat.le_of_ble_eq_true rfl) ?_
            have hP9 := hP.sub (ws' := []) [] rfl
            have hD9 := hD.sub (ws' := []) [] (by decide) rfl
            have hK9 := hK.sub (tys' := []) [] rfl
            exact W.zret (v := 0) hx hb hr rfl (fun t ht hW => ⟨⟨0, (), rfl, (by unfold F_set; first | exact (if_pos (by omega)).symm | exact (if_neg (by omega)).symm), by rw [ht]; exact hP9, va_K.moved hW.alike hK9, hD9⟩, hS.F ht⟩) hS.2.2 dX8_set_72
          · refine lv_iload_n hx hb dX8_set_55 rfl (lv_at hl 2 rfl) ?_
            refine bz_lt (zx := (p1).toInt) (tgt := 71) hx hb dX8_set_56 (by decide) rfl (fun c_14 => ?_) (fun c_14 => ?_)
            · refine lv_iconst (v := 0) hx hb dX8_set_71 (by decide) ?_
              refine W.widen (k := 0) (n := 0) (Nat.le_of_ble_eq_true rfl) (Nat.le_of_ble_eq_true rfl) ?_
              have hP9 := hP.sub (ws' := []) [] rfl
              have hD9 := hD.sub (ws' := []) [] (by decide) rfl
              have hK9 := hK.sub (tys' := []) [] rfl
              exact W.zret (v := 0) hx hb hr rfl (fun t ht hW => ⟨⟨0, (), rfl, (by unfold F_set; first | exact (if_pos (by omega)).symm | exact (if_neg (by omega)).symm), by rw [ht]; exact hP9, va_K.moved hW.alike hK9, hD9⟩, hS.F ht⟩) hS.2.2 dX8_set_72
            · refine lv_iload_n hx hb dX8_set_59 rfl (lv_at hl 2 rfl) ?_
              refine lv_iconst (v := 5) hx hb dX8_set_60 (by decide) ?_
              refine bi_gt (zx := (p1).toInt) (zy := 5) (tgt := 71) hx hb dX8_set_61 (by decide) rfl (by decide) (fun c_15 => ?_) (fun c_15 => ?_)
              · refine lv_iconst (v := 0) hx hb dX8_set_71 (by decide) ?_
                refine W.widen (k := 0) (n := 0) (Nat.le_of_ble_eq_true rfl) (Nat.le_of_ble_eq_true rfl) ?_
                have hP9 := hP.sub (ws' := []) [] rfl
                have hD9 := hD.sub (ws' := []) [] (by decide) rfl
                have hK9 := hK.sub (tys' := []) [] rfl
                exact W.zret (v := 0) hx hb hr rfl (fun t ht hW => ⟨⟨0, (), rfl, (by unfold F_set; first | exact (if_pos (by omega)).symm | exact (if_neg (by omega)).symm), by rw [ht]; exact hP9, va_K.moved hW.alike hK9, hD9⟩, hS.F ht⟩) hS.2.2 dX8_set_72
              · refine lv_aload_n hx hb dX8_set_64 rfl (lv_at hl 0 rfl) ?_
                refine lv_iload_n hx hb dX8_set_65 rfl (lv_at hl 2 rfl) ?_
                refine va_put (D := D) (ci := 8) (v := .int p1) (ty := .int) (C := RX8) (T := TX8) (N := 14) hx hb hts hin_X8 tyX8 tyX8_ok nmX8 hown hK hP hD hS 0 rfl rfl 12 (by decide) (hts (.fieldLink RX8 122 "CryOrder" "tries" "I") (by decide +kernel)) (fun _ h9 => h9) rfl (by decide +kernel) rfl rfl (Nat.le_of_ble_eq_true rfl) dX8_set_66 (fun H_16 locs hP hD hS => ?_)
                have hP : va_P D vwCl [(h0, .inr (8, [.ref a1, .ref a2, .ref a3, .ref a4, .ref a5, .ref a6, .ref a7, .int 0, .int 0, .int 0, .int 50, .int 3, .int p1, .int 0]))] H_16 := hP
                have hD : va_D A [(h0, .inr (8, [.ref a1, .ref a2, .ref a3, .ref a4, .ref a5, .ref a6, .ref a7, .int 0, .int 0, .int 0, .int 50, .int 3, .int p1, .int 0]))] := hD
                refine lv_iconst (v := 1) hx hb dX8_set_69 (by decide) ?_
                refine W.widen (k := 0) (n := 0) (Nat.le_of_ble_eq_true rfl) (Nat.le_of_ble_eq_true rfl) ?_
                have hP9 := hP.sub (ws' := []) [] rfl
                have hD9 := hD.sub (ws' := []) [] (by decide) rfl
                have hK9 := hK.sub (tys' := []) [] rfl
                exact W.zret (v := 1) hx hb hr rfl (fun t ht hW => ⟨⟨1, (), rfl, (by unfold F_set; first | exact (if_pos (by omega)).symm | exact (if_neg (by omega)).symm), by rw [ht]; exact hP9, va_K.moved hW.alike hK9, hD9⟩, hS.F ht⟩) hS.2.2 dX8_set_70
        · refine lv_aload_n hx hb dX8_set_38 rfl (lv_at hl 0 rfl) ?_
          refine lv_iload_n hx hb dX8_set_39 rfl (lv_at hl 2 rfl) ?_
          refine va_put (D := D) (ci := 8) (v := .int p1) (ty := .int) (C := RX8) (T := TX8) (N := 14) hx hb hts hin_X8 tyX8 tyX8_ok nmX8 hown hK hP hD hS 0 rfl rfl 11 (by decide) (hts (.fieldLink RX8 58 "CryOrder" "leastSettled" "I") (by decide +kernel)) (fun _ h9 => h9) rfl (by decide +kernel) rfl rfl (Nat.le_of_ble_eq_true rfl) dX8_set_40 (fun H_17 locs hP hD hS => ?_)
          have hP : va_P D vwCl [(h0, .inr (8, [.ref a1, .ref a2, .ref a3, .ref a4, .ref a5, .ref a6, .ref a7, .int 0, .int 0, .int 0, .int 50, .int p1, .int 0, .int 0]))] H_17 := hP
          have hD : va_D A [(h0, .inr (8, [.ref a1, .ref a2, .ref a3, .ref a4, .ref a5, .ref a6, .ref a7, .int 0, .int 0, .int 0, .int 50, .int p1, .int 0, .int 0]))] := hD
          refine lv_aload_n hx hb dX8_set_43 rfl (lv_at hl 0 rfl) ?_
          refine lv_iconst (v := 1) hx hb dX8_set_44 (by decide) ?_
          refine va_put (D := D) (ci := 8) (v := .int 1) (ty := .boolean) (C := RX8) (T := TX8) (N := 14) hx hb hts hin_X8 tyX8 tyX8_ok nmX8 hown hK hP hD hS 0 rfl rfl 13 (by decide) (hts (.fieldLink RX8 113 "CryOrder" "casesAreStale" "Z") (by decide +kernel)) (fun _ h9 => h9) rfl (by decide +kernel) rfl rfl (Nat.le_of_ble_eq_true rfl) dX8_set_45 (fun H_18 locs hP hD hS => ?_)
          have hP : va_P D vwCl [(h0, .inr (8, [.ref a1, .ref a2, .ref a3, .ref a4, .ref a5, .ref a6, .ref a7, .int 0, .int 0, .int 0, .int 50, .int p1, .int 0, .int 1]))] H_18 := hP
          have hD : va_D A [(h0, .inr (8, [.ref a1, .ref a2, .ref a3, .ref a4, .ref a5, .ref a6, .ref a7, .int 0, .int 0, .int 0, .int 50, .int p1, .int 0, .int 1]))] := hD
          refine lv_iconst (v := 1) hx hb dX8_set_48 (by decide) ?_
          refine W.widen (k := 0) (n := 0) (Nat.le_of_ble_eq_true rfl) (Nat.le_of_ble_eq_true rfl) ?_
          have hP9 := hP.sub (ws' := []) [] rfl
          have hD9 := hD.sub (ws' := []) [] (by decide) rfl
          have hK9 := hK.sub (tys' := []) [] rfl
          exact W.zret (v := 1) hx hb hr rfl (fun t ht hW => ⟨⟨1, (), rfl, (by unfold F_set; first | exact (if_pos (by omega)).symm | exact (if_neg (by omega)).symm), by rw [ht]; exact hP9, va_K.moved hW.alike hK9, hD9⟩, hS.F ht⟩) hS.2.2 dX8_set_49
  · refine lv_iload_n hx hb dX8_set_4 rfl (lv_at hl 2 rfl) ?_
    refine lv_iconst (v := 1) hx hb dX8_set_5 (by decide) ?_
    refine bi_lt (zx := (p1).toInt) (zy := 1) (tgt := 22) hx hb dX8_set_6 (by decide) rfl (by decide) (fun c_19 => ?_) (fun c_19 => ?_)
    · refine lv_iload_n hx hb dX8_set_22 rfl (lv_at hl 1 rfl) ?_
      refine lv_iconst (v := 1) hx hb dX8_set_23 (by decide) ?_
      refine bi_ne (zx := (p0).toInt) (zy := 1) (tgt := 50) hx hb dX8_set_24 (by decide) rfl (by decide) (fun c_20 => ?_) (fun c_20 => ?_)
      · refine lv_iload_n hx hb dX8_set_50 rfl (lv_at hl 1 rfl) ?_
        refine lv_iconst (v := 2) hx hb dX8_set_51 (by decide) ?_
        refine bi_ne (zx := (p0).toInt) (zy := 2) (tgt := 71) hx hb dX8_set_52 (by decide) rfl (by decide) (fun c_21 => ?_) (fun c_21 => ?_)
        · refine lv_iconst (v := 0) hx hb dX8_set_71 (by decide) ?_
          refine W.widen (k := 0) (n := 0) (Nat.le_of_ble_eq_true rfl) (Nat.le_of_ble_eq_true rfl) ?_
          have hP9 := hP.sub (ws' := []) [] rfl
          have hD9 := hD.sub (ws' := []) [] (by decide) rfl
          have hK9 := hK.sub (tys' := []) [] rfl
          exact W.zret (v := 0) hx hb hr rfl (fun t ht hW => ⟨⟨0, (), rfl, (by unfold F_set; first | exact (if_pos (by omega)).symm | exact (if_neg (by omega)).symm), by rw [ht]; exact hP9, va_K.moved hW.alike hK9, hD9⟩, hS.F ht⟩) hS.2.2 dX8_set_72
        · refine lv_iload_n hx hb dX8_set_55 rfl (lv_at hl 2 rfl) ?_
          refine bz_lt (zx := (p1).toInt) (tgt := 71) hx hb dX8_set_56 (by decide) rfl (fun c_22 => ?_) (fun c_22 => ?_)
          · refine lv_iconst (v := 0) hx hb dX8_set_71 (by decide) ?_
            refine W.widen (k := 0) (n := 0) (Nat.le_of_ble_eq_true rfl) (Nat.le_of_ble_eq_true rfl) ?_
            have hP9 := hP.sub (ws' := []) [] rfl
            have hD9 := hD.sub (ws' := []) [] (by decide) rfl
            have hK9 := hK.sub (tys' := []) [] rfl
            exact W.zret (v := 0) hx hb hr rfl (fun t ht hW => ⟨⟨0, (), rfl, (by unfold F_set; first | exact (if_pos (by omega)).symm | exact (if_neg (by omega)).symm), by rw [ht]; exact hP9, va_K.moved hW.alike hK9, hD9⟩, hS.F ht⟩) hS.2.2 dX8_set_72
          · refine lv_iload_n hx hb dX8_set_59 rfl (lv_at hl 2 rfl) ?_
            refine lv_iconst (v := 5) hx hb dX8_set_60 (by decide) ?_
            refine bi_gt (zx := (p1).toInt) (zy := 5) (tgt := 71) hx hb dX8_set_61 (by decide) rfl (by decide) (fun c_23 => ?_) (fun c_23 => ?_)
            · refine lv_iconst (v := 0) hx hb dX8_set_71 (by decide) ?_
              refine W.widen (k := 0) (n := 0) (Nat.le_of_ble_eq_true rfl) (Nat.le_of_ble_eq_true rfl) ?_
              have hP9 := hP.sub (ws' := []) [] rfl
              have hD9 := hD.sub (ws' := []) [] (by decide) rfl
              have hK9 := hK.sub (tys' := []) [] rfl
              exact W.zret (v := 0) hx hb hr rfl (fun t ht hW => ⟨⟨0, (), rfl, (by unfold F_set; first | exact (if_pos (by omega)).symm | exact (if_neg (by omega)).symm), by rw [ht]; exact hP9, va_K.moved hW.alike hK9, hD9⟩, hS.F ht⟩) hS.2.2 dX8_set_72
            · refine lv_aload_n hx hb dX8_set_64 rfl (lv_at hl 0 rfl) ?_
              refine lv_iload_n hx hb dX8_set_65 rfl (lv_at hl 2 rfl) ?_
              refine va_put (D := D) (ci := 8) (v := .int p1) (ty := .int) (C := RX8) (T := TX8) (N := 14) hx hb hts hin_X8 tyX8 tyX8_ok nmX8 hown hK hP hD hS 0 rfl rfl 12 (by decide) (hts (.fieldLink RX8 122 "CryOrder" "tries" "I") (by decide +kernel)) (fun _ h9 => h9) rfl (by decide +kernel) rfl rfl (Nat.le_of_ble_eq_true rfl) dX8_set_66 (fun H_24 locs hP hD hS => ?_)
              have hP : va_P D vwCl [(h0, .inr (8, [.ref a1, .ref a2, .ref a3, .ref a4, .ref a5, .ref a6, .ref a7, .int 0, .int 0, .int 0, .int 50, .int 3, .int p1, .int 0]))] H_24 := hP
              have hD : va_D A [(h0, .inr (8, [.ref a1, .ref a2, .ref a3, .ref a4, .ref a5, .ref a6, .ref a7, .int 0, .int 0, .int 0, .int 50, .int 3, .int p1, .int 0]))] := hD
              refine lv_iconst (v := 1) hx hb dX8_set_69 (by decide) ?_
              refine W.widen (k := 0) (n := 0) (Nat.le_of_ble_eq_true rfl) (Nat.le_of_ble_eq_true rfl) ?_
              have hP9 := hP.sub (ws' := []) [] rfl
              have hD9 := hD.sub (ws' := []) [] (by decide) rfl
              have hK9 := hK.sub (tys' := []) [] rfl
              exact W.zret (v := 1) hx hb hr rfl (fun t ht hW => ⟨⟨1, (), rfl, (by unfold F_set; first | exact (if_pos (by omega)).symm | exact (if_neg (by omega)).symm), by rw [ht]; exact hP9, va_K.moved hW.alike hK9, hD9⟩, hS.F ht⟩) hS.2.2 dX8_set_70
      · refine lv_iload_n hx hb dX8_set_27 rfl (lv_at hl 2 rfl) ?_
        refine lv_iconst (v := 1) hx hb dX8_set_28 (by decide) ?_
        refine bi_lt (zx := (p1).toInt) (zy := 1) (tgt := 50) hx hb dX8_set_29 (by decide) rfl (by decide) (fun c_25 => ?_) (fun c_25 => ?_)
        · refine lv_iload_n hx hb dX8_set_50 rfl (lv_at hl 1 rfl) ?_
          refine lv_iconst (v := 2) hx hb dX8_set_51 (by decide) ?_
          refine bi_ne (zx := (p0).toInt) (zy := 2) (tgt := 71) hx hb dX8_set_52 (by decide) rfl (by decide) (fun c_26 => ?_) (fun c_26 => ?_)
          · refine lv_iconst (v := 0) hx hb dX8_set_71 (by decide) ?_
            refine W.widen (k := 0) (n := 0) (Nat.le_of_ble_eq_true rfl) (Nat.le_of_ble_eq_true rfl) ?_
            have hP9 := hP.sub (ws' := []) [] rfl
            have hD9 := hD.sub (ws' := []) [] (by decide) rfl
            have hK9 := hK.sub (tys' := []) [] rfl
            exact W.zret (v := 0) hx hb hr rfl (fun t ht hW => ⟨⟨0, (), rfl, (by unfold F_set; first | exact (if_pos (by omega)).symm | exact (if_neg (by omega)).symm), by rw [ht]; exact hP9, va_K.moved hW.alike hK9, hD9⟩, hS.F ht⟩) hS.2.2 dX8_set_72
          · refine lv_iload_n hx hb dX8_set_55 rfl (lv_at hl 2 rfl) ?_
            refine bz_lt (zx := (p1).toInt) (tgt := 71) hx hb dX8_set_56 (by decide) rfl (fun c_27 => ?_) (fun c_27 => ?_)
            · refine lv_iconst (v := 0) hx hb dX8_set_71 (by decide) ?_
              refine W.widen (k := 0) (n := 0) (Nat.le_of_ble_eq_true rfl) (Nat.le_of_ble_eq_true rfl) ?_
              have hP9 := hP.sub (ws' := []) [] rfl
              have hD9 := hD.sub (ws' := []) [] (by decide) rfl
              have hK9 := hK.sub (tys' := []) [] rfl
              exact W.zret (v := 0) hx hb hr rfl (fun t ht hW => ⟨⟨0, (), rfl, (by unfold F_set; first | exact (if_pos (by omega)).symm | exact (if_neg (by omega)).symm), by rw [ht]; exact hP9, va_K.moved hW.alike hK9, hD9⟩, hS.F ht⟩) hS.2.2 dX8_set_72
            · refine lv_iload_n hx hb dX8_set_59 rfl (lv_at hl 2 rfl) ?_
              refine lv_iconst (v := 5) hx hb dX8_set_60 (by decide) ?_
              refine bi_gt (zx := (p1).toInt) (zy := 5) (tgt := 71) hx hb dX8_set_61 (by decide) rfl (by decide) (fun c_28 => ?_) (fun c_28 => ?_)
              · refine lv_iconst (v := 0) hx hb dX8_set_71 (by decide) ?_
                refine W.widen (k := 0) (n := 0) (Nat.le_of_ble_eq_true rfl) (Nat.le_of_ble_eq_true rfl) ?_
                have hP9 := hP.sub (ws' := []) [] rfl
                have hD9 := hD.sub (ws' := []) [] (by decide) rfl
                have hK9 := hK.sub (tys' := []) [] rfl
                exact W.zret (v := 0) hx hb hr rfl (fun t ht hW => ⟨⟨0, (), rfl, (by unfold F_set; first | exact (if_pos (by omega)).symm | exact (if_neg (by omega)).symm), by rw [ht]; exact hP9, va_K.moved hW.alike hK9, hD9⟩, hS.F ht⟩) hS.2.2 dX8_set_72
              · refine lv_aload_n hx hb dX8_set_64 rfl (lv_at hl 0 rfl) ?_
                refine lv_iload_n hx hb dX8_set_65 rfl (lv_at hl 2 rfl) ?_
                refine va_put (D := D) (ci := 8) (v := .int p1) (ty := .int) (C := RX8) (T := TX8) (N := 14) hx hb hts hin_X8 tyX8 tyX8_ok nmX8 hown hK hP hD hS 0 rfl rfl 12 (by decide) (hts (.fieldLink RX8 122 "CryOrder" "tries" "I") (by decide +kernel)) (fun _ h9 => h9) rfl (by decide +kernel) rfl rfl (Nat.le_of_ble_eq_true rfl) dX8_set_66 (fun H_29 locs hP hD hS => ?_)
                have hP : va_P D vwCl [(h0, .inr (8, [.ref a1, .ref a2, .ref a3, .ref a4, .ref a5, .ref a6, .ref a7, .int 0, .int 0, .int 0, .int 50, .int 3, .int p1, .int 0]))] H_29 := hP
                have hD : va_D A [(h0, .inr (8, [.ref a1, .ref a2, .ref a3, .ref a4, .ref a5, .ref a6, .ref a7, .int 0, .int 0, .int 0, .int 50, .int 3, .int p1, .int 0]))] := hD
                refine lv_iconst (v := 1) hx hb dX8_set_69 (by decide) ?_
                refine W.widen (k := 0) (n := 0) (Nat.le_of_ble_eq_true rfl) (Nat.le_of_ble_eq_true rfl) ?_
                have hP9 := hP.sub (ws' := []) [] rfl
                have hD9 := hD.sub (ws' := []) [] (by decide) rfl
                have hK9 := hK.sub (tys' := []) [] rfl
                exact W.zret (v := 1) hx hb hr rfl (fun t ht hW => ⟨⟨1, (), rfl, (by unfold F_set; first | exact (if_pos (by omega)).symm | exact (if_neg (by omega)).symm), by rw [ht]; exact hP9, va_K.moved hW.alike hK9, hD9⟩, hS.F ht⟩) hS.2.2 dX8_set_70
        · refine lv_iload_n hx hb dX8_set_32 rfl (lv_at hl 2 rfl) ?_
          refine lv_bipush (v := 20) hx hb dX8_set_33 (by decide) ?_
          refine bi_gt (zx := (p1).toInt) (zy := 20) (tgt := 50) hx hb dX8_set_35 (by decide) rfl (by decide) (fun c_30 => ?_) (fun c_30 => ?_)
          · refine lv_iload_n hx hb dX8_set_50 rfl (lv_at hl 1 rfl) ?_
            refine lv_iconst (v := 2) hx hb dX8_set_51 (by decide) ?_
            refine bi_ne (zx := (p0).toInt) (zy := 2) (tgt := 71) hx hb dX8_set_52 (by decide) rfl (by decide) (fun c_31 => ?_) (fun c_31 => ?_)
            · refine lv_iconst (v := 0) hx hb dX8_set_71 (by decide) ?_
              refine W.widen (k := 0) (n := 0) (Nat.le_of_ble_eq_true rfl) (Nat.le_of_ble_eq_true rfl) ?_
              have hP9 := hP.sub (ws' := []) [] rfl
              have hD9 := hD.sub (ws' := []) [] (by decide) rfl
              have hK9 := hK.sub (tys' := []) [] rfl
              exact W.zret (v := 0) hx hb hr rfl (fun t ht hW => ⟨⟨0, (), rfl, (by unfold F_set; first | exact (if_pos (by omega)).symm | exact (if_neg (by omega)).symm), by rw [ht]; exact hP9, va_K.moved hW.alike hK9, hD9⟩, hS.F ht⟩) hS.2.2 dX8_set_72
            · refine lv_iload_n hx hb dX8_set_55 rfl (lv_at hl 2 rfl) ?_
              refine bz_lt (zx := (p1).toInt) (tgt := 71) hx hb dX8_set_56 (by decide) rfl (fun c_32 => ?_) (fun c_32 => ?_)
              · refine lv_iconst (v := 0) hx hb dX8_set_71 (by decide) ?_
                refine W.widen (k := 0) (n := 0) (Nat.le_of_ble_eq_true rfl) (Nat.le_of_ble_eq_true rfl) ?_
                have hP9 := hP.sub (ws' := []) [] rfl
                have hD9 := hD.sub (ws' := []) [] (by decide) rfl
                have hK9 := hK.sub (tys' := []) [] rfl
                exact W.zret (v := 0) hx hb hr rfl (fun t ht hW => ⟨⟨0, (), rfl, (by unfold F_set; first | exact (if_pos (by omega)).symm | exact (if_neg (by omega)).symm), by rw [ht]; exact hP9, va_K.moved hW.alike hK9, hD9⟩, hS.F ht⟩) hS.2.2 dX8_set_72
              · refine lv_iload_n hx hb dX8_set_59 rfl (lv_at hl 2 rfl) ?_
                refine lv_iconst (v := 5) hx hb dX8_set_60 (by decide) ?_
                refine bi_gt (zx := (p1).toInt) (zy := 5) (tgt := 71) hx hb dX8_set_61 (by decide) rfl (by decide) (fun c_33 => ?_) (fun c_33 => ?_)
                · refine lv_iconst (v := 0) hx hb dX8_set_71 (by decide) ?_
                  refine W.widen (k := 0) (n := 0) (Nat.le_of_ble_eq_true rfl) (Nat.le_of_ble_eq_true rfl) ?_
                  have hP9 := hP.sub (ws' := []) [] rfl
                  have hD9 := hD.sub (ws' := []) [] (by decide) rfl
                  have hK9 := hK.sub (tys' := []) [] rfl
                  exact W.zret (v := 0) hx hb hr rfl (fun t ht hW => ⟨⟨0, (), rfl, (by unfold F_set; first | exact (if_pos (by omega)).symm | exact (if_neg (by omega)).symm), by rw [ht]; exact hP9, va_K.moved hW.alike hK9, hD9⟩, hS.F ht⟩) hS.2.2 dX8_set_72
                · refine lv_aload_n hx hb dX8_set_64 rfl (lv_at hl 0 rfl) ?_
                  refine lv_iload_n hx hb dX8_set_65 rfl (lv_at hl 2 rfl) ?_
                  refine va_put (D := D) (ci := 8) (v := .int p1) (ty := .int) (C := RX8) (T := TX8) (N := 14) hx hb hts hin_X8 tyX8 tyX8_ok nmX8 hown hK hP hD hS 0 rfl rfl 12 (by decide) (hts (.fieldLink RX8 122 "CryOrder" "tries" "I") (by decide +kernel)) (fun _ h9 => h9) rfl (by decide +kernel) rfl rfl (Nat.le_of_ble_eq_true rfl) dX8_set_66 (fun H_34 locs hP hD hS => ?_)
                  have hP : va_P D vwCl [(h0, .inr (8, [.ref a1, .ref a2, .ref a3, .ref a4, .ref a5, .ref a6, .ref a7, .int 0, .int 0, .int 0, .int 50, .int 3, .int p1, .int 0]))] H_34 := hP
                  have hD : va_D A [(h0, .inr (8, [.ref a1, .ref a2, .ref a3, .ref a4, .ref a5, .ref a6, .ref a7, .int 0, .int 0, .int 0, .int 50, .int 3, .int p1, .int 0]))] := hD
                  refine lv_iconst (v := 1) hx hb dX8_set_69 (by decide) ?_
                  refine W.widen (k := 0) (n := 0) (Nat.le_of_ble_eq_true rfl) (Nat.le_of_ble_eq_true rfl) ?_
                  have hP9 := hP.sub (ws' := []) [] rfl
                  have hD9 := hD.sub (ws' := []) [] (by decide) rfl
                  have hK9 := hK.sub (tys' := []) [] rfl
                  exact W.zret (v := 1) hx hb hr rfl (fun t ht hW => ⟨⟨1, (), rfl, (by unfold F_set; first | exact (if_pos (by omega)).symm | exact (if_neg (by omega)).symm), by rw [ht]; exact hP9, va_K.moved hW.alike hK9, hD9⟩, hS.F ht⟩) hS.2.2 dX8_set_70
          · refine lv_aload_n hx hb dX8_set_38 rfl (lv_at hl 0 rfl) ?_
            refine lv_iload_n hx hb dX8_set_39 rfl (lv_at hl 2 rfl) ?_
            refine va_put (D := D) (ci := 8) (v := .int p1) (ty := .int) (C := RX8) (T := TX8) (N := 14) hx hb hts hin_X8 tyX8 tyX8_ok nmX8 hown hK hP hD hS 0 rfl rfl 11 (by decide) (hts (.fieldLink RX8 58 "CryOrder" "leastSettled" "I") (by decide +kernel)) (fun _ h9 => h9) rfl (by decide +kernel) rfl rfl (Nat.le_of_ble_eq_true rfl) dX8_set_40 (fun H_35 locs hP hD hS => ?_)
            have hP : va_P D vwCl [(h0, .inr (8, [.ref a1, .ref a2, .ref a3, .ref a4, .ref a5, .ref a6, .ref a7, .int 0, .int 0, .int 0, .int 50, .int p1, .int 0, .int 0]))] H_35 := hP
            have hD : va_D A [(h0, .inr (8, [.ref a1, .ref a2, .ref a3, .ref a4, .ref a5, .ref a6, .ref a7, .int 0, .int 0, .int 0, .int 50, .int p1, .int 0, .int 0]))] := hD
            refine lv_aload_n hx hb dX8_set_43 rfl (lv_at hl 0 rfl) ?_
            refine lv_iconst (v := 1) hx hb dX8_set_44 (by decide) ?_
            refine va_put (D := D) (ci := 8) (v := .int 1) (ty := .boolean) (C := RX8) (T := TX8) (N := 14) hx hb hts hin_X8 tyX8 tyX8_ok nmX8 hown hK hP hD hS 0 rfl rfl 13 (by decide) (hts (.fieldLink RX8 113 "CryOrder" "casesAreStale" "Z") (by decide +kernel)) (fun _ h9 => h9) rfl (by decide +kernel) rfl rfl (Nat.le_of_ble_eq_true rfl) dX8_set_45 (fun H_36 locs hP hD hS => ?_)
            have hP : va_P D vwCl [(h0, .inr (8, [.ref a1, .ref a2, .ref a3, .ref a4, .ref a5, .ref a6, .ref a7, .int 0, .int 0, .int 0, .int 50, .int p1, .int 0, .int 1]))] H_36 := hP
            have hD : va_D A [(h0, .inr (8, [.ref a1, .ref a2, .ref a3, .ref a4, .ref a5, .ref a6, .ref a7, .int 0, .int 0, .int 0, .int 50, .int p1, .int 0, .int 1]))] := hD
            refine lv_iconst (v := 1) hx hb dX8_set_48 (by decide) ?_
            refine W.widen (k := 0) (n := 0) (Nat.le_of_ble_eq_true rfl) (Nat.le_of_ble_eq_true rfl) ?_
            have hP9 := hP.sub (ws' := []) [] rfl
            have hD9 := hD.sub (ws' := []) [] (by decide) rfl
            have hK9 := hK.sub (tys' := []) [] rfl
            exact W.zret (v := 1) hx hb hr rfl (fun t ht hW => ⟨⟨1, (), rfl, (by unfold F_set; first | exact (if_pos (by omega)).symm | exact (if_neg (by omega)).symm), by rw [ht]; exact hP9, va_K.moved hW.alike hK9, hD9⟩, hS.F ht⟩) hS.2.2 dX8_set_49
    · refine lv_iload_n hx hb dX8_set_9 rfl (lv_at hl 2 rfl) ?_
      refine lv_bipush (v := 50) hx hb dX8_set_10 (by decide) ?_
      refine bi_gt (zx := (p1).toInt) (zy := 50) (tgt := 22) hx hb dX8_set_12 (by decide) rfl (by decide) (fun c_37 => ?_) (fun c_37 => ?_)
      · refine lv_iload_n hx hb dX8_set_22 rfl (lv_at hl 1 rfl) ?_
        refine lv_iconst (v := 1) hx hb dX8_set_23 (by decide) ?_
        refine bi_ne (zx := (p0).toInt) (zy := 1) (tgt := 50) hx hb dX8_set_24 (by decide) rfl (by decide) (fun c_38 => ?_) (fun c_38 => ?_)
        · refine lv_iload_n hx hb dX8_set_50 rfl (lv_at hl 1 rfl) ?_
          refine lv_iconst (v := 2) hx hb dX8_set_51 (by decide) ?_
          refine bi_ne (zx := (p0).toInt) (zy := 2) (tgt := 71) hx hb dX8_set_52 (by decide) rfl (by decide) (fun c_39 => ?_) (fun c_39 => ?_)
          · refine lv_iconst (v := 0) hx hb dX8_set_71 (by decide) ?_
            refine W.widen (k := 0) (n := 0) (Nat.le_of_ble_eq_true rfl) (Nat.le_of_ble_eq_true rfl) ?_
            have hP9 := hP.sub (ws' := []) [] rfl
            have hD9 := hD.sub (ws' := []) [] (by decide) rfl
            have hK9 := hK.sub (tys' := []) [] rfl
            exact W.zret (v := 0) hx hb hr rfl (fun t ht hW => ⟨⟨0, (), rfl, (by unfold F_set; first | exact (if_pos (by omega)).symm | exact (if_neg (by omega)).symm), by rw [ht]; exact hP9, va_K.moved hW.alike hK9, hD9⟩, hS.F ht⟩) hS.2.2 dX8_set_72
          · refine lv_iload_n hx hb dX8_set_55 rfl (lv_at hl 2 rfl) ?_
            refine bz_lt (zx := (p1).toInt) (tgt := 71) hx hb dX8_set_56 (by decide) rfl (fun c_40 => ?_) (fun c_40 => ?_)
            · refine lv_iconst (v := 0) hx hb dX8_set_71 (by decide) ?_
              refine W.widen (k := 0) (n := 0) (Nat.le_of_ble_eq_true rfl) (Nat.le_of_ble_eq_true rfl) ?_
              have hP9 := hP.sub (ws' := []) [] rfl
              have hD9 := hD.sub (ws' := []) [] (by decide) rfl
              have hK9 := hK.sub (tys' := []) [] rfl
              exact W.zret (v := 0) hx hb hr rfl (fun t ht hW => ⟨⟨0, (), rfl, (by unfold F_set; first | exact (if_pos (by omega)).symm | exact (if_neg (by omega)).symm), by rw [ht]; exact hP9, va_K.moved hW.alike hK9, hD9⟩, hS.F ht⟩) hS.2.2 dX8_set_72
            · refine lv_iload_n hx hb dX8_set_59 rfl (lv_at hl 2 rfl) ?_
              refine lv_iconst (v := 5) hx hb dX8_set_60 (by decide) ?_
              refine bi_gt (zx := (p1).toInt) (zy := 5) (tgt := 71) hx hb dX8_set_61 (by decide) rfl (by decide) (fun c_41 => ?_) (fun c_41 => ?_)
              · refine lv_iconst (v := 0) hx hb dX8_set_71 (by decide) ?_
                refine W.widen (k := 0) (n := 0) (Nat.le_of_ble_eq_true rfl) (Nat.le_of_ble_eq_true rfl) ?_
                have hP9 := hP.sub (ws' := []) [] rfl
                have hD9 := hD.sub (ws' := []) [] (by decide) rfl
                have hK9 := hK.sub (tys' := []) [] rfl
                exact W.zret (v := 0) hx hb hr rfl (fun t ht hW => ⟨⟨0, (), rfl, (by unfold F_set; first | exact (if_pos (by omega)).symm | exact (if_neg (by omega)).symm), by rw [ht]; exact hP9, va_K.moved hW.alike hK9, hD9⟩, hS.F ht⟩) hS.2.2 dX8_set_72
              · refine lv_aload_n hx hb dX8_set_64 rfl (lv_at hl 0 rfl) ?_
                refine lv_iload_n hx hb dX8_set_65 rfl (lv_at hl 2 rfl) ?_
                refine va_put (D := D) (ci := 8) (v := .int p1) (ty := .int) (C := RX8) (T := TX8) (N := 14) hx hb hts hin_X8 tyX8 tyX8_ok nmX8 hown hK hP hD hS 0 rfl rfl 12 (by decide) (hts (.fieldLink RX8 122 "CryOrder" "tries" "I") (by decide +kernel)) (fun _ h9 => h9) rfl (by decide +kernel) rfl rfl (Nat.le_of_ble_eq_true rfl) dX8_set_66 (fun H_42 locs hP hD hS => ?_)
                have hP : va_P D vwCl [(h0, .inr (8, [.ref a1, .ref a2, .ref a3, .ref a4, .ref a5, .ref a6, .ref a7, .int 0, .int 0, .int 0, .int 50, .int 3, .int p1, .int 0]))] H_42 := hP
                have hD : va_D A [(h0, .inr (8, [.ref a1, .ref a2, .ref a3, .ref a4, .ref a5, .ref a6, .ref a7, .int 0, .int 0, .int 0, .int 50, .int 3, .int p1, .int 0]))] := hD
                refine lv_iconst (v := 1) hx hb dX8_set_69 (by decide) ?_
                refine W.widen (k := 0) (n := 0) (Nat.le_of_ble_eq_true rfl) (Nat.le_of_ble_eq_true rfl) ?_
                have hP9 := hP.sub (ws' := []) [] rfl
                have hD9 := hD.sub (ws' := []) [] (by decide) rfl
                have hK9 := hK.sub (tys' := []) [] rfl
                exact W.zret (v := 1) hx hb hr rfl (fun t ht hW => ⟨⟨1, (), rfl, (by unfold F_set; first | exact (if_pos (by omega)).symm | exact (if_neg (by omega)).symm), by rw [ht]; exact hP9, va_K.moved hW.alike hK9, hD9⟩, hS.F ht⟩) hS.2.2 dX8_set_70
        · refine lv_iload_n hx hb dX8_set_27 rfl (lv_at hl 2 rfl) ?_
          refine lv_iconst (v := 1) hx hb dX8_set_28 (by decide) ?_
          refine bi_lt (zx := (p1).toInt) (zy := 1) (tgt := 50) hx hb dX8_set_29 (by decide) rfl (by decide) (fun c_43 => ?_) (fun c_43 => ?_)
          · refine lv_iload_n hx hb dX8_set_50 rfl (lv_at hl 1 rfl) ?_
            refine lv_iconst (v := 2) hx hb dX8_set_51 (by decide) ?_
            refine bi_ne (zx := (p0).toInt) (zy := 2) (tgt := 71) hx hb dX8_set_52 (by decide) rfl (by decide) (fun c_44 => ?_) (fun c_44 => ?_)
            · refine lv_iconst (v := 0) hx hb dX8_set_71 (by decide) ?_
              refine W.widen (k := 0) (n := 0) (Nat.le_of_ble_eq_true rfl) (Nat.le_of_ble_eq_true rfl) ?_
              have hP9 := hP.sub (ws' := []) [] rfl
              have hD9 := hD.sub (ws' := []) [] (by decide) rfl
              have hK9 := hK.sub (tys' := []) [] rfl
              exact W.zret (v := 0) hx hb hr rfl (fun t ht hW => ⟨⟨0, (), rfl, (by unfold F_set; first | exact (if_pos (by omega)).symm | exact (if_neg (by omega)).symm), by rw [ht]; exact hP9, va_K.moved hW.alike hK9, hD9⟩, hS.F ht⟩) hS.2.2 dX8_set_72
            · refine lv_iload_n hx hb dX8_set_55 rfl (lv_at hl 2 rfl) ?_
              refine bz_lt (zx := (p1).toInt) (tgt := 71) hx hb dX8_set_56 (by decide) rfl (fun c_45 => ?_) (fun c_45 => ?_)
              · refine lv_iconst (v := 0) hx hb dX8_set_71 (by decide) ?_
                refine W.widen (k := 0) (n := 0) (Nat.le_of_ble_eq_true rfl) (Nat.le_of_ble_eq_true rfl) ?_
                have hP9 := hP.sub (ws' := []) [] rfl
                have hD9 := hD.sub (ws' := []) [] (by decide) rfl
                have hK9 := hK.sub (tys' := []) [] rfl
                exact W.zret (v := 0) hx hb hr rfl (fun t ht hW => ⟨⟨0, (), rfl, (by unfold F_set; first | exact (if_pos (by omega)).symm | exact (if_neg (by omega)).symm), by rw [ht]; exact hP9, va_K.moved hW.alike hK9, hD9⟩, hS.F ht⟩) hS.2.2 dX8_set_72
              · refine lv_iload_n hx hb dX8_set_59 rfl (lv_at hl 2 rfl) ?_
                refine lv_iconst (v := 5) hx hb dX8_set_60 (by decide) ?_
                refine bi_gt (zx := (p1).toInt) (zy := 5) (tgt := 71) hx hb dX8_set_61 (by decide) rfl (by decide) (fun c_46 => ?_) (fun c_46 => ?_)
                · refine lv_iconst (v := 0) hx hb dX8_set_71 (by decide) ?_
                  refine W.widen (k := 0) (n := 0) (Nat.le_of_ble_eq_true rfl) (Nat.le_of_ble_eq_true rfl) ?_
                  have hP9 := hP.sub (ws' := []) [] rfl
                  have hD9 := hD.sub (ws' := []) [] (by decide) rfl
                  have hK9 := hK.sub (tys' := []) [] rfl
                  exact W.zret (v := 0) hx hb hr rfl (fun t ht hW => ⟨⟨0, (), rfl, (by unfold F_set; first | exact (if_pos (by omega)).symm | exact (if_neg (by omega)).symm), by rw [ht]; exact hP9, va_K.moved hW.alike hK9, hD9⟩, hS.F ht⟩) hS.2.2 dX8_set_72
                · refine lv_aload_n hx hb dX8_set_64 rfl (lv_at hl 0 rfl) ?_
                  refine lv_iload_n hx hb dX8_set_65 rfl (lv_at hl 2 rfl) ?_
                  refine va_put (D := D) (ci := 8) (v := .int p1) (ty := .int) (C := RX8) (T := TX8) (N := 14) hx hb hts hin_X8 tyX8 tyX8_ok nmX8 hown hK hP hD hS 0 rfl rfl 12 (by decide) (hts (.fieldLink RX8 122 "CryOrder" "tries" "I") (by decide +kernel)) (fun _ h9 => h9) rfl (by decide +kernel) rfl rfl (Nat.le_of_ble_eq_true rfl) dX8_set_66 (fun H_47 locs hP hD hS => ?_)
                  have hP : va_P D vwCl [(h0, .inr (8, [.ref a1, .ref a2, .ref a3, .ref a4, .ref a5, .ref a6, .ref a7, .int 0, .int 0, .int 0, .int 50, .int 3, .int p1, .int 0]))] H_47 := hP
                  have hD : va_D A [(h0, .inr (8, [.ref a1, .ref a2, .ref a3, .ref a4, .ref a5, .ref a6, .ref a7, .int 0, .int 0, .int 0, .int 50, .int 3, .int p1, .int 0]))] := hD
                  refine lv_iconst (v := 1) hx hb dX8_set_69 (by decide) ?_
                  refine W.widen (k := 0) (n := 0) (Nat.le_of_ble_eq_true rfl) (Nat.le_of_ble_eq_true rfl) ?_
                  have hP9 := hP.sub (ws' := []) [] rfl
                  have hD9 := hD.sub (ws' := []) [] (by decide) rfl
                  have hK9 := hK.sub (tys' := []) [] rfl
                  exact W.zret (v := 1) hx hb hr rfl (fun t ht hW => ⟨⟨1, (), rfl, (by unfold F_set; first | exact (if_pos (by omega)).symm | exact (if_neg (by omega)).symm), by rw [ht]; exact hP9, va_K.moved hW.alike hK9, hD9⟩, hS.F ht⟩) hS.2.2 dX8_set_70
          · refine lv_iload_n hx hb dX8_set_32 rfl (lv_at hl 2 rfl) ?_
            refine lv_bipush (v := 20) hx hb dX8_set_33 (by decide) ?_
            refine bi_gt (zx := (p1).toInt) (zy := 20) (tgt := 50) hx hb dX8_set_35 (by decide) rfl (by decide) (fun c_48 => ?_) (fun c_48 => ?_)
            · refine lv_iload_n hx hb dX8_set_50 rfl (lv_at hl 1 rfl) ?_
              refine lv_iconst (v := 2) hx hb dX8_set_51 (by decide) ?_
              refine bi_ne (zx := (p0).toInt) (zy := 2) (tgt := 71) hx hb dX8_set_52 (by decide) rfl (by decide) (fun c_49 => ?_) (fun c_49 => ?_)
              · refine lv_iconst (v := 0) hx hb dX8_set_71 (by decide) ?_
                refine W.widen (k := 0) (n := 0) (Nat.le_of_ble_eq_true rfl) (Nat.le_of_ble_eq_true rfl) ?_
                have hP9 := hP.sub (ws' := []) [] rfl
                have hD9 := hD.sub (ws' := []) [] (by decide) rfl
                have hK9 := hK.sub (tys' := []) [] rfl
                exact W.zret (v := 0) hx hb hr rfl (fun t ht hW => ⟨⟨0, (), rfl, (by unfold F_set; first | exact (if_pos (by omega)).symm | exact (if_neg (by omega)).symm), by rw [ht]; exact hP9, va_K.moved hW.alike hK9, hD9⟩, hS.F ht⟩) hS.2.2 dX8_set_72
              · refine lv_iload_n hx hb dX8_set_55 rfl (lv_at hl 2 rfl) ?_
                refine bz_lt (zx := (p1).toInt) (tgt := 71) hx hb dX8_set_56 (by decide) rfl (fun c_50 => ?_) (fun c_50 => ?_)
                · refine lv_iconst (v := 0) hx hb dX8_set_71 (by decide) ?_
                  refine W.widen (k := 0) (n := 0) (Nat.le_of_ble_eq_true rfl) (Nat.le_of_ble_eq_true rfl) ?_
                  have hP9 := hP.sub (ws' := []) [] rfl
                  have hD9 := hD.sub (ws' := []) [] (by decide) rfl
                  have hK9 := hK.sub (tys' := []) [] rfl
                  exact W.zret (v := 0) hx hb hr rfl (fun t ht hW => ⟨⟨0, (), rfl, (by unfold F_set; first | exact (if_pos (by omega)).symm | exact (if_neg (by omega)).symm), by rw [ht]; exact hP9, va_K.moved hW.alike hK9, hD9⟩, hS.F ht⟩) hS.2.2 dX8_set_72
                · refine lv_iload_n hx hb dX8_set_59 rfl (lv_at hl 2 rfl) ?_
                  refine lv_iconst (v := 5) hx hb dX8_set_60 (by decide) ?_
                  refine bi_gt (zx := (p1).toInt) (zy := 5) (tgt := 71) hx hb dX8_set_61 (by decide) rfl (by decide) (fun c_51 => ?_) (fun c_51 => ?_)
                  · refine lv_iconst (v := 0) hx hb dX8_set_71 (by decide) ?_
                    refine W.widen (k := 0) (n := 0) (Nat.le_of_ble_eq_true rfl) (Nat.le_of_ble_eq_true rfl) ?_
                    have hP9 := hP.sub (ws' := []) [] rfl
                    have hD9 := hD.sub (ws' := []) [] (by decide) rfl
                    have hK9 := hK.sub (tys' := []) [] rfl
                    exact W.zret (v := 0) hx hb hr rfl (fun t ht hW => ⟨⟨0, (), rfl, (by unfold F_set; first | exact (if_pos (by omega)).symm | exact (if_neg (by omega)).symm), by rw [ht]; exact hP9, va_K.moved hW.alike hK9, hD9⟩, hS.F ht⟩) hS.2.2 dX8_set_72
                  · refine lv_aload_n hx hb dX8_set_64 rfl (lv_at hl 0 rfl) ?_
                    refine lv_iload_n hx hb dX8_set_65 rfl (lv_at hl 2 rfl) ?_
                    refine va_put (D := D) (ci := 8) (v := .int p1) (ty := .int) (C := RX8) (T := TX8) (N := 14) hx hb hts hin_X8 tyX8 tyX8_ok nmX8 hown hK hP hD hS 0 rfl rfl 12 (by decide) (hts (.fieldLink RX8 122 "CryOrder" "tries" "I") (by decide +kernel)) (fun _ h9 => h9) rfl (by decide +kernel) rfl rfl (Nat.le_of_ble_eq_true rfl) dX8_set_66 (fun H_52 locs hP hD hS => ?_)
                    have hP : va_P D vwCl [(h0, .inr (8, [.ref a1, .ref a2, .ref a3, .ref a4, .ref a5, .ref a6, .ref a7, .int 0, .int 0, .int 0, .int 50, .int 3, .int p1, .int 0]))] H_52 := hP
                    have hD : va_D A [(h0, .inr (8, [.ref a1, .ref a2, .ref a3, .ref a4, .ref a5, .ref a6, .ref a7, .int 0, .int 0, .int 0, .int 50, .int 3, .int p1, .int 0]))] := hD
                    refine lv_iconst (v := 1) hx hb dX8_set_69 (by decide) ?_
                    refine W.widen (k := 0) (n := 0) (Nat.le_of_ble_eq_true rfl) (Nat.le_of_ble_eq_true rfl) ?_
                    have hP9 := hP.sub (ws' := []) [] rfl
                    have hD9 := hD.sub (ws' := []) [] (by decide) rfl
                    have hK9 := hK.sub (tys' := []) [] rfl
                    exact W.zret (v := 1) hx hb hr rfl (fun t ht hW => ⟨⟨1, (), rfl, (by unfold F_set; first | exact (if_pos (by omega)).symm | exact (if_neg (by omega)).symm), by rw [ht]; exact hP9, va_K.moved hW.alike hK9, hD9⟩, hS.F ht⟩) hS.2.2 dX8_set_70
            · refine lv_aload_n hx hb dX8_set_38 rfl (lv_at hl 0 rfl) ?_
              refine lv_iload_n hx hb dX8_set_39 rfl (lv_at hl 2 rfl) ?_
              refine va_put (D := D) (ci := 8) (v := .int p1) (ty := .int) (C := RX8) (T := TX8) (N := 14) hx hb hts hin_X8 tyX8 tyX8_ok nmX8 hown hK hP hD hS 0 rfl rfl 11 (by decide) (hts (.fieldLink RX8 58 "CryOrder" "leastSettled" "I") (by decide +kernel)) (fun _ h9 => h9) rfl (by decide +kernel) rfl rfl (Nat.le_of_ble_eq_true rfl) dX8_set_40 (fun H_53 locs hP hD hS => ?_)
              have hP : va_P D vwCl [(h0, .inr (8, [.ref a1, .ref a2, .ref a3, .ref a4, .ref a5, .ref a6, .ref a7, .int 0, .int 0, .int 0, .int 50, .int p1, .int 0, .int 0]))] H_53 := hP
              have hD : va_D A [(h0, .inr (8, [.ref a1, .ref a2, .ref a3, .ref a4, .ref a5, .ref a6, .ref a7, .int 0, .int 0, .int 0, .int 50, .int p1, .int 0, .int 0]))] := hD
              refine lv_aload_n hx hb dX8_set_43 rfl (lv_at hl 0 rfl) ?_
              refine lv_iconst (v := 1) hx hb dX8_set_44 (by decide) ?_
              refine va_put (D := D) (ci := 8) (v := .int 1) (ty := .boolean) (C := RX8) (T := TX8) (N := 14) hx hb hts hin_X8 tyX8 tyX8_ok nmX8 hown hK hP hD hS 0 rfl rfl 13 (by decide) (hts (.fieldLink RX8 113 "CryOrder" "casesAreStale" "Z") (by decide +kernel)) (fun _ h9 => h9) rfl (by decide +kernel) rfl rfl (Nat.le_of_ble_eq_true rfl) dX8_set_45 (fun H_54 locs hP hD hS => ?_)
              have hP : va_P D vwCl [(h0, .inr (8, [.ref a1, .ref a2, .ref a3, .ref a4, .ref a5, .ref a6, .ref a7, .int 0, .int 0, .int 0, .int 50, .int p1, .int 0, .int 1]))] H_54 := hP
              have hD : va_D A [(h0, .inr (8, [.ref a1, .ref a2, .ref a3, .ref a4, .ref a5, .ref a6, .ref a7, .int 0, .int 0, .int 0, .int 50, .int p1, .int 0, .int 1]))] := hD
              refine lv_iconst (v := 1) hx hb dX8_set_48 (by decide) ?_
              refine W.widen (k := 0) (n := 0) (Nat.le_of_ble_eq_true rfl) (Nat.le_of_ble_eq_true rfl) ?_
              have hP9 := hP.sub (ws' := []) [] rfl
              have hD9 := hD.sub (ws' := []) [] (by decide) rfl
              have hK9 := hK.sub (tys' := []) [] rfl
              exact W.zret (v := 1) hx hb hr rfl (fun t ht hW => ⟨⟨1, (), rfl, (by unfold F_set; first | exact (if_pos (by omega)).symm | exact (if_neg (by omega)).symm), by rw [ht]; exact hP9, va_K.moved hW.alike hK9, hD9⟩, hS.F ht⟩) hS.2.2 dX8_set_49
      · refine lv_aload_n hx hb dX8_set_15 rfl (lv_at hl 0 rfl) ?_
        refine lv_iload_n hx hb dX8_set_16 rfl (lv_at hl 2 rfl) ?_
        refine va_put (D := D) (ci := 8) (v := .int p1) (ty := .int) (C := RX8) (T := TX8) (N := 14) hx hb hts hin_X8 tyX8 tyX8_ok nmX8 hown hK hP hD hS 0 rfl rfl 10 (by decide) (hts (.fieldLink RX8 54 "CryOrder" "cap" "I") (by decide +kernel)) (fun _ h9 => h9) rfl (by decide +kernel) rfl rfl (Nat.le_of_ble_eq_true rfl) dX8_set_17 (fun H_55 locs hP hD hS => ?_)
        have hP : va_P D vwCl [(h0, .inr (8, [.ref a1, .ref a2, .ref a3, .ref a4, .ref a5, .ref a6, .ref a7, .int 0, .int 0, .int 0, .int p1, .int 3, .int 0, .int 0]))] H_55 := hP
        have hD : va_D A [(h0, .inr (8, [.ref a1, .ref a2, .ref a3, .ref a4, .ref a5, .ref a6, .ref a7, .int 0, .int 0, .int 0, .int p1, .int 3, .int 0, .int 0]))] := hD
        refine lv_iconst (v := 1) hx hb dX8_set_20 (by decide) ?_
        refine W.widen (k := 0) (n := 0) (Nat.le_of_ble_eq_true rfl) (Nat.le_of_ble_eq_true rfl) ?_
        have hP9 := hP.sub (ws' := []) [] rfl
        have hD9 := hD.sub (ws' := []) [] (by decide) rfl
        have hK9 := hK.sub (tys' := []) [] rfl
        exact W.zret (v := 1) hx hb hr rfl (fun t ht hW => ⟨⟨1, (), rfl, (by unfold F_set; first | exact (if_pos (by omega)).symm | exact (if_neg (by omega)).symm), by rw [ht]; exact hP9, va_K.moved hW.alike hK9, hD9⟩, hS.F ht⟩) hS.2.2 dX8_set_21

set_option maxHeartbeats 4000000 in
set_option maxRecDepth 100000 in
theorem k_X8_silence (l : Launch) (D : va_G) (sz : Nat) (h0 : Nat) (a1 : Nat) (a2 : Nat) (a3 : Nat) (a4 : Nat) (a5 : Nat) (a6 : Nat) (a7 : Nat) (c3 : ClassId) (p0 : Int32) (p1 : Int32) (p2 : Int32) : Met l yX8_silence wsX8_silence ({ frames := 2, cells := 1, slots := 3, locals := 35 }) (va_Pc [.ref h0, .int p0, .int p1, .int p2] (wz sz D [(c3, .object RX6)] [(h0, .inr (8, [.ref a1, .ref a2, .ref a3, .ref a4, .ref a5, .ref a6, .ref a7, .int 0, .int 0, .int 0, .int 50, .int 3, .int 0, .int 0])), (a3, .inl (c3, 30, .inr (.inr (.inr (.inr (fun _ => none))))))])) (va_Qi (fun (r : Int32) (_ : Unit) => r = F_silence p0 p1 p2) (fun _ t => wp D [] (va_A [(h0, .inr (8, [.ref a1, .ref a2, .ref a3, .ref a4, .ref a5, .ref a6, .ref a7, .int 0, .int 0, .int 0, .int 50, .int 3, .int 0, .int 0])), (a3, .inl (c3, 30, .inr (.inr (.inr (.inr (fun _ => none))))))] sz) [] t) (va_A [(h0, .inr (8, [.ref a1, .ref a2, .ref a3, .ref a4, .ref a5, .ref a6, .ref a7, .int 0, .int 0, .int 0, .int 50, .int 3, .int 0, .int 0])), (a3, .inl (c3, 30, .inr (.inr (.inr (.inr (fun _ => none))))))] sz)) 1 3 (va_A [(h0, .inr (8, [.ref a1, .ref a2, .ref a3, .ref a4, .ref a5, .ref a6, .ref a7, .int 0, .int 0, .int 0, .int 50, .int 3, .int 0, .int 0])), (a3, .inl (c3, 30, .inr (.inr (.inr (.inr (fun _ => none))))))] sz) := by
  refine Met.ofW (cc := cX8_silence) (maxL := 4) (ret := (some .int)) (by decide) rfl ?_
  intro p e s m args below meth c s₁ B hml hv
  obtain ⟨rfl, hsz, hP, hK, hD0, hN⟩ := hv
  have hx := B.exec
  have hb := B.bytes
  have hr := B.returns
  have hts := atoms_spec (ws := wsX8_silence) B.pre
  have hown : s.vm.findClass RX8 = some m.cls := findClass_of_methodNamed B.named
  have hlocks := B.notSynchronized
  subst hsz
  have hD := hD0.self (sz := s.heap.size)
  generalize hAe : va_A [(h0, .inr (8, [.ref a1, .ref a2, .ref a3, .ref a4, .ref a5, .ref a6, .ref a7, .int 0, .int 0, .int 0, .int 50, .int 3, .int 0, .int 0])), (a3, .inl (c3, 30, .inr (.inr (.inr (.inr (fun _ => none))))))] s.heap.size = A at hD ⊢
  have hA : ∀ q : Nat, s.heap.size ≤ q → A q := fun q h => by rw [← hAe]; exact Or.inr h
  have hS : va_S A s.heap s.heap [] := va_S.rf
  have hin_X6 : ∀ w ∈ u_ws RX6 TX6 3, w ∈ wsX8_silence := by decide +kernel
  have hin_X8 : ∀ w ∈ u_ws RX8 TX8 14, w ∈ wsX8_silence := by decide +kernel
  have hl := lv_entry ([.ref h0, .int p0, .int p1, .int p2]) (n := 4) (Nat.le_of_ble_eq_true rfl)
  rw [lg_entry_eq]
  generalize (lg_sl ([.ref h0, .int p0, .int p1, .int p2]) ++ List.replicate (4 - (lg_sl ([.ref h0, .int p0, .int p1, .int p2])).length) Slot.unset).toArray = ls at hl ⊢
  have hl : lv_has ls 4 [(0, .ref h0), (1, .int p0), (2, .int p1), (3, .int p2)] := hl
  refine lv_iload_n hx hb dX8_silence_0 rfl (lv_at hl 1 rfl) ?_
  refine lv_bipush (v := 10) hx hb dX8_silence_1 (by decide) ?_
  refine vp_callSi (zrS (As := [.int p0, .int 10]) (rest := []) (wc := []) ⟨hx, hb, hml, hown, hts⟩ hN hK hP hD (k_X8_isBelow l D p0 10 ) (va_cwS 2 hts gX8_silence_X8_isBelow rfl rfl rfl (by decide +kernel) ⟨(Nat.le_of_ble_eq_true rfl), (Nat.le_of_ble_eq_true rfl)⟩) [] [] rfl rfl (by decide) rfl hl.1 rfl (Nat.le_of_ble_eq_true rfl) dX8_silence_3 ⟨(Nat.le_of_ble_eq_true rfl), (Nat.le_of_ble_eq_true rfl)⟩) (fun r_1 h_2 => ?_)
  rcases h_2 with ⟨h_2, rfl⟩ | ⟨h_2, rfl⟩
  · have h_2 : 0 ≤ (p0).toInt ∧ (p0).toInt < 10 := h_2
    refine lv_if_eq (tgt := 34) hx hb dX8_silence_6 (by decide) (fun c_ => absurd c_ (by decide)) (fun _ => ?_)
    refine lv_iload_n hx hb dX8_silence_9 rfl (lv_at hl 2 rfl) ?_
    refine bz_lt (zx := (p1).toInt) (tgt := 34) hx hb dX8_silence_10 (by decide) rfl (fun c_3 => ?_) (fun c_3 => ?_)
    · refine lv_iconst (v := (-1)) hx hb dX8_silence_34 (by decide) ?_
      refine W.widen (k := 1) (n := 3) (Nat.le_of_ble_eq_true rfl) (Nat.le_of_ble_eq_true rfl) ?_
      have hP9 := hP.sub (ws' := []) [] rfl
      have hD9 := hD.sub (ws' := []) [] (by decide) rfl
      have hK9 := hK.sub (tys' := []) [] rfl
      exact W.iret (v := (-1)) hx hb hr (fun t ht hW => ⟨⟨(-1), (), rfl, (by unfold F_silence; first | exact (if_pos (by omega)).symm | exact (if_neg (by omega)).symm), by rw [ht]; exact hP9, va_K.moved hW.alike hK9, hD9⟩, hS.F ht⟩) hS.2.2 dX8_silence_35
    · refine lv_iload_n hx hb dX8_silence_13 rfl (lv_at hl 2 rfl) ?_
      refine lv_iload_n hx hb dX8_silence_14 rfl (lv_at hl 3 rfl) ?_
      refine bi_gt (zx := (p1).toInt) (zy := (p2).toInt) (tgt := 34) hx hb dX8_silence_15 (by decide) rfl rfl (fun c_4 => ?_) (fun c_4 => ?_)
      · refine lv_iconst (v := (-1)) hx hb dX8_silence_34 (by decide) ?_
        refine W.widen (k := 1) (n := 3) (Nat.le_of_ble_eq_true rfl) (Nat.le_of_ble_eq_true rfl) ?_
        have hP9 := hP.sub (ws' := []) [] rfl
        have hD9 := hD.sub (ws' := []) [] (by decide) rfl
        have hK9 := hK.sub (tys' := []) [] rfl
        exact W.iret (v := (-1)) hx hb hr (fun t ht hW => ⟨⟨(-1), (), rfl, (by unfold F_silence; first | exact (if_pos (by omega)).symm | exact (if_neg (by omega)).symm), by rw [ht]; exact hP9, va_K.moved hW.alike hK9, hD9⟩, hS.F ht⟩) hS.2.2 dX8_silence_35
      · refine lv_iload_n hx hb dX8_silence_18 rfl (lv_at hl 3 rfl) ?_
        refine lv_sipush (v := 10000) hx hb dX8_silence_19 (by decide) ?_
        refine bi_gt (zx := (p2).toInt) (zy := 10000) (tgt := 34) hx hb dX8_silence_22 (by decide) rfl (by decide) (fun c_5 => ?_) (fun c_5 => ?_)
        · refine lv_iconst (v := (-1)) hx hb dX8_silence_34 (by decide) ?_
          refine W.widen (k := 1) (n := 3) (Nat.le_of_ble_eq_true rfl) (Nat.le_of_ble_eq_true rfl) ?_
          have hP9 := hP.sub (ws' := []) [] rfl
          have hD9 := hD.sub (ws' := []) [] (by decide) rfl
          have hK9 := hK.sub (tys' := []) [] rfl
          exact W.iret (v := (-1)) hx hb hr (fun t ht hW => ⟨⟨(-1), (), rfl, (by unfold F_silence; first | exact (if_pos (by omega)).symm | exact (if_neg (by omega)).symm), by rw [ht]; exact hP9, va_K.moved hW.alike hK9, hD9⟩, hS.F ht⟩) hS.2.2 dX8_silence_35
        · refine lv_aload_n hx hb dX8_silence_25 rfl (lv_at hl 0 rfl) ?_
          refine va_get (D := D) (ci := 8) (v := .int 0) (C := RX8) (T := TX8) (N := 14) hx hb hts hin_X8 hown hK hP 0 rfl rfl 8 (by decide) (hts (.fieldLink RX8 116 "CryOrder" "silenceCount" "I") (by decide +kernel)) (fun _ h9 => h9) rfl dX8_silence_26 ?_
          refine lv_bipush (v := 30) hx hb dX8_silence_29 (by decide) ?_
          refine lv_icmp_lt (tgt := 36) hx hb dX8_silence_31 (by decide) (fun _ => ?_) (fun c_ => absurd c_ (by decide))
          refine lv_aload_n hx hb dX8_silence_36 rfl (lv_at hl 0 rfl) ?_
          refine va_get (D := D) (ci := 8) (v := .ref a3) (C := RX8) (T := TX8) (N := 14) hx hb hts hin_X8 hown hK hP 0 rfl rfl 2 (by decide) (hts (.fieldLink RX8 20 "CryOrder" "silences" "[LCryOrder$Silence;") (by decide +kernel)) (fun _ h9 => h9) rfl dX8_silence_37 ?_
          refine lv_aload_n hx hb dX8_silence_40 rfl (lv_at hl 0 rfl) ?_
          refine va_get (D := D) (ci := 8) (v := .int 0) (C := RX8) (T := TX8) (N := 14) hx hb hts hin_X8 hown hK hP 0 rfl rfl 8 (by decide) (hts (.fieldLink RX8 116 "CryOrder" "silenceCount" "I") (by decide +kernel)) (fun _ h9 => h9) rfl dX8_silence_41 ?_
          refine va_new (ci := 6) (fs := [.int 0, .int 0, .int 0]) (C := RX6) (T := TX6) (N := 3) hx hb hts hin_X6 tyX6 tyX6_ok hown (hts (.classLink RX8 18 RX6) (by decide +kernel)) (hts (.instantiable RX6 3) (by decide +kernel)) (hts (.initialized RX6) (by decide +kernel)) hK hP hD hS hA rfl dfX6 (Nat.le_of_ble_eq_true rfl) (Nat.le_of_ble_eq_true rfl) dX8_silence_44 (fun q_6 H_7 hP hD hS => ?_)
          have hP : va_P D vwCl [(h0, .inr (8, [.ref a1, .ref a2, .ref a3, .ref a4, .ref a5, .ref a6, .ref a7, .int 0, .int 0, .int 0, .int 50, .int 3, .int 0, .int 0])), (a3, .inl (c3, 30, .inr (.inr (.inr (.inr (fun _ => none)))))), (q_6, .inr (6, [.int 0, .int 0, .int 0]))] H_7 := hP
          have hD : va_D A [(h0, .inr (8, [.ref a1, .ref a2, .ref a3, .ref a4, .ref a5, .ref a6, .ref a7, .int 0, .int 0, .int 0, .int 50, .int 3, .int 0, .int 0])), (a3, .inl (c3, 30, .inr (.inr (.inr (.inr (fun _ => none)))))), (q_6, .inr (6, [.int 0, .int 0, .int 0]))] := hD
          refine lv_dup hx hb dX8_silence_47 rfl ?_
          refine lv_iload_n hx hb dX8_silence_48 rfl (lv_at hl 1 rfl) ?_
          refine lv_iload_n hx hb dX8_silence_49 rfl (lv_at hl 2 rfl) ?_
          refine lv_iload_n hx hb dX8_silence_50 rfl (lv_at hl 3 rfl) ?_
          refine va_callv (zwI (As := [.int p0, .int p1, .int p2]) (rest := [.ref q_6, .int 0, .ref a3]) (wc := [(q_6, .inr (6, [.int 0, .int 0, .int 0]))]) ⟨hx, hb, hml, hown, hts⟩ hN hK hP hD (k_X6_init l D H_7.size q_6 p0 p1 p2 ) (cwI 3 hts gX8_silence_X6_init rfl rfl rfl (hts (.initialized RX6) (by decide +kernel)) (hts (.methodLink RX8 119 yX6_init) (by decide +kernel)) (hts (.instanceMethod yX6_init) (by decide +kernel)) rfl (by decide +kernel) ⟨(Nat.le_of_ble_eq_true rfl), (Nat.le_of_ble_eq_true rfl)⟩) [] [2] rfl rfl (by decide) rfl hl.1 rfl (Nat.le_of_ble_eq_true rfl) dX8_silence_51 ⟨(Nat.le_of_ble_eq_true rfl), (Nat.le_of_ble_eq_true rfl)⟩) hS (fun q _ h => va_free (wc := [(q_6, .inr (6, [.int 0, .int 0, .int 0]))]) hD hS hA [2] rfl q h) (va_free (wc := [(q_6, .inr (6, [.int 0, .int 0, .int 0]))]) hD hS hA [2] rfl) (fun u t H_8 locs1 ht hvm hw hB hz1 hk1 hS1 => ?_)
          obtain ⟨hP, hD, hK⟩ := zj (wc := [(q_6, .inr (6, [.int 0, .int 0, .int 0]))]) (wr := [(h0, .inr (8, [.ref a1, .ref a2, .ref a3, .ref a4, .ref a5, .ref a6, .ref a7, .int 0, .int 0, .int 0, .int 50, .int 3, .int 0, .int 0])), (a3, .inl (c3, 30, .inr (.inr (.inr (.inr (fun _ => none))))))]) (w1 := [(q_6, .inr (6, [.int p0, .int p1, .int p2]))]) hK hP hD hS hA [2] [0, 1] rfl rfl (by decide) (by decide) hk1 ht hvm hB
          have hS := hS1
          have hP : va_P D vwCl [(h0, .inr (8, [.ref a1, .ref a2, .ref a3, .ref a4, .ref a5, .ref a6, .ref a7, .int 0, .int 0, .int 0, .int 50, .int 3, .int 0, .int 0])), (a3, .inl (c3, 30, .inr (.inr (.inr (.inr (fun _ => none)))))), (q_6, .inr (6, [.int p0, .int p1, .int p2]))] H_8 := hP
          have hD : va_D A [(h0, .inr (8, [.ref a1, .ref a2, .ref a3, .ref a4, .ref a5, .ref a6, .ref a7, .int 0, .int 0, .int 0, .int 50, .int 3, .int 0, .int 0])), (a3, .inl (c3, 30, .inr (.inr (.inr (.inr (fun _ => none)))))), (q_6, .inr (6, [.int p0, .int p1, .int p2]))] := hD
          have hK : va_K D vwCl [(c3, .object RX6)] s := hK
          refine va_astq hx hb hK hP hD hS 1 0 2 6 rfl rfl rfl rfl (vp_in0 (by decide)) dX8_silence_54 (fun H_9 locs hP hD hS => ?_)
          have hP : va_P D vwCl [(h0, .inr (8, [.ref a1, .ref a2, .ref a3, .ref a4, .ref a5, .ref a6, .ref a7, .int 0, .int 0, .int 0, .int 50, .int 3, .int 0, .int 0])), (a3, .inl (c3, 30, .inr (.inr (.inr (.inr (va_up (fun _ => none) (0 : Int32).toNatClampNeg (some q_6))))))), (q_6, .inr (6, [.int p0, .int p1, .int p2]))] H_9 := hP
          have hD : va_D A [(h0, .inr (8, [.ref a1, .ref a2, .ref a3, .ref a4, .ref a5, .ref a6, .ref a7, .int 0, .int 0, .int 0, .int 50, .int 3, .int 0, .int 0])), (a3, .inl (c3, 30, .inr (.inr (.inr (.inr (va_up (fun _ => none) (0 : Int32).toNatClampNeg (some q_6))))))), (q_6, .inr (6, [.int p0, .int p1, .int p2]))] := hD
          refine lv_aload_n hx hb dX8_silence_55 rfl (lv_at hl 0 rfl) ?_
          refine lv_dup hx hb dX8_silence_56 rfl ?_
          refine va_get (D := D) (ci := 8) (v := .int 0) (C := RX8) (T := TX8) (N := 14) hx hb hts hin_X8 hown hK hP 0 rfl rfl 8 (by decide) (hts (.fieldLink RX8 116 "CryOrder" "silenceCount" "I") (by decide +kernel)) (fun _ h9 => h9) rfl dX8_silence_57 ?_
          refine lv_iconst (v := 1) hx hb dX8_silence_60 (by decide) ?_
          refine lv_iadd hx hb dX8_silence_61 ?_
          refine lv_tope (z := 1) (by decide) ?_
          refine va_put (D := D) (ci := 8) (v := .int 1) (ty := .int) (C := RX8) (T := TX8) (N := 14) hx hb hts hin_X8 tyX8 tyX8_ok nmX8 hown hK hP hD hS 0 rfl rfl 8 (by decide) (hts (.fieldLink RX8 116 "CryOrder" "silenceCount" "I") (by decide +kernel)) (fun _ h9 => h9) rfl (by decide +kernel) rfl rfl (Nat.le_of_ble_eq_true rfl) dX8_silence_62 (fun H_10 locs hP hD hS => ?_)
          have hP : va_P D vwCl [(h0, .inr (8, [.ref a1, .ref a2, .ref a3, .ref a4, .ref a5, .ref a6, .ref a7, .int 0, .int 1, .int 0, .int 50, .int 3, .int 0, .int 0])), (a3, .inl (c3, 30, .inr (.inr (.inr (.inr (va_up (fun _ => none) (0 : Int32).toNatClampNeg (some q_6))))))), (q_6, .inr (6, [.int p0, .int p1, .int p2]))] H_10 := hP
          have hD : va_D A [(h0, .inr (8, [.ref a1, .ref a2, .ref a3, .ref a4, .ref a5, .ref a6, .ref a7, .int 0, .int 1, .int 0, .int 50, .int 3, .int 0, .int 0])), (a3, .inl (c3, 30, .inr (.inr (.inr (.inr (va_up (fun _ => none) (0 : Int32).toNatClampNeg (some q_6))))))), (q_6, .inr (6, [.int p0, .int p1, .int p2]))] := hD
          refine lv_aload_n hx hb dX8_silence_65 rfl (lv_at hl 0 rfl) ?_
          refine va_get (D := D) (ci := 8) (v := .int 1) (C := RX8) (T := TX8) (N := 14) hx hb hts hin_X8 hown hK hP 0 rfl rfl 8 (by decide) (hts (.fieldLink RX8 116 "CryOrder" "silenceCount" "I") (by decide +kernel)) (fun _ h9 => h9) rfl dX8_silence_66 ?_
          refine W.widen (k := 1) (n := 3) (Nat.le_of_ble_eq_true rfl) (Nat.le_of_ble_eq_true rfl) ?_
          have hP9 := hP.sub (ws' := []) [] rfl
          have hD9 := hD.sub (ws' := []) [] (by decide) rfl
          have hK9 := hK.sub (tys' := []) [] rfl
          exact W.iret (v := 1) hx hb hr (fun t ht hW => ⟨⟨1, (), rfl, (by unfold F_silence; first | exact (if_pos (by omega)).symm | exact (if_neg (by omega)).symm), by rw [ht]; exact hP9, va_K.moved hW.alike hK9, hD9⟩, hS.F ht⟩) hS.2.2 dX8_silence_69
  · have h_2 : (p0).toInt < 0 ∨ 10 ≤ (p0).toInt := h_2
    refine lv_if_eq (tgt := 34) hx hb dX8_silence_6 (by decide) (fun _ => ?_) (fun c_ => absurd c_ (by decide))
    refine lv_iconst (v := (-1)) hx hb dX8_silence_34 (by decide) ?_
    refine W.widen (k := 1) (n := 3) (Nat.le_of_ble_eq_true rfl) (Nat.le_of_ble_eq_true rfl) ?_
    have hP9 := hP.sub (ws' := []) [] rfl
    have hD9 := hD.sub (ws' := []) [] (by decide) rfl
    have hK9 := hK.sub (tys' := []) [] rfl
    exact W.iret (v := (-1)) hx hb hr (fun t ht hW => ⟨⟨(-1), (), rfl, (by unfold F_silence; first | exact (if_pos (by omega)).symm | exact (if_neg (by omega)).symm), by rw [ht]; exact hP9, va_K.moved hW.alike hK9, hD9⟩, hS.F ht⟩) hS.2.2 dX8_silence_35

set_option maxHeartbeats 4000000 in
set_option maxRecDepth 100000 in
theorem k_X8_verdict (l : Launch) (D : va_G) (h0 : Nat) (a1 : Nat) (a2 : Nat) (a3 : Nat) (a4 : Nat) (a5 : Nat) (a6 : Nat) (a7 : Nat) (p0 : Int32) (p1 : Int32) (p2 : Int32) : Met l yX8_verdict wsX8_verdict ({ frames := 2, cells := 0, slots := 0, locals := 42 }) (va_Pc [.ref h0, .int p0, .int p1, .int p2] (wo D [] [(h0, .inr (8, [.ref a1, .ref a2, .ref a3, .ref a4, .ref a5, .ref a6, .ref a7, .int 0, .int 0, .int 0, .int 50, .int 3, .int 0, .int 0]))])) (vp_Si (fun r => r = -1)) 0 0 (fun _ => False) := by
  refine Met.ofW (cc := cX8_verdict) (maxL := 5) (ret := (some .int)) (by decide) rfl ?_
  intro p e s m args below meth c s₁ B hml hv
  obtain ⟨rfl, hP, hK, hD, hN⟩ := hv
  have hx := B.exec
  have hb := B.bytes
  have hr := B.returns
  have hts := atoms_spec (ws := wsX8_verdict) B.pre
  have hown : s.vm.findClass RX8 = some m.cls := findClass_of_methodNamed B.named
  have hlocks := B.notSynchronized
  have hl := lv_entry ([.ref h0, .int p0, .int p1, .int p2]) (n := 5) (Nat.le_of_ble_eq_true rfl)
  rw [lg_entry_eq]
  generalize (lg_sl ([.ref h0, .int p0, .int p1, .int p2]) ++ List.replicate (5 - (lg_sl ([.ref h0, .int p0, .int p1, .int p2])).length) Slot.unset).toArray = ls at hl ⊢
  have hl : lv_has ls 5 [(0, .ref h0), (1, .int p0), (2, .int p1), (3, .int p2)] := hl
  refine lv_aload_n hx hb dX8_verdict_0 rfl (lv_at hl 0 rfl) ?_
  refine lv_iload_n hx hb dX8_verdict_1 rfl (lv_at hl 1 rfl) ?_
  refine va_csq (zrV (As := [.int p0]) (rest := []) (wc := [(h0, .inr (8, [.ref a1, .ref a2, .ref a3, .ref a4, .ref a5, .ref a6, .ref a7, .int 0, .int 0, .int 0, .int 50, .int 3, .int 0, .int 0]))]) ⟨hx, hb, hml, hown, hts⟩ hN hK hP hD (k_X8_alarmAt l D h0 a1 a2 a3 a4 a5 a6 a7 p0 ) (cwV 1 hts gX8_verdict_X8_alarmAt rfl rfl rfl (by decide +kernel) ⟨(Nat.le_of_ble_eq_true rfl), (Nat.le_of_ble_eq_true rfl)⟩) [] [0] rfl rfl (by decide) 8 0 rfl rfl rfl hl.1 rfl (Nat.le_of_ble_eq_true rfl) dX8_verdict_2 ⟨(Nat.le_of_ble_eq_true rfl), (Nat.le_of_ble_eq_true rfl)⟩) (fun r_1 h_2 => ?_)
  subst h_2
  refine lv_topv (z := .null) rfl ?_
  refine lv_astoreN (lv' := [(4, .null), (0, .ref h0), (1, .int p0), (2, .int p1), (3, .int p2)]) hx hb dX8_verdict_5 hl (by decide) rfl (fun ls hl => ?_)
  refine lv_aloadN hx hb dX8_verdict_7 (lv_at hl 0 rfl) ?_
  refine lv_ifnullN (tgt := 38) hx hb dX8_verdict_9 (by decide) ?_
  refine lv_iconst (v := (-1)) hx hb dX8_verdict_38 (by decide) ?_
  exact W.iret (v := (-1)) hx hb hr (fun t ht hW => ⟨(-1), rfl, rfl, ht⟩) (fun q h => by cases h) dX8_verdict_39

set_option maxHeartbeats 4000000 in
set_option maxRecDepth 100000 in
theorem k_X8_tie (l : Launch) (D : va_G) (h0 : Nat) (a1 : Nat) (a2 : Nat) (a3 : Nat) (a4 : Nat) (a5 : Nat) (a6 : Nat) (a7 : Nat) (p0 : Int32) (p1 : Int32) (p2 : Int32) : Met l yX8_tie wsX8_tie ({ frames := 1, cells := 0, slots := 0, locals := 21 }) (va_Pc [.ref h0, .int p0, .int p1, .int p2] (wo D [] [(h0, .inr (8, [.ref a1, .ref a2, .ref a3, .ref a4, .ref a5, .ref a6, .ref a7, .int 0, .int 0, .int 0, .int 50, .int 3, .int 0, .int 0]))])) (vp_Si (fun r => r = 0)) 0 0 (fun _ => False) := by
  refine Met.ofW (cc := cX8_tie) (maxL := 4) (ret := (some .boolean)) (by decide) rfl ?_
  intro p e s m args below meth c s₁ B hml hv
  obtain ⟨rfl, hP, hK, hD, hN⟩ := hv
  have hx := B.exec
  have hb := B.bytes
  have hr := B.returns
  have hts := atoms_spec (ws := wsX8_tie) B.pre
  have hown : s.vm.findClass RX8 = some m.cls := findClass_of_methodNamed B.named
  have hlocks := B.notSynchronized
  have hin_X8 : ∀ w ∈ u_ws RX8 TX8 14, w ∈ wsX8_tie := by decide +kernel
  have hl := lv_entry ([.ref h0, .int p0, .int p1, .int p2]) (n := 4) (Nat.le_of_ble_eq_true rfl)
  rw [lg_entry_eq]
  generalize (lg_sl ([.ref h0, .int p0, .int p1, .int p2]) ++ List.replicate (4 - (lg_sl ([.ref h0, .int p0, .int p1, .int p2])).length) Slot.unset).toArray = ls at hl ⊢
  have hl : lv_has ls 4 [(0, .ref h0), (1, .int p0), (2, .int p1), (3, .int p2)] := hl
  refine lv_iload_n hx hb dX8_tie_0 rfl (lv_at hl 1 rfl) ?_
  refine lv_iload_n hx hb dX8_tie_1 rfl (lv_at hl 2 rfl) ?_
  refine bi_eq (zx := (p0).toInt) (zy := (p1).toInt) (tgt := 27) hx hb dX8_tie_2 (by decide) rfl rfl (fun c_1 => ?_) (fun c_1 => ?_)
  · refine lv_iconst (v := 0) hx hb dX8_tie_27 (by decide) ?_
    exact W.zret (v := 0) hx hb hr rfl (fun t ht hW => ⟨0, rfl, rfl, ht⟩) (fun q h => by cases h) dX8_tie_28
  · refine lv_iload_n hx hb dX8_tie_5 rfl (lv_at hl 1 rfl) ?_
    refine lv_aload_n hx hb dX8_tie_6 rfl (lv_at hl 0 rfl) ?_
    refine va_get (D := D) (ci := 8) (v := .int 0) (C := RX8) (T := TX8) (N := 14) hx hb hts hin_X8 hown hK hP 0 rfl rfl 7 (by decide) (hts (.fieldLink RX8 79 "CryOrder" "alarmCount" "I") (by decide +kernel)) (fun _ h9 => h9) rfl dX8_tie_7 ?_
    refine vp_callSi (zrS (As := [.int p0, .int 0]) (rest := []) (wc := []) ⟨hx, hb, hml, hown, hts⟩ hN hK hP hD (k_X8_isBelow l D p0 0 ) (va_cwS 2 hts gX8_tie_X8_isBelow rfl rfl rfl (by decide +kernel) ⟨(Nat.le_of_ble_eq_true rfl), (Nat.le_of_ble_eq_true rfl)⟩) [] [] rfl rfl (by decide) rfl hl.1 rfl (Nat.le_of_ble_eq_true rfl) dX8_tie_10 ⟨(Nat.le_of_ble_eq_true rfl), (Nat.le_of_ble_eq_true rfl)⟩) (fun r_2 h_3 => ?_)
    rcases h_3 with ⟨h_3, rfl⟩ | ⟨h_3, rfl⟩
    · have h_3 : 0 ≤ (p0).toInt ∧ (p0).toInt < 0 := h_3
      exfalso; omega
    · have h_3 : (p0).toInt < 0 ∨ 0 ≤ (p0).toInt := h_3
      refine lv_if_eq (tgt := 27) hx hb dX8_tie_13 (by decide) (fun _ => ?_) (fun c_ => absurd c_ (by decide))
      refine lv_iconst (v := 0) hx hb dX8_tie_27 (by decide) ?_
      exact W.zret (v := 0) hx hb hr rfl (fun t ht hW => ⟨0, rfl, rfl, ht⟩) (fun q h => by cases h) dX8_tie_28

set_option maxHeartbeats 4000000 in
set_option maxRecDepth 100000 in
theorem k_X8_told (l : Launch) (D : va_G) (h0 : Nat) (a1 : Nat) (a2 : Nat) (a3 : Nat) (a4 : Nat) (a5 : Nat) (a6 : Nat) (a7 : Nat) (p0 : Int32) (p1 : Int32) : Met l yX8_told wsX8_told ({ frames := 2, cells := 0, slots := 0, locals := 42 }) (va_Pc [.ref h0, .int p0, .int p1] (wo D [] [(h0, .inr (8, [.ref a1, .ref a2, .ref a3, .ref a4, .ref a5, .ref a6, .ref a7, .int 0, .int 0, .int 0, .int 50, .int 3, .int 0, .int 0]))])) (vp_Si (fun r => r = -1)) 0 0 (fun _ => False) := by
  refine Met.ofW (cc := cX8_told) (maxL := 4) (ret := (some .int)) (by decide) rfl ?_
  intro p e s m args below meth c s₁ B hml hv
  obtain ⟨rfl, hP, hK, hD, hN⟩ := hv
  have hx := B.exec
  have hb := B.bytes
  have hr := B.returns
  have hts := atoms_spec (ws := wsX8_told) B.pre
  have hown : s.vm.findClass RX8 = some m.cls := findClass_of_methodNamed B.named
  have hlocks := B.notSynchronized
  have hl := lv_entry ([.ref h0, .int p0, .int p1]) (n := 4) (Nat.le_of_ble_eq_true rfl)
  rw [lg_entry_eq]
  generalize (lg_sl ([.ref h0, .int p0, .int p1]) ++ List.replicate (4 - (lg_sl ([.ref h0, .int p0, .int p1])).length) Slot.unset).toArray = ls at hl ⊢
  have hl : lv_has ls 4 [(0, .ref h0), (1, .int p0), (2, .int p1)] := hl
  refine lv_aload_n hx hb dX8_told_0 rfl (lv_at hl 0 rfl) ?_
  refine lv_iload_n hx hb dX8_told_1 rfl (lv_at hl 1 rfl) ?_
  refine va_csq (zrV (As := [.int p0]) (rest := []) (wc := [(h0, .inr (8, [.ref a1, .ref a2, .ref a3, .ref a4, .ref a5, .ref a6, .ref a7, .int 0, .int 0, .int 0, .int 50, .int 3, .int 0, .int 0]))]) ⟨hx, hb, hml, hown, hts⟩ hN hK hP hD (k_X8_alarmAt l D h0 a1 a2 a3 a4 a5 a6 a7 p0 ) (cwV 1 hts gX8_told_X8_alarmAt rfl rfl rfl (by decide +kernel) ⟨(Nat.le_of_ble_eq_true rfl), (Nat.le_of_ble_eq_true rfl)⟩) [] [0] rfl rfl (by decide) 8 0 rfl rfl rfl hl.1 rfl (Nat.le_of_ble_eq_true rfl) dX8_told_2 ⟨(Nat.le_of_ble_eq_true rfl), (Nat.le_of_ble_eq_true rfl)⟩) (fun r_1 h_2 => ?_)
  subst h_2
  refine lv_topv (z := .null) rfl ?_
  refine lv_astore_nN (lv' := [(3, .null), (0, .ref h0), (1, .int p0), (2, .int p1)]) hx hb dX8_told_5 rfl hl (by decide) rfl (fun ls hl => ?_)
  refine lv_aload_nN hx hb dX8_told_6 rfl (lv_at hl 0 rfl) ?_
  refine lv_ifnonnullN hx hb dX8_told_7 ?_
  refine lv_iconst (v := (-1)) hx hb dX8_told_10 (by decide) ?_
  exact W.iret (v := (-1)) hx hb hr (fun t ht hW => ⟨(-1), rfl, rfl, ht⟩) (fun q h => by cases h) dX8_told_11

set_option maxHeartbeats 4000000 in
set_option maxRecDepth 100000 in
theorem k_X8_odds (l : Launch) (D : va_G) (h0 : Nat) (a1 : Nat) (a2 : Nat) (a3 : Nat) (a4 : Nat) (a5 : Nat) (a6 : Nat) (a7 : Nat) (p0 : Int32) (p1 : Int32) : Met l yX8_odds wsX8_odds ({ frames := 2, cells := 0, slots := 0, locals := 42 }) (va_Pc [.ref h0, .int p0, .int p1] (wo D [] [(h0, .inr (8, [.ref a1, .ref a2, .ref a3, .ref a4, .ref a5, .ref a6, .ref a7, .int 0, .int 0, .int 0, .int 50, .int 3, .int 0, .int 0]))])) (vp_Si (fun r => r = -1)) 0 0 (fun _ => False) := by
  refine Met.ofW (cc := cX8_odds) (maxL := 7) (ret := (some .int)) (by decide) rfl ?_
  intro p e s m args below meth c s₁ B hml hv
  obtain ⟨rfl, hP, hK, hD, hN⟩ := hv
  have hx := B.exec
  have hb := B.bytes
  have hr := B.returns
  have hts := atoms_spec (ws := wsX8_odds) B.pre
  have hown : s.vm.findClass RX8 = some m.cls := findClass_of_methodNamed B.named
  have hlocks := B.notSynchronized
  have hl := lv_entry ([.ref h0, .int p0, .int p1]) (n := 7) (Nat.le_of_ble_eq_true rfl)
  rw [lg_entry_eq]
  generalize (lg_sl ([.ref h0, .int p0, .int p1]) ++ List.replicate (7 - (lg_sl ([.ref h0, .int p0, .int p1])).length) Slot.unset).toArray = ls at hl ⊢
  have hl : lv_has ls 7 [(0, .ref h0), (1, .int p0), (2, .int p1)] := hl
  refine lv_aload_n hx hb dX8_odds_0 rfl (lv_at hl 0 rfl) ?_
  refine lv_iload_n hx hb dX8_odds_1 rfl (lv_at hl 1 rfl) ?_
  refine va_csq (zrV (As := [.int p0]) (rest := []) (wc := [(h0, .inr (8, [.ref a1, .ref a2, .ref a3, .ref a4, .ref a5, .ref a6, .ref a7, .int 0, .int 0, .int 0, .int 50, .int 3, .int 0, .int 0]))]) ⟨hx, hb, hml, hown, hts⟩ hN hK hP hD (k_X8_alarmAt l D h0 a1 a2 a3 a4 a5 a6 a7 p0 ) (cwV 1 hts gX8_odds_X8_alarmAt rfl rfl rfl (by decide +kernel) ⟨(Nat.le_of_ble_eq_true rfl), (Nat.le_of_ble_eq_true rfl)⟩) [] [0] rfl rfl (by decide) 8 0 rfl rfl rfl hl.1 rfl (Nat.le_of_ble_eq_true rfl) dX8_odds_2 ⟨(Nat.le_of_ble_eq_true rfl), (Nat.le_of_ble_eq_true rfl)⟩) (fun r_1 h_2 => ?_)
  subst h_2
  refine lv_topv (z := .null) rfl ?_
  refine lv_astore_nN (lv' := [(3, .null), (0, .ref h0), (1, .int p0), (2, .int p1)]) hx hb dX8_odds_5 rfl hl (by decide) rfl (fun ls hl => ?_)
  refine lv_aload_nN hx hb dX8_odds_6 rfl (lv_at hl 0 rfl) ?_
  refine lv_ifnullN (tgt := 19) hx hb dX8_odds_7 (by decide) ?_
  refine lv_iconst (v := (-1)) hx hb dX8_odds_19 (by decide) ?_
  exact W.iret (v := (-1)) hx hb hr (fun t ht hW => ⟨(-1), rfl, rfl, ht⟩) (fun q h => by cases h) dX8_odds_20

set_option maxHeartbeats 4000000 in
set_option maxRecDepth 100000 in
theorem k_X8_node (l : Launch) (D : va_G) (h0 : Nat) (a1 : Nat) (a2 : Nat) (a3 : Nat) (a4 : Nat) (a5 : Nat) (a6 : Nat) (a7 : Nat) (p0 : Int32) (p1 : Int32) (p2 : Int32) : Met l yX8_node wsX8_node ({ frames := 2, cells := 0, slots := 0, locals := 46 }) (va_Pc [.ref h0, .int p0, .int p1, .int p2] (wo D [] [(h0, .inr (8, [.ref a1, .ref a2, .ref a3, .ref a4, .ref a5, .ref a6, .ref a7, .int 0, .int 0, .int 0, .int 50, .int 3, .int 0, .int 0])), (a4, .inr (3, [.null, .int 0, .int 0, .null, .null, .int 0, .int 0, .int 0]))])) (vp_Si (fun r => r = F_node p0 p1 p2)) 0 0 (fun _ => False) := by
  refine Met.ofW (cc := cX8_node) (maxL := 5) (ret := (some .int)) (by decide) rfl ?_
  intro p e s m args below meth c s₁ B hml hv
  obtain ⟨rfl, hP, hK, hD, hN⟩ := hv
  have hx := B.exec
  have hb := B.bytes
  have hr := B.returns
  have hts := atoms_spec (ws := wsX8_node) B.pre
  have hown : s.vm.findClass RX8 = some m.cls := findClass_of_methodNamed B.named
  have hlocks := B.notSynchronized
  have hin_X3 : ∀ w ∈ u_ws RX3 TX3 8, w ∈ wsX8_node := by decide +kernel
  have hin_X8 : ∀ w ∈ u_ws RX8 TX8 14, w ∈ wsX8_node := by decide +kernel
  have hl := lv_entry ([.ref h0, .int p0, .int p1, .int p2]) (n := 5) (Nat.le_of_ble_eq_true rfl)
  rw [lg_entry_eq]
  generalize (lg_sl ([.ref h0, .int p0, .int p1, .int p2]) ++ List.replicate (5 - (lg_sl ([.ref h0, .int p0, .int p1, .int p2])).length) Slot.unset).toArray = ls at hl ⊢
  have hl : lv_has ls 5 [(0, .ref h0), (1, .int p0), (2, .int p1), (3, .int p2)] := hl
  refine lv_iload_n hx hb dX8_node_0 rfl (lv_at hl 1 rfl) ?_
  refine bz_lt (zx := (p0).toInt) (tgt := 28) hx hb dX8_node_1 (by decide) rfl (fun c_1 => ?_) (fun c_1 => ?_)
  · refine lv_iconst (v := (-1)) hx hb dX8_node_28 (by decide) ?_
    exact W.iret (v := (-1)) hx hb hr (fun t ht hW => ⟨(-1), rfl, (by unfold F_node; first | exact (if_pos (by omega)).symm | exact (if_neg (by omega)).symm), ht⟩) (fun q h => by cases h) dX8_node_29
  · refine lv_iload_n hx hb dX8_node_4 rfl (lv_at hl 1 rfl) ?_
    refine lv_iconst (v := 4) hx hb dX8_node_5 (by decide) ?_
    refine bi_gt (zx := (p0).toInt) (zy := 4) (tgt := 28) hx hb dX8_node_6 (by decide) rfl (by decide) (fun c_2 => ?_) (fun c_2 => ?_)
    · refine lv_iconst (v := (-1)) hx hb dX8_node_28 (by decide) ?_
      exact W.iret (v := (-1)) hx hb hr (fun t ht hW => ⟨(-1), rfl, (by unfold F_node; first | exact (if_pos (by omega)).symm | exact (if_neg (by omega)).symm), ht⟩) (fun q h => by cases h) dX8_node_29
    · refine lv_iload_n hx hb dX8_node_9 rfl (lv_at hl 2 rfl) ?_
      refine lv_sipush (v := 4096) hx hb dX8_node_10 (by decide) ?_
      refine vp_callSi (zrS (As := [.int p1, .int 4096]) (rest := []) (wc := []) ⟨hx, hb, hml, hown, hts⟩ hN hK hP hD (k_X8_isBelow l D p1 4096 ) (va_cwS 2 hts gX8_node_X8_isBelow rfl rfl rfl (by decide +kernel) ⟨(Nat.le_of_ble_eq_true rfl), (Nat.le_of_ble_eq_true rfl)⟩) [] [] rfl rfl (by decide) rfl hl.1 rfl (Nat.le_of_ble_eq_true rfl) dX8_node_13 ⟨(Nat.le_of_ble_eq_true rfl), (Nat.le_of_ble_eq_true rfl)⟩) (fun r_3 h_4 => ?_)
      rcases h_4 with ⟨h_4, rfl⟩ | ⟨h_4, rfl⟩
      · have h_4 : 0 ≤ (p1).toInt ∧ (p1).toInt < 4096 := h_4
        refine lv_if_eq (tgt := 28) hx hb dX8_node_16 (by decide) (fun c_ => absurd c_ (by decide)) (fun _ => ?_)
        refine lv_iload_n hx hb dX8_node_19 rfl (lv_at hl 3 rfl) ?_
        refine bz_lt (zx := (p2).toInt) (tgt := 28) hx hb dX8_node_20 (by decide) rfl (fun c_5 => ?_) (fun c_5 => ?_)
        · refine lv_iconst (v := (-1)) hx hb dX8_node_28 (by decide) ?_
          exact W.iret (v := (-1)) hx hb hr (fun t ht hW => ⟨(-1), rfl, (by unfold F_node; first | exact (if_pos (by omega)).symm | exact (if_neg (by omega)).symm), ht⟩) (fun q h => by cases h) dX8_node_29
        · refine lv_iload_n hx hb dX8_node_23 rfl (lv_at hl 3 rfl) ?_
          refine lv_iconst (v := 2) hx hb dX8_node_24 (by decide) ?_
          refine bi_le (zx := (p2).toInt) (zy := 2) (tgt := 30) hx hb dX8_node_25 (by decide) rfl (by decide) (fun c_6 => ?_) (fun c_6 => ?_)
          · refine lv_aload_n hx hb dX8_node_30 rfl (lv_at hl 0 rfl) ?_
            refine va_get (D := D) (ci := 8) (v := .ref a4) (C := RX8) (T := TX8) (N := 14) hx hb hts hin_X8 hown hK hP 0 rfl rfl 3 (by decide) (hts (.fieldLink RX8 29 "CryOrder" "root" "LCryOrder$Node;") (by decide +kernel)) (fun _ h9 => h9) rfl dX8_node_31 ?_
            refine lv_iload_n hx hb dX8_node_34 rfl (lv_at hl 1 rfl) ?_
            refine lv_iload_n hx hb dX8_node_35 rfl (lv_at hl 2 rfl) ?_
            refine va_csq (zrV (As := [.int p0, .int p1]) (rest := []) (wc := [(a4, .inr (3, [.null, .int 0, .int 0, .null, .null, .int 0, .int 0, .int 0]))]) ⟨hx, hb, hml, hown, hts⟩ hN hK hP hD (k_X3_find l D a4 (.null) (.null) 0 0 0 0 0 p0 p1 ) (cwV 2 hts gX8_node_X3_find rfl rfl rfl (by decide +kernel) ⟨(Nat.le_of_ble_eq_true rfl), (Nat.le_of_ble_eq_true rfl)⟩) [] [1] rfl rfl (by decide) 3 0 rfl rfl rfl hl.1 rfl (Nat.le_of_ble_eq_true rfl) dX8_node_36 ⟨(Nat.le_of_ble_eq_true rfl), (Nat.le_of_ble_eq_true rfl)⟩) (fun r_7 h_8 => ?_)
            rcases h_8 with ⟨h_8, rfl⟩ | ⟨h_8, rfl⟩
            · have h_8 : (p0).toInt ≤ 0 := h_8
              refine lv_topv (z := .ref a4) rfl ?_
              refine lv_astore (lv' := [(4, .ref a4), (0, .ref h0), (1, .int p0), (2, .int p1), (3, .int p2)]) hx hb dX8_node_39 hl (by decide) rfl (fun ls hl => ?_)
              refine lv_aload hx hb dX8_node_41 (lv_at hl 0 rfl) ?_
              refine lv_ifnonnull (tgt := 48) hx hb dX8_node_43 (by decide) ?_
              refine lv_iload_n hx hb dX8_node_48 rfl (lv_at hl 4 rfl) ?_
              rcases (show (p2).toInt = 0 ∨ (p2).toInt = 1 ∨ ((p2).toInt ≠ 0 ∧ (p2).toInt ≠ 1) by omega) with c_9 | c_9 | c_9
              · refine lv_lookup (tgt := 76) hx hb dX8_node_49 (by decide) (by rw [c_9]) (by decide) ?_
                refine lv_aload hx hb dX8_node_76 (lv_at hl 0 rfl) ?_
                refine va_get (D := D) (ci := 3) (v := .int 0) (C := RX3) (T := TX3) (N := 8) hx hb hts hin_X3 hown hK hP 1 rfl rfl 5 (by decide) (hts (.fieldLink RX8 195 "CryOrder$Node" "settledTrue" "I") (by decide +kernel)) (fun _ h9 => h9) rfl dX8_node_78 ?_
                exact W.iret (v := 0) hx hb hr (fun t ht hW => ⟨0, rfl, (by unfold F_node; first | exact (if_pos (by omega)).symm | exact (if_neg (by omega)).symm), ht⟩) (fun q h => by cases h) dX8_node_81
              · refine lv_lookup (tgt := 82) hx hb dX8_node_49 (by decide) (by rw [c_9]) (by decide) ?_
                refine lv_aload hx hb dX8_node_82 (lv_at hl 0 rfl) ?_
                refine va_get (D := D) (ci := 3) (v := .int 0) (C := RX3) (T := TX3) (N := 8) hx hb hts hin_X3 hown hK hP 1 rfl rfl 6 (by decide) (hts (.fieldLink RX8 198 "CryOrder$Node" "settled" "I") (by decide +kernel)) (fun _ h9 => h9) rfl dX8_node_84 ?_
                exact W.iret (v := 0) hx hb hr (fun t ht hW => ⟨0, rfl, (by unfold F_node; first | exact (if_pos (by omega)).symm | exact (if_neg (by omega)).symm), ht⟩) (fun q h => by cases h) dX8_node_87
              · refine lv_lookup (off := 39) (tgt := 88) hx hb dX8_node_49 (by decide) (by show Op.lookupswitch.offset [(0, 27), (1, 33)] 39 _ = _; rw [Op.lookupswitch.offset_cons, if_neg (by omega), Op.lookupswitch.offset_cons, if_neg (by omega)]; rfl) (by decide) ?_
                refine lv_aload hx hb dX8_node_88 (lv_at hl 0 rfl) ?_
                refine va_get (D := D) (ci := 3) (v := .int 0) (C := RX3) (T := TX3) (N := 8) hx hb hts hin_X3 hown hK hP 1 rfl rfl 7 (by decide) (hts (.fieldLink RX8 201 "CryOrder$Node" "open" "I") (by decide +kernel)) (fun _ h9 => h9) rfl dX8_node_90 ?_
                exact W.iret (v := 0) hx hb hr (fun t ht hW => ⟨0, rfl, (by unfold F_node; first | exact (if_pos (by omega)).symm | exact (if_neg (by omega)).symm), ht⟩) (fun q h => by cases h) dX8_node_93
            · have h_8 : 0 < (p0).toInt := h_8
              refine lv_topv (z := .null) rfl ?_
              refine lv_astoreN (lv' := [(4, .null), (0, .ref h0), (1, .int p0), (2, .int p1), (3, .int p2)]) hx hb dX8_node_39 hl (by decide) rfl (fun ls hl => ?_)
              refine lv_aloadN hx hb dX8_node_41 (lv_at hl 0 rfl) ?_
              refine lv_ifnonnullN hx hb dX8_node_43 ?_
              refine lv_iconst (v := 0) hx hb dX8_node_46 (by decide) ?_
              exact W.iret (v := 0) hx hb hr (fun t ht hW => ⟨0, rfl, (by unfold F_node; first | exact (if_pos (by omega)).symm | exact (if_neg (by omega)).symm), ht⟩) (fun q h => by cases h) dX8_node_47
          · refine lv_iconst (v := (-1)) hx hb dX8_node_28 (by decide) ?_
            exact W.iret (v := (-1)) hx hb hr (fun t ht hW => ⟨(-1), rfl, (by unfold F_node; first | exact (if_pos (by omega)).symm | exact (if_neg (by omega)).symm), ht⟩) (fun q h => by cases h) dX8_node_29
      · have h_4 : (p1).toInt < 0 ∨ 4096 ≤ (p1).toInt := h_4
        refine lv_if_eq (tgt := 28) hx hb dX8_node_16 (by decide) (fun _ => ?_) (fun c_ => absurd c_ (by decide))
        refine lv_iconst (v := (-1)) hx hb dX8_node_28 (by decide) ?_
        exact W.iret (v := (-1)) hx hb hr (fun t ht hW => ⟨(-1), rfl, (by unfold F_node; first | exact (if_pos (by omega)).symm | exact (if_neg (by omega)).symm), ht⟩) (fun q h => by cases h) dX8_node_29

set_option maxHeartbeats 4000000 in
set_option maxRecDepth 100000 in
theorem k_X8_order (l : Launch) (D : va_G) (h0 : Nat) (a1 : Nat) (a2 : Nat) (a3 : Nat) (a4 : Nat) (a5 : Nat) (a6 : Nat) (a7 : Nat) (o1 : Nat) (p0 : Int32) : Met l yX8_order wsX8_order ({ frames := 2, cells := 0, slots := 0, locals := 42 }) (va_Pc [.ref h0, .int p0] (wo D [] [(h0, .inr (8, [.ref a1, .ref a2, .ref a3, .ref a4, .ref a5, .ref a6, .ref a7, .int 0, .int 0, .int 0, .int 50, .int 3, .int 0, .int 0])), (a6, .inr (2, [.ref o1, .int 0]))])) (vp_Si (fun r => r = -1)) 0 0 (fun _ => False) := by
  refine Met.ofW (cc := cX8_order) (maxL := 3) (ret := (some .int)) (by decide) rfl ?_
  intro p e s m args below meth c s₁ B hml hv
  obtain ⟨rfl, hP, hK, hD, hN⟩ := hv
  have hx := B.exec
  have hb := B.bytes
  have hr := B.returns
  have hts := atoms_spec (ws := wsX8_order) B.pre
  have hown : s.vm.findClass RX8 = some m.cls := findClass_of_methodNamed B.named
  have hlocks := B.notSynchronized
  have hl := lv_entry ([.ref h0, .int p0]) (n := 3) (Nat.le_of_ble_eq_true rfl)
  rw [lg_entry_eq]
  generalize (lg_sl ([.ref h0, .int p0]) ++ List.replicate (3 - (lg_sl ([.ref h0, .int p0])).length) Slot.unset).toArray = ls at hl ⊢
  have hl : lv_has ls 3 [(0, .ref h0), (1, .int p0)] := hl
  refine lv_aload_n hx hb dX8_order_0 rfl (lv_at hl 0 rfl) ?_
  refine va_csq (zrV (As := []) (rest := []) (wc := [(h0, .inr (8, [.ref a1, .ref a2, .ref a3, .ref a4, .ref a5, .ref a6, .ref a7, .int 0, .int 0, .int 0, .int 50, .int 3, .int 0, .int 0]))]) ⟨hx, hb, hml, hown, hts⟩ hN hK hP hD (k_X8_casesNow l D h0 a1 a2 a3 a4 a5 a6 a7 ) (cwV 0 hts gX8_order_X8_casesNow rfl rfl rfl (by decide +kernel) ⟨(Nat.le_of_ble_eq_true rfl), (Nat.le_of_ble_eq_true rfl)⟩) [] [0] rfl rfl (by decide) 8 0 rfl rfl rfl hl.1 rfl (Nat.le_of_ble_eq_true rfl) dX8_order_1 ⟨(Nat.le_of_ble_eq_true rfl), (Nat.le_of_ble_eq_true rfl)⟩) (fun r_1 h_2 => ?_)
  subst h_2
  refine lv_topv (z := .ref a6) rfl ?_
  refine lv_iload_n hx hb dX8_order_4 rfl (lv_at hl 1 rfl) ?_
  refine va_csq (zrV (As := [.int p0]) (rest := []) (wc := [(a6, .inr (2, [.ref o1, .int 0]))]) ⟨hx, hb, hml, hown, hts⟩ hN hK hP hD (k_X2_at l D a6 o1 p0 ) (cwV 1 hts gX8_order_X2_at rfl rfl rfl (by decide +kernel) ⟨(Nat.le_of_ble_eq_true rfl), (Nat.le_of_ble_eq_true rfl)⟩) [] [1] rfl rfl (by decide) 2 0 rfl rfl rfl hl.1 rfl (Nat.le_of_ble_eq_true rfl) dX8_order_5 ⟨(Nat.le_of_ble_eq_true rfl), (Nat.le_of_ble_eq_true rfl)⟩) (fun r_3 h_4 => ?_)
  subst h_4
  refine lv_topv (z := .null) rfl ?_
  refine lv_astore_nN (lv' := [(2, .null), (0, .ref h0), (1, .int p0)]) hx hb dX8_order_8 rfl hl (by decide) rfl (fun ls hl => ?_)
  refine lv_aload_nN hx hb dX8_order_9 rfl (lv_at hl 0 rfl) ?_
  refine lv_ifnonnullN hx hb dX8_order_10 ?_
  refine lv_iconst (v := (-1)) hx hb dX8_order_13 (by decide) ?_
  refine lv_goto (tgt := 21) hx hb dX8_order_14 (by decide) ?_
  exact W.iret (v := (-1)) hx hb hr (fun t ht hW => ⟨(-1), rfl, rfl, ht⟩) (fun q h => by cases h) dX8_order_21

set_option maxHeartbeats 4000000 in
set_option maxRecDepth 100000 in
theorem k_X8_caseOf (l : Launch) (D : va_G) (h0 : Nat) (a1 : Nat) (a2 : Nat) (a3 : Nat) (a4 : Nat) (a5 : Nat) (a6 : Nat) (a7 : Nat) (p0 : Int32) (p1 : Int32) : Met l yX8_caseOf wsX8_caseOf ({ frames := 2, cells := 0, slots := 0, locals := 42 }) (va_Pc [.ref h0, .int p0, .int p1] (wo D [] [(h0, .inr (8, [.ref a1, .ref a2, .ref a3, .ref a4, .ref a5, .ref a6, .ref a7, .int 0, .int 0, .int 0, .int 50, .int 3, .int 0, .int 0]))])) (vp_Si (fun r => r = -1)) 0 0 (fun _ => False) := by
  refine Met.ofW (cc := cX8_caseOf) (maxL := 4) (ret := (some .int)) (by decide) rfl ?_
  intro p e s m args below meth c s₁ B hml hv
  obtain ⟨rfl, hP, hK, hD, hN⟩ := hv
  have hx := B.exec
  have hb := B.bytes
  have hr := B.returns
  have hts := atoms_spec (ws := wsX8_caseOf) B.pre
  have hown : s.vm.findClass RX8 = some m.cls := findClass_of_methodNamed B.named
  have hlocks := B.notSynchronized
  have hl := lv_entry ([.ref h0, .int p0, .int p1]) (n := 4) (Nat.le_of_ble_eq_true rfl)
  rw [lg_entry_eq]
  generalize (lg_sl ([.ref h0, .int p0, .int p1]) ++ List.replicate (4 - (lg_sl ([.ref h0, .int p0, .int p1])).length) Slot.unset).toArray = ls at hl ⊢
  have hl : lv_has ls 4 [(0, .ref h0), (1, .int p0), (2, .int p1)] := hl
  refine lv_aload_n hx hb dX8_caseOf_0 rfl (lv_at hl 0 rfl) ?_
  refine va_csq (zrV (As := []) (rest := []) (wc := [(h0, .inr (8, [.ref a1, .ref a2, .ref a3, .ref a4, .ref a5, .ref a6, .ref a7, .int 0, .int 0, .int 0, .int 50, .int 3, .int 0, .int 0]))]) ⟨hx, hb, hml, hown, hts⟩ hN hK hP hD (k_X8_casesNow l D h0 a1 a2 a3 a4 a5 a6 a7 ) (cwV 0 hts gX8_caseOf_X8_casesNow rfl rfl rfl (by decide +kernel) ⟨(Nat.le_of_ble_eq_true rfl), (Nat.le_of_ble_eq_true rfl)⟩) [] [0] rfl rfl (by decide) 8 0 rfl rfl rfl hl.1 rfl (Nat.le_of_ble_eq_true rfl) dX8_caseOf_1 ⟨(Nat.le_of_ble_eq_true rfl), (Nat.le_of_ble_eq_true rfl)⟩) (fun r_1 h_2 => ?_)
  subst h_2
  refine lv_topv (z := .ref a6) rfl ?_
  refine lv_pop hx hb dX8_caseOf_4 rfl ?_
  refine lv_aload_n hx hb dX8_caseOf_5 rfl (lv_at hl 0 rfl) ?_
  refine lv_iload_n hx hb dX8_caseOf_6 rfl (lv_at hl 1 rfl) ?_
  refine va_csq (zrV (As := [.int p0]) (rest := []) (wc := [(h0, .inr (8, [.ref a1, .ref a2, .ref a3, .ref a4, .ref a5, .ref a6, .ref a7, .int 0, .int 0, .int 0, .int 50, .int 3, .int 0, .int 0]))]) ⟨hx, hb, hml, hown, hts⟩ hN hK hP hD (k_X8_alarmAt l D h0 a1 a2 a3 a4 a5 a6 a7 p0 ) (cwV 1 hts gX8_caseOf_X8_alarmAt rfl rfl rfl (by decide +kernel) ⟨(Nat.le_of_ble_eq_true rfl), (Nat.le_of_ble_eq_true rfl)⟩) [] [0] rfl rfl (by decide) 8 0 rfl rfl rfl hl.1 rfl (Nat.le_of_ble_eq_true rfl) dX8_caseOf_7 ⟨(Nat.le_of_ble_eq_true rfl), (Nat.le_of_ble_eq_true rfl)⟩) (fun r_3 h_4 => ?_)
  subst h_4
  refine lv_topv (z := .null) rfl ?_
  refine lv_astore_nN (lv' := [(3, .null), (0, .ref h0), (1, .int p0), (2, .int p1)]) hx hb dX8_caseOf_10 rfl hl (by decide) rfl (fun ls hl => ?_)
  refine lv_aload_nN hx hb dX8_caseOf_11 rfl (lv_at hl 0 rfl) ?_
  refine lv_ifnullN (tgt := 29) hx hb dX8_caseOf_12 (by decide) ?_
  refine lv_iconst (v := (-1)) hx hb dX8_caseOf_29 (by decide) ?_
  exact W.iret (v := (-1)) hx hb hr (fun t ht hW => ⟨(-1), rfl, rfl, ht⟩) (fun q h => by cases h) dX8_caseOf_30

set_option maxHeartbeats 4000000 in
set_option maxRecDepth 100000 in
theorem k_X8_slow (l : Launch) (D : va_G) (h0 : Nat) (a1 : Nat) (a2 : Nat) (a3 : Nat) (a4 : Nat) (a5 : Nat) (a6 : Nat) (a7 : Nat) (c2 : ClassId) (p0 : Int32) : Met l yX8_slow wsX8_slow ({ frames := 1, cells := 0, slots := 0, locals := 21 }) (va_Pc [.ref h0, .int p0] (wo D [(c2, .object RX0)] [(h0, .inr (8, [.ref a1, .ref a2, .ref a3, .ref a4, .ref a5, .ref a6, .ref a7, .int 0, .int 0, .int 0, .int 50, .int 3, .int 0, .int 0])), (a2, .inl (c2, 40, .inr (.inr (.inr (.inr (fun _ => none))))))])) (vp_Si (fun r => r = -1)) 0 0 (fun _ => False) := by
  refine Met.ofW (cc := cX8_slow) (maxL := 5) (ret := (some .int)) (by decide) rfl ?_
  intro p e s m args below meth c s₁ B hml hv
  obtain ⟨rfl, hP, hK, hD, hN⟩ := hv
  have hx := B.exec
  have hb := B.bytes
  have hr := B.returns
  have hts := atoms_spec (ws := wsX8_slow) B.pre
  have hown : s.vm.findClass RX8 = some m.cls := findClass_of_methodNamed B.named
  have hlocks := B.notSynchronized
  have hin_X8 : ∀ w ∈ u_ws RX8 TX8 14, w ∈ wsX8_slow := by decide +kernel
  have hl := lv_entry ([.ref h0, .int p0]) (n := 5) (Nat.le_of_ble_eq_true rfl)
  rw [lg_entry_eq]
  generalize (lg_sl ([.ref h0, .int p0]) ++ List.replicate (5 - (lg_sl ([.ref h0, .int p0])).length) Slot.unset).toArray = ls at hl ⊢
  have hl : lv_has ls 5 [(0, .ref h0), (1, .int p0)] := hl
  refine lv_iload_n hx hb dX8_slow_0 rfl (lv_at hl 1 rfl) ?_
  refine lv_bipush (v := 40) hx hb dX8_slow_1 (by decide) ?_
  refine vp_callSi (zrS (As := [.int p0, .int 40]) (rest := []) (wc := []) ⟨hx, hb, hml, hown, hts⟩ hN hK hP hD (k_X8_isBelow l D p0 40 ) (va_cwS 2 hts gX8_slow_X8_isBelow rfl rfl rfl (by decide +kernel) ⟨(Nat.le_of_ble_eq_true rfl), (Nat.le_of_ble_eq_true rfl)⟩) [] [] rfl rfl (by decide) rfl hl.1 rfl (Nat.le_of_ble_eq_true rfl) dX8_slow_3 ⟨(Nat.le_of_ble_eq_true rfl), (Nat.le_of_ble_eq_true rfl)⟩) (fun r_1 h_2 => ?_)
  rcases h_2 with ⟨h_2, rfl⟩ | ⟨h_2, rfl⟩
  · have h_2 : 0 ≤ (p0).toInt ∧ (p0).toInt < 40 := h_2
    refine lv_if_ne (tgt := 11) hx hb dX8_slow_6 (by decide) (fun _ => ?_) (fun c_ => absurd c_ (by decide))
    refine lv_iconst (v := 0) hx hb dX8_slow_11 (by decide) ?_
    refine lv_istore_n (lv' := [(2, .int 0), (0, .ref h0), (1, .int p0)]) hx hb dX8_slow_12 rfl hl (by decide) rfl (fun ls hl => ?_)
    refine lv_aload_n hx hb dX8_slow_13 rfl (lv_at hl 1 rfl) ?_
    refine va_get (D := D) (ci := 8) (v := .ref a2) (C := RX8) (T := TX8) (N := 14) hx hb hts hin_X8 hown hK hP 0 rfl rfl 1 (by decide) (hts (.fieldLink RX8 15 "CryOrder" "latestOfThing" "[LCryOrder$Alarm;") (by decide +kernel)) (fun _ h9 => h9) rfl dX8_slow_14 ?_
    refine lv_iload_n hx hb dX8_slow_17 rfl (lv_at hl 2 rfl) ?_
    refine va_aldq hx hb hK hP 1 0 rfl rfl (vp_in_iff.mpr (by omega)) dX8_slow_18 ?_
    refine lv_topv (z := .null) rfl ?_
    refine lv_astore_nN (lv' := [(3, .null), (2, .int 0), (0, .ref h0), (1, .int p0)]) hx hb dX8_slow_19 rfl hl (by decide) rfl (fun ls hl => ?_)
    refine lv_aload_nN hx hb dX8_slow_20 rfl (lv_at hl 0 rfl) ?_
    refine lv_ifnullN (tgt := 83) hx hb dX8_slow_21 (by decide) ?_
    refine lv_iload_n hx hb dX8_slow_83 rfl (lv_at hl 1 rfl) ?_
    refine lv_sipush (v := 30000) hx hb dX8_slow_84 (by decide) ?_
    refine lv_icmp_le (tgt := 94) hx hb dX8_slow_87 (by decide) (fun _ => ?_) (fun c_ => absurd c_ (by decide))
    refine lv_iconst (v := (-1)) hx hb dX8_slow_94 (by decide) ?_
    exact W.iret (v := (-1)) hx hb hr (fun t ht hW => ⟨(-1), rfl, rfl, ht⟩) (fun q h => by cases h) dX8_slow_95
  · have h_2 : (p0).toInt < 0 ∨ 40 ≤ (p0).toInt := h_2
    refine lv_if_ne (tgt := 11) hx hb dX8_slow_6 (by decide) (fun c_ => absurd c_ (by decide)) (fun _ => ?_)
    refine lv_iconst (v := (-1)) hx hb dX8_slow_9 (by decide) ?_
    exact W.iret (v := (-1)) hx hb hr (fun t ht hW => ⟨(-1), rfl, rfl, ht⟩) (fun q h => by cases h) dX8_slow_10

set_option maxHeartbeats 4000000 in
set_option maxRecDepth 100000 in
theorem k_X8_source (l : Launch) (D : va_G) (h0 : Nat) (a1 : Nat) (a2 : Nat) (a3 : Nat) (a4 : Nat) (a5 : Nat) (a6 : Nat) (a7 : Nat) (p0 : Int32) (p1 : Int32) : Met l yX8_source wsX8_source ({ frames := 1, cells := 0, slots := 0, locals := 21 }) (va_Pc [.ref h0, .int p0, .int p1] (wo D [] [(h0, .inr (8, [.ref a1, .ref a2, .ref a3, .ref a4, .ref a5, .ref a6, .ref a7, .int 0, .int 0, .int 0, .int 50, .int 3, .int 0, .int 0]))])) (vp_Si (fun r => r = F_source p0 p1)) 0 0 (fun _ => False) := by
  refine Met.ofW (cc := cX8_source) (maxL := 5) (ret := (some .int)) (by decide) rfl ?_
  intro p e s m args below meth c s₁ B hml hv
  obtain ⟨rfl, hP, hK, hD, hN⟩ := hv
  have hx := B.exec
  have hb := B.bytes
  have hr := B.returns
  have hts := atoms_spec (ws := wsX8_source) B.pre
  have hown : s.vm.findClass RX8 = some m.cls := findClass_of_methodNamed B.named
  have hlocks := B.notSynchronized
  have hin_X8 : ∀ w ∈ u_ws RX8 TX8 14, w ∈ wsX8_source := by decide +kernel
  have hl := lv_entry ([.ref h0, .int p0, .int p1]) (n := 5) (Nat.le_of_ble_eq_true rfl)
  rw [lg_entry_eq]
  generalize (lg_sl ([.ref h0, .int p0, .int p1]) ++ List.replicate (5 - (lg_sl ([.ref h0, .int p0, .int p1])).length) Slot.unset).toArray = ls at hl ⊢
  have hl : lv_has ls 5 [(0, .ref h0), (1, .int p0), (2, .int p1)] := hl
  refine lv_iload_n hx hb dX8_source_0 rfl (lv_at hl 1 rfl) ?_
  refine lv_bipush (v := 10) hx hb dX8_source_1 (by decide) ?_
  refine vp_callSi (zrS (As := [.int p0, .int 10]) (rest := []) (wc := []) ⟨hx, hb, hml, hown, hts⟩ hN hK hP hD (k_X8_isBelow l D p0 10 ) (va_cwS 2 hts gX8_source_X8_isBelow rfl rfl rfl (by decide +kernel) ⟨(Nat.le_of_ble_eq_true rfl), (Nat.le_of_ble_eq_true rfl)⟩) [] [] rfl rfl (by decide) rfl hl.1 rfl (Nat.le_of_ble_eq_true rfl) dX8_source_3 ⟨(Nat.le_of_ble_eq_true rfl), (Nat.le_of_ble_eq_true rfl)⟩) (fun r_1 h_2 => ?_)
  rcases h_2 with ⟨h_2, rfl⟩ | ⟨h_2, rfl⟩
  · have h_2 : 0 ≤ (p0).toInt ∧ (p0).toInt < 10 := h_2
    refine lv_if_eq (tgt := 19) hx hb dX8_source_6 (by decide) (fun c_ => absurd c_ (by decide)) (fun _ => ?_)
    refine lv_iload_n hx hb dX8_source_9 rfl (lv_at hl 2 rfl) ?_
    refine bz_lt (zx := (p1).toInt) (tgt := 19) hx hb dX8_source_10 (by decide) rfl (fun c_3 => ?_) (fun c_3 => ?_)
    · refine lv_iconst (v := (-1)) hx hb dX8_source_19 (by decide) ?_
      exact W.iret (v := (-1)) hx hb hr (fun t ht hW => ⟨(-1), rfl, (by unfold F_source; first | exact (if_pos (by omega)).symm | exact (if_neg (by omega)).symm), ht⟩) (fun q h => by cases h) dX8_source_20
    · refine lv_iload_n hx hb dX8_source_13 rfl (lv_at hl 2 rfl) ?_
      refine lv_bipush (v := 6) hx hb dX8_source_14 (by decide) ?_
      refine bi_le (zx := (p1).toInt) (zy := 6) (tgt := 21) hx hb dX8_source_16 (by decide) rfl (by decide) (fun c_4 => ?_) (fun c_4 => ?_)
      · refine lv_iconst (v := 0) hx hb dX8_source_21 (by decide) ?_
        refine lv_istore_n (lv' := [(3, .int 0), (0, .ref h0), (1, .int p0), (2, .int p1)]) hx hb dX8_source_22 rfl hl (by decide) rfl (fun ls hl => ?_)
        refine lv_iconst (v := 0) hx hb dX8_source_23 (by decide) ?_
        refine lv_istore (lv' := [(4, .int 0), (3, .int 0), (0, .ref h0), (1, .int p0), (2, .int p1)]) hx hb dX8_source_24 hl (by decide) rfl (fun ls hl => ?_)
        refine lv_iload hx hb dX8_source_26 (lv_at hl 0 rfl) ?_
        refine lv_aload_n hx hb dX8_source_28 rfl (lv_at hl 2 rfl) ?_
        refine va_get (D := D) (ci := 8) (v := .int 0) (C := RX8) (T := TX8) (N := 14) hx hb hts hin_X8 hown hK hP 0 rfl rfl 7 (by decide) (hts (.fieldLink RX8 79 "CryOrder" "alarmCount" "I") (by decide +kernel)) (fun _ h9 => h9) rfl dX8_source_29 ?_
        refine lv_icmp_ge (tgt := 72) hx hb dX8_source_32 (by decide) (fun _ => ?_) (fun c_ => absurd c_ (by decide))
        refine lv_iload_n hx hb dX8_source_72 rfl (lv_at hl 1 rfl) ?_
        exact W.iret (v := 0) hx hb hr (fun t ht hW => ⟨0, rfl, (by unfold F_source; first | exact (if_pos (by omega)).symm | exact (if_neg (by omega)).symm), ht⟩) (fun q h => by cases h) dX8_source_73
      · refine lv_iconst (v := (-1)) hx hb dX8_source_19 (by decide) ?_
        exact W.iret (v := (-1)) hx hb hr (fun t ht hW => ⟨(-1), rfl, (by unfold F_source; first | exact (if_pos (by omega)).symm | exact (if_neg (by omega)).symm), ht⟩) (fun q h => by cases h) dX8_source_20
  · have h_2 : (p0).toInt < 0 ∨ 10 ≤ (p0).toInt := h_2
    refine lv_if_eq (tgt := 19) hx hb dX8_source_6 (by decide) (fun _ => ?_) (fun c_ => absurd c_ (by decide))
    refine lv_iconst (v := (-1)) hx hb dX8_source_19 (by decide) ?_
    exact W.iret (v := (-1)) hx hb hr (fun t ht hW => ⟨(-1), rfl, (by unfold F_source; first | exact (if_pos (by omega)).symm | exact (if_neg (by omega)).symm), ht⟩) (fun q h => by cases h) dX8_source_20

set_option maxHeartbeats 4000000 in
set_option maxRecDepth 100000 in
theorem k_X8_count (l : Launch) (D : va_G) (h0 : Nat) (a1 : Nat) (a2 : Nat) (a3 : Nat) (a4 : Nat) (a5 : Nat) (a6 : Nat) (a7 : Nat) (o5 : Nat) (o1 : Nat) (p0 : Int32) : Met l yX8_count wsX8_count ({ frames := 1, cells := 0, slots := 0, locals := 20 }) (va_Pc [.ref h0, .int p0] (wo D [] [(h0, .inr (8, [.ref a1, .ref a2, .ref a3, .ref a4, .ref a5, .ref a6, .ref a7, .int 0, .int 0, .int 0, .int 50, .int 3, .int 0, .int 0])), (a4, .inr (3, [.null, .int 0, .int 0, .null, .null, .int 0, .int 0, .int 0])), (a5, .inr (7, [.ref o5, .int 0])), (a6, .inr (2, [.ref o1, .int 0]))])) (vp_Si (fun r => r = F_count p0)) 0 0 (fun _ => False) := by
  refine Met.ofW (cc := cX8_count) (maxL := 2) (ret := (some .int)) (by decide) rfl ?_
  intro p e s m args below meth c s₁ B hml hv
  obtain ⟨rfl, hP, hK, hD, hN⟩ := hv
  have hx := B.exec
  have hb := B.bytes
  have hr := B.returns
  have hts := atoms_spec (ws := wsX8_count) B.pre
  have hown : s.vm.findClass RX8 = some m.cls := findClass_of_methodNamed B.named
  have hlocks := B.notSynchronized
  have hin_X2 : ∀ w ∈ u_ws RX2 TX2 2, w ∈ wsX8_count := by decide +kernel
  have hin_X3 : ∀ w ∈ u_ws RX3 TX3 8, w ∈ wsX8_count := by decide +kernel
  have hin_X7 : ∀ w ∈ u_ws RX7 TX7 2, w ∈ wsX8_count := by decide +kernel
  have hin_X8 : ∀ w ∈ u_ws RX8 TX8 14, w ∈ wsX8_count := by decide +kernel
  have hl := lv_entry ([.ref h0, .int p0]) (n := 2) (Nat.le_of_ble_eq_true rfl)
  rw [lg_entry_eq]
  generalize (lg_sl ([.ref h0, .int p0]) ++ List.replicate (2 - (lg_sl ([.ref h0, .int p0])).length) Slot.unset).toArray = ls at hl ⊢
  have hl : lv_has ls 2 [(0, .ref h0), (1, .int p0)] := hl
  refine lv_iload_n hx hb dX8_count_0 rfl (lv_at hl 1 rfl) ?_
  rcases (show (p0).toInt = 0 ∨ (p0).toInt = 1 ∨ (p0).toInt = 2 ∨ (p0).toInt = 3 ∨ (p0).toInt = 4 ∨ (p0).toInt = 5 ∨ ((p0).toInt < 0 ∨ 5 < (p0).toInt) by omega) with c_1 | c_1 | c_1 | c_1 | c_1 | c_1 | c_1
  · refine lv_tableIn (tgt := 40) hx hb dX8_count_1 (by omega) (by omega) (by rw [c_1]; rfl) (by decide) ?_
    refine lv_aload_n hx hb dX8_count_40 rfl (lv_at hl 0 rfl) ?_
    refine va_get (D := D) (ci := 8) (v := .int 0) (C := RX8) (T := TX8) (N := 14) hx hb hts hin_X8 hown hK hP 0 rfl rfl 9 (by decide) (hts (.fieldLink RX8 61 "CryOrder" "now" "I") (by decide +kernel)) (fun _ h9 => h9) rfl dX8_count_41 ?_
    exact W.iret (v := 0) hx hb hr (fun t ht hW => ⟨0, rfl, (by unfold F_count; first | exact (if_pos (by omega)).symm | exact (if_neg (by omega)).symm), ht⟩) (fun q h => by cases h) dX8_count_44
  · refine lv_tableIn (tgt := 45) hx hb dX8_count_1 (by omega) (by omega) (by rw [c_1]; rfl) (by decide) ?_
    refine lv_aload_n hx hb dX8_count_45 rfl (lv_at hl 0 rfl) ?_
    refine va_get (D := D) (ci := 8) (v := .int 0) (C := RX8) (T := TX8) (N := 14) hx hb hts hin_X8 hown hK hP 0 rfl rfl 7 (by decide) (hts (.fieldLink RX8 79 "CryOrder" "alarmCount" "I") (by decide +kernel)) (fun _ h9 => h9) rfl dX8_count_46 ?_
    exact W.iret (v := 0) hx hb hr (fun t ht hW => ⟨0, rfl, (by unfold F_count; first | exact (if_pos (by omega)).symm | exact (if_neg (by omega)).symm), ht⟩) (fun q h => by cases h) dX8_count_49
  · refine lv_tableIn (tgt := 50) hx hb dX8_count_1 (by omega) (by omega) (by rw [c_1]; rfl) (by decide) ?_
    refine lv_aload_n hx hb dX8_count_50 rfl (lv_at hl 0 rfl) ?_
    refine va_get (D := D) (ci := 8) (v := .ref a4) (C := RX8) (T := TX8) (N := 14) hx hb hts hin_X8 hown hK hP 0 rfl rfl 3 (by decide) (hts (.fieldLink RX8 29 "CryOrder" "root" "LCryOrder$Node;") (by decide +kernel)) (fun _ h9 => h9) rfl dX8_count_51 ?_
    refine va_get (D := D) (ci := 3) (v := .int 0) (C := RX3) (T := TX3) (N := 8) hx hb hts hin_X3 hown hK hP 1 rfl rfl 7 (by decide) (hts (.fieldLink RX8 201 "CryOrder$Node" "open" "I") (by decide +kernel)) (fun _ h9 => h9) rfl dX8_count_54 ?_
    exact W.iret (v := 0) hx hb hr (fun t ht hW => ⟨0, rfl, (by unfold F_count; first | exact (if_pos (by omega)).symm | exact (if_neg (by omega)).symm), ht⟩) (fun q h => by cases h) dX8_count_57
  · refine lv_tableIn (tgt := 58) hx hb dX8_count_1 (by omega) (by omega) (by rw [c_1]; rfl) (by decide) ?_
    refine lv_aload_n hx hb dX8_count_58 rfl (lv_at hl 0 rfl) ?_
    refine va_csq (zrV (As := []) (rest := []) (wc := [(h0, .inr (8, [.ref a1, .ref a2, .ref a3, .ref a4, .ref a5, .ref a6, .ref a7, .int 0, .int 0, .int 0, .int 50, .int 3, .int 0, .int 0]))]) ⟨hx, hb, hml, hown, hts⟩ hN hK hP hD (k_X8_casesNow l D h0 a1 a2 a3 a4 a5 a6 a7 ) (cwV 0 hts gX8_count_X8_casesNow rfl rfl rfl (by decide +kernel) ⟨(Nat.le_of_ble_eq_true rfl), (Nat.le_of_ble_eq_true rfl)⟩) [] [0] rfl rfl (by decide) 8 0 rfl rfl rfl hl.1 rfl (Nat.le_of_ble_eq_true rfl) dX8_count_59 ⟨(Nat.le_of_ble_eq_true rfl), (Nat.le_of_ble_eq_true rfl)⟩) (fun r_2 h_3 => ?_)
    subst h_3
    refine lv_topv (z := .ref a6) rfl ?_
    refine va_get (D := D) (ci := 2) (v := .int 0) (C := RX2) (T := TX2) (N := 2) hx hb hts hin_X2 hown hK hP 3 rfl rfl 1 (by decide) (hts (.fieldLink RX8 271 "CryOrder$Cases" "size" "I") (by decide +kernel)) (fun _ h9 => h9) rfl dX8_count_62 ?_
    exact W.iret (v := 0) hx hb hr (fun t ht hW => ⟨0, rfl, (by unfold F_count; first | exact (if_pos (by omega)).symm | exact (if_neg (by omega)).symm), ht⟩) (fun q h => by cases h) dX8_count_65
  · refine lv_tableIn (tgt := 66) hx hb dX8_count_1 (by omega) (by omega) (by rw [c_1]; rfl) (by decide) ?_
    refine lv_aload_n hx hb dX8_count_66 rfl (lv_at hl 0 rfl) ?_
    refine va_get (D := D) (ci := 8) (v := .int 0) (C := RX8) (T := TX8) (N := 14) hx hb hts hin_X8 hown hK hP 0 rfl rfl 8 (by decide) (hts (.fieldLink RX8 116 "CryOrder" "silenceCount" "I") (by decide +kernel)) (fun _ h9 => h9) rfl dX8_count_67 ?_
    exact W.iret (v := 0) hx hb hr (fun t ht hW => ⟨0, rfl, (by unfold F_count; first | exact (if_pos (by omega)).symm | exact (if_neg (by omega)).symm), ht⟩) (fun q h => by cases h) dX8_count_70
  · refine lv_tableIn (tgt := 71) hx hb dX8_count_1 (by omega) (by omega) (by rw [c_1]; rfl) (by decide) ?_
    refine lv_aload_n hx hb dX8_count_71 rfl (lv_at hl 0 rfl) ?_
    refine va_get (D := D) (ci := 8) (v := .ref a5) (C := RX8) (T := TX8) (N := 14) hx hb hts hin_X8 hown hK hP 0 rfl rfl 4 (by decide) (hts (.fieldLink RX8 36 "CryOrder" "ties" "LCryOrder$Ties;") (by decide +kernel)) (fun _ h9 => h9) rfl dX8_count_72 ?_
    refine va_get (D := D) (ci := 7) (v := .int 0) (C := RX7) (T := TX7) (N := 2) hx hb hts hin_X7 hown hK hP 2 rfl rfl 1 (by decide) (hts (.fieldLink RX8 272 "CryOrder$Ties" "size" "I") (by decide +kernel)) (fun _ h9 => h9) rfl dX8_count_75 ?_
    exact W.iret (v := 0) hx hb hr (fun t ht hW => ⟨0, rfl, (by unfold F_count; first | exact (if_pos (by omega)).symm | exact (if_neg (by omega)).symm), ht⟩) (fun q h => by cases h) dX8_count_78
  · refine lv_tableOut (tgt := 79) hx hb dX8_count_1 (by omega) (by decide) ?_
    refine lv_iconst (v := (-1)) hx hb dX8_count_79 (by decide) ?_
    exact W.iret (v := (-1)) hx hb hr (fun t ht hW => ⟨(-1), rfl, (by unfold F_count; first | exact (if_pos (by omega)).symm | exact (if_neg (by omega)).symm), ht⟩) (fun q h => by cases h) dX8_count_80

set_option maxHeartbeats 4000000 in
set_option maxRecDepth 100000 in
theorem k_X8_plan (l : Launch) (D : va_G) (sz : Nat) (h0 : Nat) (a1 : Nat) (a2 : Nat) (a3 : Nat) (a4 : Nat) (a5 : Nat) (a6 : Nat) (a7 : Nat) (o1 : Nat) (t1 : Nat) (t2 : Nat) (t3 : Nat) (t4 : Nat) (y3 : Int32) (f0 : Nat → Int32) (g0 : Nat → Int32) (c6 : ClassId) (c7 : ClassId) (p0 : Int32) (p1 : Int32) : Met l yX8_plan wsX8_plan ({ frames := 2, cells := 0, slots := 0, locals := 47 }) (va_Pc [.ref h0, .int p0, .int p1] (wz sz D [(c6, .int), (c7, .int)] [(h0, .inr (8, [.ref a1, .ref a2, .ref a3, .ref a4, .ref a5, .ref a6, .ref a7, .int 0, .int 0, .int 0, .int 50, .int 3, .int 0, .int 0])), (a6, .inr (2, [.ref o1, .int 0])), (a7, .inr (5, [.ref t1, .ref t2, .ref t3, .ref t4, .int 0, .int 0, .int 0, .int y3])), (t3, .inl (c6, 301, .inl (f0))), (t4, .inl (c7, 301, .inl (g0)))])) (va_Qi (fun (r : Int32) (_ : Unit) => r = F_plan p0 p1) (fun _ t => wp D [] (va_A [(h0, .inr (8, [.ref a1, .ref a2, .ref a3, .ref a4, .ref a5, .ref a6, .ref a7, .int 0, .int 0, .int 0, .int 50, .int 3, .int 0, .int 0])), (a6, .inr (2, [.ref o1, .int 0])), (a7, .inr (5, [.ref t1, .ref t2, .ref t3, .ref t4, .int 0, .int 0, .int 0, .int y3])), (t3, .inl (c6, 301, .inl (f0))), (t4, .inl (c7, 301, .inl (g0)))] sz) [] t) (va_A [(h0, .inr (8, [.ref a1, .ref a2, .ref a3, .ref a4, .ref a5, .ref a6, .ref a7, .int 0, .int 0, .int 0, .int 50, .int 3, .int 0, .int 0])), (a6, .inr (2, [.ref o1, .int 0])), (a7, .inr (5, [.ref t1, .ref t2, .ref t3, .ref t4, .int 0, .int 0, .int 0, .int y3])), (t3, .inl (c6, 301, .inl (f0))), (t4, .inl (c7, 301, .inl (g0)))] sz)) 0 0 (va_A [(h0, .inr (8, [.ref a1, .ref a2, .ref a3, .ref a4, .ref a5, .ref a6, .ref a7, .int 0, .int 0, .int 0, .int 50, .int 3, .int 0, .int 0])), (a6, .inr (2, [.ref o1, .int 0])), (a7, .inr (5, [.ref t1, .ref t2, .ref t3, .ref t4, .int 0, .int 0, .int 0, .int y3])), (t3, .inl (c6, 301, .inl (f0))), (t4, .inl (c7, 301, .inl (g0)))] sz) := by
  refine Met.ofW (cc := cX8_plan) (maxL := 4) (ret := (some .int)) (by decide) rfl ?_
  intro p e s m args below meth c s₁ B hml hv
  obtain ⟨rfl, hsz, hP, hK, hD0, hN⟩ := hv
  have hx := B.exec
  have hb := B.bytes
  have hr := B.returns
  have hts := atoms_spec (ws := wsX8_plan) B.pre
  have hown : s.vm.findClass RX8 = some m.cls := findClass_of_methodNamed B.named
  have hlocks := B.notSynchronized
  subst hsz
  have hD := hD0.self (sz := s.heap.size)
  generalize hAe : va_A [(h0, .inr (8, [.ref a1, .ref a2, .ref a3, .ref a4, .ref a5, .ref a6, .ref a7, .int 0, .int 0, .int 0, .int 50, .int 3, .int 0, .int 0])), (a6, .inr (2, [.ref o1, .int 0])), (a7, .inr (5, [.ref t1, .ref t2, .ref t3, .ref t4, .int 0, .int 0, .int 0, .int y3])), (t3, .inl (c6, 301, .inl (f0))), (t4, .inl (c7, 301, .inl (g0)))] s.heap.size = A at hD ⊢
  have hA : ∀ q : Nat, s.heap.size ≤ q → A q := fun q h => by rw [← hAe]; exact Or.inr h
  have hS : va_S A s.heap s.heap [] := va_S.rf
  have hin_X5 : ∀ w ∈ u_ws RX5 TX5 8, w ∈ wsX8_plan := by decide +kernel
  have hin_X8 : ∀ w ∈ u_ws RX8 TX8 14, w ∈ wsX8_plan := by decide +kernel
  have hl := lv_entry ([.ref h0, .int p0, .int p1]) (n := 4) (Nat.le_of_ble_eq_true rfl)
  rw [lg_entry_eq]
  generalize (lg_sl ([.ref h0, .int p0, .int p1]) ++ List.replicate (4 - (lg_sl ([.ref h0, .int p0, .int p1])).length) Slot.unset).toArray = ls at hl ⊢
  have hl : lv_has ls 4 [(0, .ref h0), (1, .int p0), (2, .int p1)] := hl
  refine lv_iload_n hx hb dX8_plan_0 rfl (lv_at hl 1 rfl) ?_
  refine bz_lt (zx := (p0).toInt) (tgt := 11) hx hb dX8_plan_1 (by decide) rfl (fun c_1 => ?_) (fun c_1 => ?_)
  · refine lv_iconst (v := (-1)) hx hb dX8_plan_11 (by decide) ?_
    refine W.widen (k := 0) (n := 0) (Nat.le_of_ble_eq_true rfl) (Nat.le_of_ble_eq_true rfl) ?_
    have hP9 := hP.sub (ws' := []) [] rfl
    have hD9 := hD.sub (ws' := []) [] (by decide) rfl
    have hK9 := hK.sub (tys' := []) [] rfl
    exact W.iret (v := (-1)) hx hb hr (fun t ht hW => ⟨⟨(-1), (), rfl, (by unfold F_plan; first | exact (if_pos (by omega)).symm | exact (if_neg (by omega)).symm), by rw [ht]; exact hP9, va_K.moved hW.alike hK9, hD9⟩, hS.F ht⟩) hS.2.2 dX8_plan_12
  · refine lv_iload_n hx hb dX8_plan_4 rfl (lv_at hl 1 rfl) ?_
    refine lv_sipush (v := 300) hx hb dX8_plan_5 (by decide) ?_
    refine bi_le (zx := (p0).toInt) (zy := 300) (tgt := 13) hx hb dX8_plan_8 (by decide) rfl (by decide) (fun c_2 => ?_) (fun c_2 => ?_)
    · refine lv_aload_n hx hb dX8_plan_13 rfl (lv_at hl 0 rfl) ?_
      refine va_get (D := D) (ci := 8) (v := .ref a7) (C := RX8) (T := TX8) (N := 14) hx hb hts hin_X8 hown hK hP 0 rfl rfl 6 (by decide) (hts (.fieldLink RX8 50 "CryOrder" "planner" "LCryOrder$Plan;") (by decide +kernel)) (fun _ h9 => h9) rfl dX8_plan_14 ?_
      refine lv_aload_n hx hb dX8_plan_17 rfl (lv_at hl 0 rfl) ?_
      refine va_csq (zrV (As := []) (rest := [.ref a7]) (wc := [(h0, .inr (8, [.ref a1, .ref a2, .ref a3, .ref a4, .ref a5, .ref a6, .ref a7, .int 0, .int 0, .int 0, .int 50, .int 3, .int 0, .int 0]))]) ⟨hx, hb, hml, hown, hts⟩ hN hK hP hD (k_X8_casesNow l D h0 a1 a2 a3 a4 a5 a6 a7 ) (cwV 0 hts gX8_plan_X8_casesNow rfl rfl rfl (by decide +kernel) ⟨(Nat.le_of_ble_eq_true rfl), (Nat.le_of_ble_eq_true rfl)⟩) [] [0] rfl rfl (by decide) 8 0 rfl rfl rfl hl.1 rfl (Nat.le_of_ble_eq_true rfl) dX8_plan_18 ⟨(Nat.le_of_ble_eq_true rfl), (Nat.le_of_ble_eq_true rfl)⟩) (fun r_3 h_4 => ?_)
      subst h_4
      refine lv_topv (z := .ref a6) rfl ?_
      refine lv_iload_n hx hb dX8_plan_21 rfl (lv_at hl 1 rfl) ?_
      refine lv_aload_n hx hb dX8_plan_22 rfl (lv_at hl 0 rfl) ?_
      refine va_get (D := D) (ci := 8) (v := .int 0) (C := RX8) (T := TX8) (N := 14) hx hb hts hin_X8 hown hK hP 0 rfl rfl 12 (by decide) (hts (.fieldLink RX8 122 "CryOrder" "tries" "I") (by decide +kernel)) (fun _ h9 => h9) rfl dX8_plan_23 ?_
      refine va_callv (zwV (As := [.ref a6, .int p0, .int 0]) (rest := []) (wc := [(a7, .inr (5, [.ref t1, .ref t2, .ref t3, .ref t4, .int 0, .int 0, .int 0, .int y3])), (a6, .inr (2, [.ref o1, .int 0])), (t3, .inl (c6, 301, .inl (f0))), (t4, .inl (c7, 301, .inl (g0)))]) ⟨hx, hb, hml, hown, hts⟩ hN hK hP hD (k_X5_make l D s.heap.size a7 t1 t2 t3 t4 a6 o1 0 0 0 y3 p0 0 ((f0)) ((g0)) c6 c7 (by omega)) (cwV 3 hts gX8_plan_X5_make rfl rfl rfl (by decide +kernel) ⟨(Nat.le_of_ble_eq_true rfl), (Nat.le_of_ble_eq_true rfl)⟩) [0, 1] [2, 1, 3, 4] rfl rfl (by decide) 5 0 rfl rfl rfl hl.1 rfl (Nat.le_of_ble_eq_true rfl) dX8_plan_26 ⟨(Nat.le_of_ble_eq_true rfl), (Nat.le_of_ble_eq_true rfl)⟩) hS (fun q _ h => va_free (wc := [(a7, .inr (5, [.ref t1, .ref t2, .ref t3, .ref t4, .int 0, .int 0, .int 0, .int y3])), (a6, .inr (2, [.ref o1, .int 0])), (t3, .inl (c6, 301, .inl (f0))), (t4, .inl (c7, 301, .inl (g0)))]) hD hS hA [2, 1, 3, 4] rfl q h) (va_free (wc := [(a7, .inr (5, [.ref t1, .ref t2, .ref t3, .ref t4, .int 0, .int 0, .int 0, .int y3])), (a6, .inr (2, [.ref o1, .int 0])), (t3, .inl (c6, 301, .inl (f0))), (t4, .inl (c7, 301, .inl (g0)))]) hD hS hA [2, 1, 3, 4] rfl) (fun u t H_5 locs1 ht hvm hw hB hz1 hk1 hS1 => ?_)
      obtain ⟨hP, hD, hK⟩ := zj (wc := [(a7, .inr (5, [.ref t1, .ref t2, .ref t3, .ref t4, .int 0, .int 0, .int 0, .int y3])), (a6, .inr (2, [.ref o1, .int 0])), (t3, .inl (c6, 301, .inl (f0))), (t4, .inl (c7, 301, .inl (g0)))]) (wr := [(h0, .inr (8, [.ref a1, .ref a2, .ref a3, .ref a4, .ref a5, .ref a6, .ref a7, .int 0, .int 0, .int 0, .int 50, .int 3, .int 0, .int 0]))]) (w1 := [(a7, .inr (5, [.ref t1, .ref t2, .ref t3, .ref t4, .int 0, .int 0, .int 0, .int p0])), (a6, .inr (2, [.ref o1, .int 0]))]) hK hP hD hS hA [2, 1, 3, 4] [0] rfl rfl (by decide) (by decide) hk1 ht hvm hB
      have hS := hS1
      have hP : va_P D vwCl [(h0, .inr (8, [.ref a1, .ref a2, .ref a3, .ref a4, .ref a5, .ref a6, .ref a7, .int 0, .int 0, .int 0, .int 50, .int 3, .int 0, .int 0])), (a7, .inr (5, [.ref t1, .ref t2, .ref t3, .ref t4, .int 0, .int 0, .int 0, .int p0])), (a6, .inr (2, [.ref o1, .int 0]))] H_5 := hP
      have hD : va_D A [(h0, .inr (8, [.ref a1, .ref a2, .ref a3, .ref a4, .ref a5, .ref a6, .ref a7, .int 0, .int 0, .int 0, .int 50, .int 3, .int 0, .int 0])), (a7, .inr (5, [.ref t1, .ref t2, .ref t3, .ref t4, .int 0, .int 0, .int 0, .int p0])), (a6, .inr (2, [.ref o1, .int 0]))] := hD
      have hK : va_K D vwCl [(c6, .int), (c7, .int)] s := hK
      refine lv_iload_n hx hb dX8_plan_29 rfl (lv_at hl 2 rfl) ?_
      refine lv_iconst (v := (-1)) hx hb dX8_plan_30 (by decide) ?_
      refine bi_ne (zx := (p1).toInt) (zy := (-1)) (tgt := 42) hx hb dX8_plan_31 (by decide) rfl (by decide) (fun c_6 => ?_) (fun c_6 => ?_)
      · refine lv_aload_n hx hb dX8_plan_42 rfl (lv_at hl 0 rfl) ?_
        refine va_get (D := D) (ci := 8) (v := .ref a7) (C := RX8) (T := TX8) (N := 14) hx hb hts hin_X8 hown hK hP 0 rfl rfl 6 (by decide) (hts (.fieldLink RX8 50 "CryOrder" "planner" "LCryOrder$Plan;") (by decide +kernel)) (fun _ h9 => h9) rfl dX8_plan_43 ?_
        refine lv_iload_n hx hb dX8_plan_46 rfl (lv_at hl 2 rfl) ?_
        refine va_csq (zrV (As := [.int p1]) (rest := []) (wc := [(a7, .inr (5, [.ref t1, .ref t2, .ref t3, .ref t4, .int 0, .int 0, .int 0, .int p0]))]) ⟨hx, hb, hml, hown, hts⟩ hN hK hP hD (k_X5_at l D a7 t1 t2 t3 t4 p0 p1 ) (cwV 1 hts gX8_plan_X5_at rfl rfl rfl (by decide +kernel) ⟨(Nat.le_of_ble_eq_true rfl), (Nat.le_of_ble_eq_true rfl)⟩) [] [1] rfl rfl (by decide) 5 0 rfl rfl rfl hl.1 rfl (Nat.le_of_ble_eq_true rfl) dX8_plan_47 ⟨(Nat.le_of_ble_eq_true rfl), (Nat.le_of_ble_eq_true rfl)⟩) (fun r_7 h_8 => ?_)
        subst h_8
        refine lv_topv (z := .null) rfl ?_
        refine lv_astore_nN (lv' := [(3, .null), (0, .ref h0), (1, .int p0), (2, .int p1)]) hx hb dX8_plan_50 rfl hl (by decide) rfl (fun ls hl => ?_)
        refine lv_aload_nN hx hb dX8_plan_51 rfl (lv_at hl 0 rfl) ?_
        refine lv_ifnonnullN hx hb dX8_plan_52 ?_
        refine lv_iconst (v := (-1)) hx hb dX8_plan_55 (by decide) ?_
        refine lv_goto (tgt := 63) hx hb dX8_plan_56 (by decide) ?_
        refine W.widen (k := 0) (n := 0) (Nat.le_of_ble_eq_true rfl) (Nat.le_of_ble_eq_true rfl) ?_
        have hP9 := hP.sub (ws' := []) [] rfl
        have hD9 := hD.sub (ws' := []) [] (by decide) rfl
        have hK9 := hK.sub (tys' := []) [] rfl
        exact W.iret (v := (-1)) hx hb hr (fun t ht hW => ⟨⟨(-1), (), rfl, (by unfold F_plan; first | exact (if_pos (by omega)).symm | exact (if_neg (by omega)).symm), by rw [ht]; exact hP9, va_K.moved hW.alike hK9, hD9⟩, hS.F ht⟩) hS.2.2 dX8_plan_63
      · refine lv_aload_n hx hb dX8_plan_34 rfl (lv_at hl 0 rfl) ?_
        refine va_get (D := D) (ci := 8) (v := .ref a7) (C := RX8) (T := TX8) (N := 14) hx hb hts hin_X8 hown hK hP 0 rfl rfl 6 (by decide) (hts (.fieldLink RX8 50 "CryOrder" "planner" "LCryOrder$Plan;") (by decide +kernel)) (fun _ h9 => h9) rfl dX8_plan_35 ?_
        refine va_get (D := D) (ci := 5) (v := .int 0) (C := RX5) (T := TX5) (N := 8) hx hb hts hin_X5 hown hK hP 1 rfl rfl 4 (by decide) (hts (.fieldLink RX8 254 "CryOrder$Plan" "takenCount" "I") (by decide +kernel)) (fun _ h9 => h9) rfl dX8_plan_38 ?_
        refine W.widen (k := 0) (n := 0) (Nat.le_of_ble_eq_true rfl) (Nat.le_of_ble_eq_true rfl) ?_
        have hP9 := hP.sub (ws' := []) [] rfl
        have hD9 := hD.sub (ws' := []) [] (by decide) rfl
        have hK9 := hK.sub (tys' := []) [] rfl
        exact W.iret (v := 0) hx hb hr (fun t ht hW => ⟨⟨0, (), rfl, (by unfold F_plan; first | exact (if_pos (by omega)).symm | exact (if_neg (by omega)).symm), by rw [ht]; exact hP9, va_K.moved hW.alike hK9, hD9⟩, hS.F ht⟩) hS.2.2 dX8_plan_41
    · refine lv_iconst (v := (-1)) hx hb dX8_plan_11 (by decide) ?_
      refine W.widen (k := 0) (n := 0) (Nat.le_of_ble_eq_true rfl) (Nat.le_of_ble_eq_true rfl) ?_
      have hP9 := hP.sub (ws' := []) [] rfl
      have hD9 := hD.sub (ws' := []) [] (by decide) rfl
      have hK9 := hK.sub (tys' := []) [] rfl
      exact W.iret (v := (-1)) hx hb hr (fun t ht hW => ⟨⟨(-1), (), rfl, (by unfold F_plan; first | exact (if_pos (by omega)).symm | exact (if_neg (by omega)).symm), by rw [ht]; exact hP9, va_K.moved hW.alike hK9, hD9⟩, hS.F ht⟩) hS.2.2 dX8_plan_12

set_option maxHeartbeats 4000000 in
set_option maxRecDepth 100000 in
theorem k_X8_worth (l : Launch) (D : va_G) (sz : Nat) (h0 : Nat) (a1 : Nat) (a2 : Nat) (a3 : Nat) (a4 : Nat) (a5 : Nat) (a6 : Nat) (a7 : Nat) (o1 : Nat) (t1 : Nat) (t2 : Nat) (t3 : Nat) (t4 : Nat) (y3 : Int32) (f0 : Nat → Int32) (g0 : Nat → Int32) (c6 : ClassId) (c7 : ClassId) (p0 : Int32) (p1 : Int32) : Met l yX8_worth wsX8_worth ({ frames := 2, cells := 0, slots := 0, locals := 47 }) (va_Pc [.ref h0, .int p0, .int p1] (wz sz D [(c6, .int), (c7, .int)] [(h0, .inr (8, [.ref a1, .ref a2, .ref a3, .ref a4, .ref a5, .ref a6, .ref a7, .int 0, .int 0, .int 0, .int 50, .int 3, .int 0, .int 0])), (a6, .inr (2, [.ref o1, .int 0])), (a7, .inr (5, [.ref t1, .ref t2, .ref t3, .ref t4, .int 0, .int 0, .int 0, .int y3])), (t3, .inl (c6, 301, .inl (f0))), (t4, .inl (c7, 301, .inl (g0)))])) (va_Qi (fun (r : Int32) (_ : Unit) => r = F_worth p0 p1) (fun _ t => wp D [] (va_A [(h0, .inr (8, [.ref a1, .ref a2, .ref a3, .ref a4, .ref a5, .ref a6, .ref a7, .int 0, .int 0, .int 0, .int 50, .int 3, .int 0, .int 0])), (a6, .inr (2, [.ref o1, .int 0])), (a7, .inr (5, [.ref t1, .ref t2, .ref t3, .ref t4, .int 0, .int 0, .int 0, .int y3])), (t3, .inl (c6, 301, .inl (f0))), (t4, .inl (c7, 301, .inl (g0)))] sz) [] t) (va_A [(h0, .inr (8, [.ref a1, .ref a2, .ref a3, .ref a4, .ref a5, .ref a6, .ref a7, .int 0, .int 0, .int 0, .int 50, .int 3, .int 0, .int 0])), (a6, .inr (2, [.ref o1, .int 0])), (a7, .inr (5, [.ref t1, .ref t2, .ref t3, .ref t4, .int 0, .int 0, .int 0, .int y3])), (t3, .inl (c6, 301, .inl (f0))), (t4, .inl (c7, 301, .inl (g0)))] sz)) 0 0 (va_A [(h0, .inr (8, [.ref a1, .ref a2, .ref a3, .ref a4, .ref a5, .ref a6, .ref a7, .int 0, .int 0, .int 0, .int 50, .int 3, .int 0, .int 0])), (a6, .inr (2, [.ref o1, .int 0])), (a7, .inr (5, [.ref t1, .ref t2, .ref t3, .ref t4, .int 0, .int 0, .int 0, .int y3])), (t3, .inl (c6, 301, .inl (f0))), (t4, .inl (c7, 301, .inl (g0)))] sz) := by
  refine Met.ofW (cc := cX8_worth) (maxL := 3) (ret := (some .int)) (by decide) rfl ?_
  intro p e s m args below meth c s₁ B hml hv
  obtain ⟨rfl, hsz, hP, hK, hD0, hN⟩ := hv
  have hx := B.exec
  have hb := B.bytes
  have hr := B.returns
  have hts := atoms_spec (ws := wsX8_worth) B.pre
  have hown : s.vm.findClass RX8 = some m.cls := findClass_of_methodNamed B.named
  have hlocks := B.notSynchronized
  subst hsz
  have hD := hD0.self (sz := s.heap.size)
  generalize hAe : va_A [(h0, .inr (8, [.ref a1, .ref a2, .ref a3, .ref a4, .ref a5, .ref a6, .ref a7, .int 0, .int 0, .int 0, .int 50, .int 3, .int 0, .int 0])), (a6, .inr (2, [.ref o1, .int 0])), (a7, .inr (5, [.ref t1, .ref t2, .ref t3, .ref t4, .int 0, .int 0, .int 0, .int y3])), (t3, .inl (c6, 301, .inl (f0))), (t4, .inl (c7, 301, .inl (g0)))] s.heap.size = A at hD ⊢
  have hA : ∀ q : Nat, s.heap.size ≤ q → A q := fun q h => by rw [← hAe]; exact Or.inr h
  have hS : va_S A s.heap s.heap [] := va_S.rf
  have hin_X5 : ∀ w ∈ u_ws RX5 TX5 8, w ∈ wsX8_worth := by decide +kernel
  have hin_X8 : ∀ w ∈ u_ws RX8 TX8 14, w ∈ wsX8_worth := by decide +kernel
  have hl := lv_entry ([.ref h0, .int p0, .int p1]) (n := 3) (Nat.le_of_ble_eq_true rfl)
  rw [lg_entry_eq]
  generalize (lg_sl ([.ref h0, .int p0, .int p1]) ++ List.replicate (3 - (lg_sl ([.ref h0, .int p0, .int p1])).length) Slot.unset).toArray = ls at hl ⊢
  have hl : lv_has ls 3 [(0, .ref h0), (1, .int p0), (2, .int p1)] := hl
  refine lv_iload_n hx hb dX8_worth_0 rfl (lv_at hl 1 rfl) ?_
  refine bz_lt (zx := (p0).toInt) (tgt := 20) hx hb dX8_worth_1 (by decide) rfl (fun c_1 => ?_) (fun c_1 => ?_)
  · refine lv_iconst (v := (-1)) hx hb dX8_worth_20 (by decide) ?_
    refine W.widen (k := 0) (n := 0) (Nat.le_of_ble_eq_true rfl) (Nat.le_of_ble_eq_true rfl) ?_
    have hP9 := hP.sub (ws' := []) [] rfl
    have hD9 := hD.sub (ws' := []) [] (by decide) rfl
    have hK9 := hK.sub (tys' := []) [] rfl
    exact W.iret (v := (-1)) hx hb hr (fun t ht hW => ⟨⟨(-1), (), rfl, (by unfold F_worth; first | exact (if_pos (by omega)).symm | exact (if_neg (by omega)).symm), by rw [ht]; exact hP9, va_K.moved hW.alike hK9, hD9⟩, hS.F ht⟩) hS.2.2 dX8_worth_21
  · refine lv_iload_n hx hb dX8_worth_4 rfl (lv_at hl 1 rfl) ?_
    refine lv_sipush (v := 300) hx hb dX8_worth_5 (by decide) ?_
    refine bi_gt (zx := (p0).toInt) (zy := 300) (tgt := 20) hx hb dX8_worth_8 (by decide) rfl (by decide) (fun c_2 => ?_) (fun c_2 => ?_)
    · refine lv_iconst (v := (-1)) hx hb dX8_worth_20 (by decide) ?_
      refine W.widen (k := 0) (n := 0) (Nat.le_of_ble_eq_true rfl) (Nat.le_of_ble_eq_true rfl) ?_
      have hP9 := hP.sub (ws' := []) [] rfl
      have hD9 := hD.sub (ws' := []) [] (by decide) rfl
      have hK9 := hK.sub (tys' := []) [] rfl
      exact W.iret (v := (-1)) hx hb hr (fun t ht hW => ⟨⟨(-1), (), rfl, (by unfold F_worth; first | exact (if_pos (by omega)).symm | exact (if_neg (by omega)).symm), by rw [ht]; exact hP9, va_K.moved hW.alike hK9, hD9⟩, hS.F ht⟩) hS.2.2 dX8_worth_21
    · refine lv_iload_n hx hb dX8_worth_11 rfl (lv_at hl 2 rfl) ?_
      refine bz_lt (zx := (p1).toInt) (tgt := 20) hx hb dX8_worth_12 (by decide) rfl (fun c_3 => ?_) (fun c_3 => ?_)
      · refine lv_iconst (v := (-1)) hx hb dX8_worth_20 (by decide) ?_
        refine W.widen (k := 0) (n := 0) (Nat.le_of_ble_eq_true rfl) (Nat.le_of_ble_eq_true rfl) ?_
        have hP9 := hP.sub (ws' := []) [] rfl
        have hD9 := hD.sub (ws' := []) [] (by decide) rfl
        have hK9 := hK.sub (tys' := []) [] rfl
        exact W.iret (v := (-1)) hx hb hr (fun t ht hW => ⟨⟨(-1), (), rfl, (by unfold F_worth; first | exact (if_pos (by omega)).symm | exact (if_neg (by omega)).symm), by rw [ht]; exact hP9, va_K.moved hW.alike hK9, hD9⟩, hS.F ht⟩) hS.2.2 dX8_worth_21
      · refine lv_iload_n hx hb dX8_worth_15 rfl (lv_at hl 2 rfl) ?_
        refine lv_iconst (v := 2) hx hb dX8_worth_16 (by decide) ?_
        refine bi_le (zx := (p1).toInt) (zy := 2) (tgt := 22) hx hb dX8_worth_17 (by decide) rfl (by decide) (fun c_4 => ?_) (fun c_4 => ?_)
        · refine lv_aload_n hx hb dX8_worth_22 rfl (lv_at hl 0 rfl) ?_
          refine va_get (D := D) (ci := 8) (v := .ref a7) (C := RX8) (T := TX8) (N := 14) hx hb hts hin_X8 hown hK hP 0 rfl rfl 6 (by decide) (hts (.fieldLink RX8 50 "CryOrder" "planner" "LCryOrder$Plan;") (by decide +kernel)) (fun _ h9 => h9) rfl dX8_worth_23 ?_
          refine lv_aload_n hx hb dX8_worth_26 rfl (lv_at hl 0 rfl) ?_
          refine va_csq (zrV (As := []) (rest := [.ref a7]) (wc := [(h0, .inr (8, [.ref a1, .ref a2, .ref a3, .ref a4, .ref a5, .ref a6, .ref a7, .int 0, .int 0, .int 0, .int 50, .int 3, .int 0, .int 0]))]) ⟨hx, hb, hml, hown, hts⟩ hN hK hP hD (k_X8_casesNow l D h0 a1 a2 a3 a4 a5 a6 a7 ) (cwV 0 hts gX8_worth_X8_casesNow rfl rfl rfl (by decide +kernel) ⟨(Nat.le_of_ble_eq_true rfl), (Nat.le_of_ble_eq_true rfl)⟩) [] [0] rfl rfl (by decide) 8 0 rfl rfl rfl hl.1 rfl (Nat.le_of_ble_eq_true rfl) dX8_worth_27 ⟨(Nat.le_of_ble_eq_true rfl), (Nat.le_of_ble_eq_true rfl)⟩) (fun r_5 h_6 => ?_)
          subst h_6
          refine lv_topv (z := .ref a6) rfl ?_
          refine lv_iload_n hx hb dX8_worth_30 rfl (lv_at hl 1 rfl) ?_
          refine lv_aload_n hx hb dX8_worth_31 rfl (lv_at hl 0 rfl) ?_
          refine va_get (D := D) (ci := 8) (v := .int 0) (C := RX8) (T := TX8) (N := 14) hx hb hts hin_X8 hown hK hP 0 rfl rfl 12 (by decide) (hts (.fieldLink RX8 122 "CryOrder" "tries" "I") (by decide +kernel)) (fun _ h9 => h9) rfl dX8_worth_32 ?_
          refine va_callv (zwV (As := [.ref a6, .int p0, .int 0]) (rest := []) (wc := [(a7, .inr (5, [.ref t1, .ref t2, .ref t3, .ref t4, .int 0, .int 0, .int 0, .int y3])), (a6, .inr (2, [.ref o1, .int 0])), (t3, .inl (c6, 301, .inl (f0))), (t4, .inl (c7, 301, .inl (g0)))]) ⟨hx, hb, hml, hown, hts⟩ hN hK hP hD (k_X5_make l D s.heap.size a7 t1 t2 t3 t4 a6 o1 0 0 0 y3 p0 0 ((f0)) ((g0)) c6 c7 (by omega)) (cwV 3 hts gX8_worth_X5_make rfl rfl rfl (by decide +kernel) ⟨(Nat.le_of_ble_eq_true rfl), (Nat.le_of_ble_eq_true rfl)⟩) [0, 1] [2, 1, 3, 4] rfl rfl (by decide) 5 0 rfl rfl rfl hl.1 rfl (Nat.le_of_ble_eq_true rfl) dX8_worth_35 ⟨(Nat.le_of_ble_eq_true rfl), (Nat.le_of_ble_eq_true rfl)⟩) hS (fun q _ h => va_free (wc := [(a7, .inr (5, [.ref t1, .ref t2, .ref t3, .ref t4, .int 0, .int 0, .int 0, .int y3])), (a6, .inr (2, [.ref o1, .int 0])), (t3, .inl (c6, 301, .inl (f0))), (t4, .inl (c7, 301, .inl (g0)))]) hD hS hA [2, 1, 3, 4] rfl q h) (va_free (wc := [(a7, .inr (5, [.ref t1, .ref t2, .ref t3, .ref t4, .int 0, .int 0, .int 0, .int y3])), (a6, .inr (2, [.ref o1, .int 0])), (t3, .inl (c6, 301, .inl (f0))), (t4, .inl (c7, 301, .inl (g0)))]) hD hS hA [2, 1, 3, 4] rfl) (fun u t H_7 locs1 ht hvm hw hB hz1 hk1 hS1 => ?_)
          obtain ⟨hP, hD, hK⟩ := zj (wc := [(a7, .inr (5, [.ref t1, .ref t2, .ref t3, .ref t4, .int 0, .int 0, .int 0, .int y3])), (a6, .inr (2, [.ref o1, .int 0])), (t3, .inl (c6, 301, .inl (f0))), (t4, .inl (c7, 301, .inl (g0)))]) (wr := [(h0, .inr (8, [.ref a1, .ref a2, .ref a3, .ref a4, .ref a5, .ref a6, .ref a7, .int 0, .int 0, .int 0, .int 50, .int 3, .int 0, .int 0]))]) (w1 := [(a7, .inr (5, [.ref t1, .ref t2, .ref t3, .ref t4, .int 0, .int 0, .int 0, .int p0])), (a6, .inr (2, [.ref o1, .int 0]))]) hK hP hD hS hA [2, 1, 3, 4] [0] rfl rfl (by decide) (by decide) hk1 ht hvm hB
          have hS := hS1
          have hP : va_P D vwCl [(h0, .inr (8, [.ref a1, .ref a2, .ref a3, .ref a4, .ref a5, .ref a6, .ref a7, .int 0, .int 0, .int 0, .int 50, .int 3, .int 0, .int 0])), (a7, .inr (5, [.ref t1, .ref t2, .ref t3, .ref t4, .int 0, .int 0, .int 0, .int p0])), (a6, .inr (2, [.ref o1, .int 0]))] H_7 := hP
          have hD : va_D A [(h0, .inr (8, [.ref a1, .ref a2, .ref a3, .ref a4, .ref a5, .ref a6, .ref a7, .int 0, .int 0, .int 0, .int 50, .int 3, .int 0, .int 0])), (a7, .inr (5, [.ref t1, .ref t2, .ref t3, .ref t4, .int 0, .int 0, .int 0, .int p0])), (a6, .inr (2, [.ref o1, .int 0]))] := hD
          have hK : va_K D vwCl [(c6, .int), (c7, .int)] s := hK
          refine lv_iload_n hx hb dX8_worth_38 rfl (lv_at hl 2 rfl) ?_
          rcases (show (p1).toInt = 0 ∨ (p1).toInt = 1 ∨ ((p1).toInt ≠ 0 ∧ (p1).toInt ≠ 1) by omega) with c_8 | c_8 | c_8
          · refine lv_lookup (tgt := 64) hx hb dX8_worth_39 (by decide) (by rw [c_8]) (by decide) ?_
            refine lv_aload_n hx hb dX8_worth_64 rfl (lv_at hl 0 rfl) ?_
            refine va_get (D := D) (ci := 8) (v := .ref a7) (C := RX8) (T := TX8) (N := 14) hx hb hts hin_X8 hown hK hP 0 rfl rfl 6 (by decide) (hts (.fieldLink RX8 50 "CryOrder" "planner" "LCryOrder$Plan;") (by decide +kernel)) (fun _ h9 => h9) rfl dX8_worth_65 ?_
            refine va_get (D := D) (ci := 5) (v := .int 0) (C := RX5) (T := TX5) (N := 8) hx hb hts hin_X5 hown hK hP 1 rfl rfl 6 (by decide) (hts (.fieldLink RX8 258 "CryOrder$Plan" "scoreTaken" "I") (by decide +kernel)) (fun _ h9 => h9) rfl dX8_worth_68 ?_
            refine W.widen (k := 0) (n := 0) (Nat.le_of_ble_eq_true rfl) (Nat.le_of_ble_eq_true rfl) ?_
            have hP9 := hP.sub (ws' := []) [] rfl
            have hD9 := hD.sub (ws' := []) [] (by decide) rfl
            have hK9 := hK.sub (tys' := []) [] rfl
            exact W.iret (v := 0) hx hb hr (fun t ht hW => ⟨⟨0, (), rfl, (by unfold F_worth; first | exact (if_pos (by omega)).symm | exact (if_neg (by omega)).symm), by rw [ht]; exact hP9, va_K.moved hW.alike hK9, hD9⟩, hS.F ht⟩) hS.2.2 dX8_worth_71
          · refine lv_lookup (tgt := 72) hx hb dX8_worth_39 (by decide) (by rw [c_8]) (by decide) ?_
            refine lv_aload_n hx hb dX8_worth_72 rfl (lv_at hl 0 rfl) ?_
            refine va_get (D := D) (ci := 8) (v := .ref a6) (C := RX8) (T := TX8) (N := 14) hx hb hts hin_X8 hown hK hP 0 rfl rfl 5 (by decide) (hts (.fieldLink RX8 43 "CryOrder" "cases" "LCryOrder$Cases;") (by decide +kernel)) (fun _ h9 => h9) rfl dX8_worth_73 ?_
            refine vp_callSi (zrV (As := []) (rest := []) (wc := [(a6, .inr (2, [.ref o1, .int 0]))]) ⟨hx, hb, hml, hown, hts⟩ hN hK hP hD (k_X2_scoreOfAll l D a6 o1 ) (cwV 0 hts gX8_worth_X2_scoreOfAll rfl rfl rfl (by decide +kernel) ⟨(Nat.le_of_ble_eq_true rfl), (Nat.le_of_ble_eq_true rfl)⟩) [] [2] rfl rfl (by decide) 2 0 rfl rfl rfl hl.1 rfl (Nat.le_of_ble_eq_true rfl) dX8_worth_76 ⟨(Nat.le_of_ble_eq_true rfl), (Nat.le_of_ble_eq_true rfl)⟩) (fun r_9 h_10 => ?_)
            subst h_10
            refine lv_aload_n hx hb dX8_worth_79 rfl (lv_at hl 0 rfl) ?_
            refine va_get (D := D) (ci := 8) (v := .ref a7) (C := RX8) (T := TX8) (N := 14) hx hb hts hin_X8 hown hK hP 0 rfl rfl 6 (by decide) (hts (.fieldLink RX8 50 "CryOrder" "planner" "LCryOrder$Plan;") (by decide +kernel)) (fun _ h9 => h9) rfl dX8_worth_80 ?_
            refine va_get (D := D) (ci := 5) (v := .int 0) (C := RX5) (T := TX5) (N := 8) hx hb hts hin_X5 hown hK hP 1 rfl rfl 6 (by decide) (hts (.fieldLink RX8 258 "CryOrder$Plan" "scoreTaken" "I") (by decide +kernel)) (fun _ h9 => h9) rfl dX8_worth_83 ?_
            refine lv_isub hx hb dX8_worth_86 ?_
            refine lv_tope (z := 0) (by decide) ?_
            refine W.widen (k := 0) (n := 0) (Nat.le_of_ble_eq_true rfl) (Nat.le_of_ble_eq_true rfl) ?_
            have hP9 := hP.sub (ws' := []) [] rfl
            have hD9 := hD.sub (ws' := []) [] (by decide) rfl
            have hK9 := hK.sub (tys' := []) [] rfl
            exact W.iret (v := 0) hx hb hr (fun t ht hW => ⟨⟨0, (), rfl, (by unfold F_worth; first | exact (if_pos (by omega)).symm | exact (if_neg (by omega)).symm), by rw [ht]; exact hP9, va_K.moved hW.alike hK9, hD9⟩, hS.F ht⟩) hS.2.2 dX8_worth_87
          · refine lv_lookup (off := 49) (tgt := 88) hx hb dX8_worth_39 (by decide) (by show Op.lookupswitch.offset [(0, 25), (1, 33)] 49 _ = _; rw [Op.lookupswitch.offset_cons, if_neg (by omega), Op.lookupswitch.offset_cons, if_neg (by omega)]; rfl) (by decide) ?_
            refine lv_iload_n hx hb dX8_worth_88 rfl (lv_at hl 1 rfl) ?_
            refine lv_aload_n hx hb dX8_worth_89 rfl (lv_at hl 0 rfl) ?_
            refine va_get (D := D) (ci := 8) (v := .ref a7) (C := RX8) (T := TX8) (N := 14) hx hb hts hin_X8 hown hK hP 0 rfl rfl 6 (by decide) (hts (.fieldLink RX8 50 "CryOrder" "planner" "LCryOrder$Plan;") (by decide +kernel)) (fun _ h9 => h9) rfl dX8_worth_90 ?_
            refine va_get (D := D) (ci := 5) (v := .int p0) (C := RX5) (T := TX5) (N := 8) hx hb hts hin_X5 hown hK hP 1 rfl rfl 7 (by decide) (hts (.fieldLink RX8 264 "CryOrder$Plan" "minutesLeft" "I") (by decide +kernel)) (fun _ h9 => h9) rfl dX8_worth_93 ?_
            refine lv_isub hx hb dX8_worth_96 ?_
            refine lv_tope (z := 0) (Int32.sub_self _) ?_
            refine W.widen (k := 0) (n := 0) (Nat.le_of_ble_eq_true rfl) (Nat.le_of_ble_eq_true rfl) ?_
            have hP9 := hP.sub (ws' := []) [] rfl
            have hD9 := hD.sub (ws' := []) [] (by decide) rfl
            have hK9 := hK.sub (tys' := []) [] rfl
            exact W.iret (v := 0) hx hb hr (fun t ht hW => ⟨⟨0, (), rfl, (by unfold F_worth; first | exact (if_pos (by omega)).symm | exact (if_neg (by omega)).symm), by rw [ht]; exact hP9, va_K.moved hW.alike hK9, hD9⟩, hS.F ht⟩) hS.2.2 dX8_worth_97
        · refine lv_iconst (v := (-1)) hx hb dX8_worth_20 (by decide) ?_
          refine W.widen (k := 0) (n := 0) (Nat.le_of_ble_eq_true rfl) (Nat.le_of_ble_eq_true rfl) ?_
          have hP9 := hP.sub (ws' := []) [] rfl
          have hD9 := hD.sub (ws' := []) [] (by decide) rfl
          have hK9 := hK.sub (tys' := []) [] rfl
          exact W.iret (v := (-1)) hx hb hr (fun t ht hW => ⟨⟨(-1), (), rfl, (by unfold F_worth; first | exact (if_pos (by omega)).symm | exact (if_neg (by omega)).symm), by rw [ht]; exact hP9, va_K.moved hW.alike hK9, hD9⟩, hS.F ht⟩) hS.2.2 dX8_worth_21
