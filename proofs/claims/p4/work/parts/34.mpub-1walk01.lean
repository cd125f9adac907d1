set_option maxHeartbeats 4000000 in
set_option maxRecDepth 100000 in
theorem m_set (l : Launch) (D : va_G) (sz : Nat) (h0 : Nat) (b1 : Nat) (b2 : Nat) (b3 : Nat) (b4 : Nat) (b5 : Nat) (b6 : Nat) (b7 : Nat) (b8 : Nat) (b9 : Nat) (b10 : Nat) (b11 : Nat) (b12 : Nat) (b13 : Nat) (b14 : Nat) (b15 : Nat) (b16 : Nat) (b17 : Nat) (b18 : Nat) (b19 : Nat) (b20 : Nat) (b21 : Nat) (b22 : Nat) (b23 : Nat) (b24 : Nat) (b25 : Nat) (now : Int32) (na : Int32) (nsi : Int32) (nti : Int32) (vc : Int32) (vn : Int32) (vt : Int32) (ct : Int32) (cs : Int32) (co : Int32) (nca : Int32) (ntm : Int32) (p0 : Int32) (p1 : Int32) (hvt : 0 ≤ (vt).toInt ∧ (vt).toInt ≤ 5) : Met l yX9_set wsX9_set ({ frames := 1, cells := 0, slots := 0, locals := 22 }) (va_Pc [.ref h0, .int p0, .int p1] (wz sz D [] [oC h0 9 [.int now, .int na, .int nsi, .int nti, .int vc, .int vn, .int vt, .ref b1, .ref b2, .ref b3, .ref b4, .ref b5, .ref b6, .ref b7, .ref b8, .ref b9, .ref b10, .ref b11, .ref b12, .ref b13, .ref b14, .ref b15, .ref b16, .ref b17, .ref b18, .int ct, .int cs, .int co, .ref b19, .ref b20, .ref b21, .int nca, .ref b22, .ref b23, .int ntm, .ref b24, .ref b25]])) (va_Qi (fun (r : Int32) (_ : Unit) => r = F_set p0 p1) (fun _ t => ∃ (x0 : Int32), ∃ (x1 : Int32), ∃ (x2 : Int32), (wp D [] (va_A [oC h0 9 [.int now, .int na, .int nsi, .int nti, .int vc, .int vn, .int vt, .ref b1, .ref b2, .ref b3, .ref b4, .ref b5, .ref b6, .ref b7, .ref b8, .ref b9, .ref b10, .ref b11, .ref b12, .ref b13, .ref b14, .ref b15, .ref b16, .ref b17, .ref b18, .int ct, .int cs, .int co, .ref b19, .ref b20, .ref b21, .int nca, .ref b22, .ref b23, .int ntm, .ref b24, .ref b25]] sz) [oC h0 9 [.int now, .int na, .int nsi, .int nti, .int x0, .int x1, .int x2, .ref b1, .ref b2, .ref b3, .ref b4, .ref b5, .ref b6, .ref b7, .ref b8, .ref b9, .ref b10, .ref b11, .ref b12, .ref b13, .ref b14, .ref b15, .ref b16, .ref b17, .ref b18, .int ct, .int cs, .int co, .ref b19, .ref b20, .ref b21, .int nca, .ref b22, .ref b23, .int ntm, .ref b24, .ref b25]] t ∧ (0 ≤ (x2).toInt ∧ (x2).toInt ≤ 5))) (va_A [oC h0 9 [.int now, .int na, .int nsi, .int nti, .int vc, .int vn, .int vt, .ref b1, .ref b2, .ref b3, .ref b4, .ref b5, .ref b6, .ref b7, .ref b8, .ref b9, .ref b10, .ref b11, .ref b12, .ref b13, .ref b14, .ref b15, .ref b16, .ref b17, .ref b18, .int ct, .int cs, .int co, .ref b19, .ref b20, .ref b21, .int nca, .ref b22, .ref b23, .int ntm, .ref b24, .ref b25]] sz)) 0 0 (va_A [oC h0 9 [.int now, .int na, .int nsi, .int nti, .int vc, .int vn, .int vt, .ref b1, .ref b2, .ref b3, .ref b4, .ref b5, .ref b6, .ref b7, .ref b8, .ref b9, .ref b10, .ref b11, .ref b12, .ref b13, .ref b14, .ref b15, .ref b16, .ref b17, .ref b18, .int ct, .int cs, .int co, .ref b19, .ref b20, .ref b21, .int nca, .ref b22, .ref b23, .int ntm, .ref b24, .ref b25]] sz) := by
  refine Met.ofW (cc := cX9_set) (maxL := 3) (ret := (some .boolean)) (by decide) rfl ?_
  intro p e s m args below meth c s₁ B hml hv
  obtain ⟨rfl, hsz, hP, hK, hD0, hN⟩ := hv
  have hx := B.exec
  have hb := B.bytes
  have hr := B.returns
  have hts := atoms_spec (ws := wsX9_set) B.pre
  have hown : s.vm.findClass RX9 = some m.cls := findClass_of_methodNamed B.named
  have hlocks := B.notSynchronized
  subst hsz
  have hD := hD0.self (sz := s.heap.size)
  generalize hAe : va_A [oC h0 9 [.int now, .int na, .int nsi, .int nti, .int vc, .int vn, .int vt, .ref b1, .ref b2, .ref b3, .ref b4, .ref b5, .ref b6, .ref b7, .ref b8, .ref b9, .ref b10, .ref b11, .ref b12, .ref b13, .ref b14, .ref b15, .ref b16, .ref b17, .ref b18, .int ct, .int cs, .int co, .ref b19, .ref b20, .ref b21, .int nca, .ref b22, .ref b23, .int ntm, .ref b24, .ref b25]] s.heap.size = A at hD ⊢
  have hA : ∀ q : Nat, s.heap.size ≤ q → A q := fun q h => by rw [← hAe]; exact Or.inr h
  have hS : va_S A s.heap s.heap [] := va_S.rf
  have hin_X9 : ∀ w ∈ u_ws RX9 TX9 37, w ∈ wsX9_set := by decide +kernel
  have hl := lv_entry ([.ref h0, .int p0, .int p1]) (n := 3) (Nat.le_of_ble_eq_true rfl)
  rw [lg_entry_eq]
  generalize (lg_sl ([.ref h0, .int p0, .int p1]) ++ List.replicate (3 - (lg_sl ([.ref h0, .int p0, .int p1])).length) Slot.unset).toArray = ls at hl ⊢
  have hl : lv_has ls 3 [(0, .ref h0), (1, .int p0), (2, .int p1)] := hl
  refine lv_iload_n hx hb dX9_set_0 rfl (lv_at hl 1 rfl) ?_
  refine lv_iconst (v := 0) hx hb dX9_set_1 (by decide) ?_
  refine lv_iconst (v := 2) hx hb dX9_set_2 (by decide) ?_
  refine vp_callSi (zrS (As := [.int p0, .int 0, .int 2]) (rest := []) (wc := []) ⟨hx, hb, hml, hown, hts⟩ hN hK hP hD (m_isIn l D p0 0 2 ) (va_cwS 3 hts gX9_set_X9_isIn rfl rfl rfl (by decide +kernel) ⟨(Nat.le_of_ble_eq_true rfl), (Nat.le_of_ble_eq_true rfl)⟩) [] [] rfl rfl (by decide) rfl hl.1 rfl (Nat.le_of_ble_eq_true rfl) dX9_set_3 ⟨(Nat.le_of_ble_eq_true rfl), (Nat.le_of_ble_eq_true rfl)⟩) (fun r_1 h_2 => ?_)
  rcases h_2 with ⟨h_2, rfl⟩ | ⟨h_2, rfl⟩
  · have h_2 : 0 ≤ (p0).toInt ∧ (p0).toInt ≤ 2 := h_2
    refine lv_if_eq (tgt := 46) hx hb dX9_set_6 (by decide) (fun c_ => absurd c_ (by decide)) (fun _ => ?_)
    refine lv_iload_n hx hb dX9_set_9 rfl (lv_at hl 2 rfl) ?_
    refine lv_iload_n hx hb dX9_set_10 rfl (lv_at hl 1 rfl) ?_
    refine lv_iconst (v := 2) hx hb dX9_set_11 (by decide) ?_
    refine bi_ne (zx := (p0).toInt) (zy := 2) (tgt := 19) hx hb dX9_set_12 (by decide) rfl (by decide) (fun c_3 => ?_) (fun c_3 => ?_)
    · refine lv_iconst (v := 1) hx hb dX9_set_19 (by decide) ?_
      refine lv_iload_n hx hb dX9_set_20 rfl (lv_at hl 1 rfl) ?_
      refine bz_ne (zx := (p0).toInt) (tgt := 29) hx hb dX9_set_21 (by decide) rfl (fun c_4 => ?_) (fun c_4 => ?_)
      · refine lv_iload_n hx hb dX9_set_29 rfl (lv_at hl 1 rfl) ?_
        refine lv_iconst (v := 1) hx hb dX9_set_30 (by decide) ?_
        refine bi_ne (zx := (p0).toInt) (zy := 1) (tgt := 39) hx hb dX9_set_31 (by decide) rfl (by decide) (fun c_5 => ?_) (fun c_5 => ?_)
        · refine lv_iconst (v := 5) hx hb dX9_set_39 (by decide) ?_
          refine vp_callSi (zrS (As := [.int p1, .int 1, .int 5]) (rest := []) (wc := []) ⟨hx, hb, hml, hown, hts⟩ hN hK hP hD (m_isIn l D p1 1 5 ) (va_cwS 3 hts gX9_set_X9_isIn rfl rfl rfl (by decide +kernel) ⟨(Nat.le_of_ble_eq_true rfl), (Nat.le_of_ble_eq_true rfl)⟩) [] [] rfl rfl (by decide) rfl hl.1 rfl (Nat.le_of_ble_eq_true rfl) dX9_set_40 ⟨(Nat.le_of_ble_eq_true rfl), (Nat.le_of_ble_eq_true rfl)⟩) (fun r_6 h_7 => ?_)
          rcases h_7 with ⟨h_7, rfl⟩ | ⟨h_7, rfl⟩
          · have h_7 : 1 ≤ (p1).toInt ∧ (p1).toInt ≤ 5 := h_7
            refine lv_if_ne (tgt := 48) hx hb dX9_set_43 (by decide) (fun _ => ?_) (fun c_ => absurd c_ (by decide))
            refine lv_iload_n hx hb dX9_set_48 rfl (lv_at hl 1 rfl) ?_
            refine bz_ne (zx := (p0).toInt) (tgt := 60) hx hb dX9_set_49 (by decide) rfl (fun c_8 => ?_) (fun c_8 => ?_)
            · refine lv_iload_n hx hb dX9_set_60 rfl (lv_at hl 1 rfl) ?_
              refine lv_iconst (v := 1) hx hb dX9_set_61 (by decide) ?_
              refine bi_ne (zx := (p0).toInt) (zy := 1) (tgt := 73) hx hb dX9_set_62 (by decide) rfl (by decide) (fun c_9 => ?_) (fun c_9 => ?_)
              · refine lv_aload_n hx hb dX9_set_73 rfl (lv_at hl 0 rfl) ?_
                refine lv_iload_n hx hb dX9_set_74 rfl (lv_at hl 2 rfl) ?_
                refine va_put (D := D) (ci := 9) (v := .int p1) (ty := .int) (C := RX9) (T := TX9) (N := 37) hx hb hts hin_X9 tyX9 tyX9_ok nmX9 hown hK hP hD hS 0 rfl rfl 6 (by decide) (hts (.fieldLink RX9 114 "CryOrderModel" "tries" "I") (by decide +kernel)) (fun _ h9 => h9) rfl (by decide +kernel) rfl rfl (Nat.le_of_ble_eq_true rfl) dX9_set_75 (fun H_10 locs hP hD hS => ?_)
                have hP : va_P D vwCl [oC h0 9 [.int now, .int na, .int nsi, .int nti, .int vc, .int vn, .int p1, .ref b1, .ref b2, .ref b3, .ref b4, .ref b5, .ref b6, .ref b7, .ref b8, .ref b9, .ref b10, .ref b11, .ref b12, .ref b13, .ref b14, .ref b15, .ref b16, .ref b17, .ref b18, .int ct, .int cs, .int co, .ref b19, .ref b20, .ref b21, .int nca, .ref b22, .ref b23, .int ntm, .ref b24, .ref b25]] H_10 := hP
                have hD : va_D A [oC h0 9 [.int now, .int na, .int nsi, .int nti, .int vc, .int vn, .int p1, .ref b1, .ref b2, .ref b3, .ref b4, .ref b5, .ref b6, .ref b7, .ref b8, .ref b9, .ref b10, .ref b11, .ref b12, .ref b13, .ref b14, .ref b15, .ref b16, .ref b17, .ref b18, .int ct, .int cs, .int co, .ref b19, .ref b20, .ref b21, .int nca, .ref b22, .ref b23, .int ntm, .ref b24, .ref b25]] := hD
                refine lv_iconst (v := 1) hx hb dX9_set_78 (by decide) ?_
                refine W.widen (k := 0) (n := 0) (Nat.le_of_ble_eq_true rfl) (Nat.le_of_ble_eq_true rfl) ?_
                have hP9 := hP.sub (ws' := [oC h0 9 [.int now, .int na, .int nsi, .int nti, .int vc, .int vn, .int p1, .ref b1, .ref b2, .ref b3, .ref b4, .ref b5, .ref b6, .ref b7, .ref b8, .ref b9, .ref b10, .ref b11, .ref b12, .ref b13, .ref b14, .ref b15, .ref b16, .ref b17, .ref b18, .int ct, .int cs, .int co, .ref b19, .ref b20, .ref b21, .int nca, .ref b22, .ref b23, .int ntm, .ref b24, .ref b25]]) [0] rfl
                have hD9 := hD.sub (ws' := [oC h0 9 [.int now, .int na, .int nsi, .int nti, .int vc, .int vn, .int p1, .ref b1, .ref b2, .ref b3, .ref b4, .ref b5, .ref b6, .ref b7, .ref b8, .ref b9, .ref b10, .ref b11, .ref b12, .ref b13, .ref b14, .ref b15, .ref b16, .ref b17, .ref b18, .int ct, .int cs, .int co, .ref b19, .ref b20, .ref b21, .int nca, .ref b22, .ref b23, .int ntm, .ref b24, .ref b25]]) [0] (by decide) rfl
                have hK9 := hK.sub (tys' := []) [] rfl
                exact W.zret (v := 1) hx hb hr rfl (fun t ht hW => ⟨⟨1, (), rfl, (by unfold F_set; first | exact (if_pos (by omega)).symm | exact (if_neg (by omega)).symm), vc, vn, p1, ⟨by rw [ht]; exact hP9, va_K.moved hW.alike hK9, hD9⟩, by omega⟩, hS.F ht⟩) hS.2.2 dX9_set_79
              · refine lv_aload_n hx hb dX9_set_65 rfl (lv_at hl 0 rfl) ?_
                refine lv_iload_n hx hb dX9_set_66 rfl (lv_at hl 2 rfl) ?_
                refine va_put (D := D) (ci := 9) (v := .int p1) (ty := .int) (C := RX9) (T := TX9) (N := 37) hx hb hts hin_X9 tyX9 tyX9_ok nmX9 hown hK hP hD hS 0 rfl rfl 5 (by decide) (hts (.fieldLink RX9 13 "CryOrderModel" "needs" "I") (by decide +kernel)) (fun _ h9 => h9) rfl (by decide +kernel) rfl rfl (Nat.le_of_ble_eq_true rfl) dX9_set_67 (fun H_11 locs hP hD hS => ?_)
                have hP : va_P D vwCl [oC h0 9 [.int now, .int na, .int nsi, .int nti, .int vc, .int p1, .int vt, .ref b1, .ref b2, .ref b3, .ref b4, .ref b5, .ref b6, .ref b7, .ref b8, .ref b9, .ref b10, .ref b11, .ref b12, .ref b13, .ref b14, .ref b15, .ref b16, .ref b17, .ref b18, .int ct, .int cs, .int co, .ref b19, .ref b20, .ref b21, .int nca, .ref b22, .ref b23, .int ntm, .ref b24, .ref b25]] H_11 := hP
                have hD : va_D A [oC h0 9 [.int now, .int na, .int nsi, .int nti, .int vc, .int p1, .int vt, .ref b1, .ref b2, .ref b3, .ref b4, .ref b5, .ref b6, .ref b7, .ref b8, .ref b9, .ref b10, .ref b11, .ref b12, .ref b13, .ref b14, .ref b15, .ref b16, .ref b17, .ref b18, .int ct, .int cs, .int co, .ref b19, .ref b20, .ref b21, .int nca, .ref b22, .ref b23, .int ntm, .ref b24, .ref b25]] := hD
                refine lv_goto (tgt := 78) hx hb dX9_set_70 (by decide) ?_
                refine lv_iconst (v := 1) hx hb dX9_set_78 (by decide) ?_
                refine W.widen (k := 0) (n := 0) (Nat.le_of_ble_eq_true rfl) (Nat.le_of_ble_eq_true rfl) ?_
                have hP9 := hP.sub (ws' := [oC h0 9 [.int now, .int na, .int nsi, .int nti, .int vc, .int p1, .int vt, .ref b1, .ref b2, .ref b3, .ref b4, .ref b5, .ref b6, .ref b7, .ref b8, .ref b9, .ref b10, .ref b11, .ref b12, .ref b13, .ref b14, .ref b15, .ref b16, .ref b17, .ref b18, .int ct, .int cs, .int co, .ref b19, .ref b20, .ref b21, .int nca, .ref b22, .ref b23, .int ntm, .ref b24, .ref b25]]) [0] rfl
                have hD9 := hD.sub (ws' := [oC h0 9 [.int now, .int na, .int nsi, .int nti, .int vc, .int p1, .int vt, .ref b1, .ref b2, .ref b3, .ref b4, .ref b5, .ref b6, .ref b7, .ref b8, .ref b9, .ref b10, .ref b11, .ref b12, .ref b13, .ref b14, .ref b15, .ref b16, .ref b17, .ref b18, .int ct, .int cs, .int co, .ref b19, .ref b20, .ref b21, .int nca, .ref b22, .ref b23, .int ntm, .ref b24, .ref b25]]) [0] (by decide) rfl
                have hK9 := hK.sub (tys' := []) [] rfl
                exact W.zret (v := 1) hx hb hr rfl (fun t ht hW => ⟨⟨1, (), rfl, (by unfold F_set; first | exact (if_pos (by omega)).symm | exact (if_neg (by omega)).symm), vc, p1, vt, ⟨by rw [ht]; exact hP9, va_K.moved hW.alike hK9, hD9⟩, by omega⟩, hS.F ht⟩) hS.2.2 dX9_set_79
            · refine lv_aload_n hx hb dX9_set_52 rfl (lv_at hl 0 rfl) ?_
              refine lv_iload_n hx hb dX9_set_53 rfl (lv_at hl 2 rfl) ?_
              refine va_put (D := D) (ci := 9) (v := .int p1) (ty := .int) (C := RX9) (T := TX9) (N := 37) hx hb hts hin_X9 tyX9 tyX9_ok nmX9 hown hK hP hD hS 0 rfl rfl 4 (by decide) (hts (.fieldLink RX9 7 "CryOrderModel" "cap" "I") (by decide +kernel)) (fun _ h9 => h9) rfl (by decide +kernel) rfl rfl (Nat.le_of_ble_eq_true rfl) dX9_set_54 (fun H_12 locs hP hD hS => ?_)
              have hP : va_P D vwCl [oC h0 9 [.int now, .int na, .int nsi, .int nti, .int p1, .int vn, .int vt, .ref b1, .ref b2, .ref b3, .ref b4, .ref b5, .ref b6, .ref b7, .ref b8, .ref b9, .ref b10, .ref b11, .ref b12, .ref b13, .ref b14, .ref b15, .ref b16, .ref b17, .ref b18, .int ct, .int cs, .int co, .ref b19, .ref b20, .ref b21, .int nca, .ref b22, .ref b23, .int ntm, .ref b24, .ref b25]] H_12 := hP
              have hD : va_D A [oC h0 9 [.int now, .int na, .int nsi, .int nti, .int p1, .int vn, .int vt, .ref b1, .ref b2, .ref b3, .ref b4, .ref b5, .ref b6, .ref b7, .ref b8, .ref b9, .ref b10, .ref b11, .ref b12, .ref b13, .ref b14, .ref b15, .ref b16, .ref b17, .ref b18, .int ct, .int cs, .int co, .ref b19, .ref b20, .ref b21, .int nca, .ref b22, .ref b23, .int ntm, .ref b24, .ref b25]] := hD
              refine lv_goto (tgt := 78) hx hb dX9_set_57 (by decide) ?_
              refine lv_iconst (v := 1) hx hb dX9_set_78 (by decide) ?_
              refine W.widen (k := 0) (n := 0) (Nat.le_of_ble_eq_true rfl) (Nat.le_of_ble_eq_true rfl) ?_
              have hP9 := hP.sub (ws' := [oC h0 9 [.int now, .int na, .int nsi, .int nti, .int p1, .int vn, .int vt, .ref b1, .ref b2, .ref b3, .ref b4, .ref b5, .ref b6, .ref b7, .ref b8, .ref b9, .ref b10, .ref b11, .ref b12, .ref b13, .ref b14, .ref b15, .ref b16, .ref b17, .ref b18, .int ct, .int cs, .int co, .ref b19, .ref b20, .ref b21, .int nca, .ref b22, .ref b23, .int ntm, .ref b24, .ref b25]]) [0] rfl
              have hD9 := hD.sub (ws' := [oC h0 9 [.int now, .int na, .int nsi, .int nti, .int p1, .int vn, .int vt, .ref b1, .ref b2, .ref b3, .ref b4, .ref b5, .ref b6, .ref b7, .ref b8, .ref b9, .ref b10, .ref b11, .ref b12, .ref b13, .ref b14, .ref b15, .ref b16, .ref b17, .ref b18, .int ct, .int cs, .int co, .ref b19, .ref b20, .ref b21, .int nca, .ref b22, .ref b23, .int ntm, .ref b24, .ref b25]]) [0] (by decide) rfl
              have hK9 := hK.sub (tys' := []) [] rfl
              exact W.zret (v := 1) hx hb hr rfl (fun t ht hW => ⟨⟨1, (), rfl, (by unfold F_set; first | exact (if_pos (by omega)).symm | exact (if_neg (by omega)).symm), p1, vn, vt, ⟨by rw [ht]; exact hP9, va_K.moved hW.alike hK9, hD9⟩, by omega⟩, hS.F ht⟩) hS.2.2 dX9_set_79
          · have h_7 : (p1).toInt < 1 ∨ 5 < (p1).toInt := h_7
            refine lv_if_ne (tgt := 48) hx hb dX9_set_43 (by decide) (fun c_ => absurd c_ (by decide)) (fun _ => ?_)
            refine lv_iconst (v := 0) hx hb dX9_set_46 (by decide) ?_
            refine W.widen (k := 0) (n := 0) (Nat.le_of_ble_eq_true rfl) (Nat.le_of_ble_eq_true rfl) ?_
            have hP9 := hP.sub (ws' := [oC h0 9 [.int now, .int na, .int nsi, .int nti, .int vc, .int vn, .int vt, .ref b1, .ref b2, .ref b3, .ref b4, .ref b5, .ref b6, .ref b7, .ref b8, .ref b9, .ref b10, .ref b11, .ref b12, .ref b13, .ref b14, .ref b15, .ref b16, .ref b17, .ref b18, .int ct, .int cs, .int co, .ref b19, .ref b20, .ref b21, .int nca, .ref b22, .ref b23, .int ntm, .ref b24, .ref b25]]) [0] rfl
            have hD9 := hD.sub (ws' := [oC h0 9 [.int now, .int na, .int nsi, .int nti, .int vc, .int vn, .int vt, .ref b1, .ref b2, .ref b3, .ref b4, .ref b5, .ref b6, .ref b7, .ref b8, .ref b9, .ref b10, .ref b11, .ref b12, .ref b13, .ref b14, .ref b15, .ref b16, .ref b17, .ref b18, .int ct, .int cs, .int co, .ref b19, .ref b20, .ref b21, .int nca, .ref b22, .ref b23, .int ntm, .ref b24, .ref b25]]) [0] (by decide) rfl
            have hK9 := hK.sub (tys' := []) [] rfl
            exact W.zret (v := 0) hx hb hr rfl (fun t ht hW => ⟨⟨0, (), rfl, (by unfold F_set; first | exact (if_pos (by omega)).symm | exact (if_neg (by omega)).symm), vc, vn, vt, ⟨by rw [ht]; exact hP9, va_K.moved hW.alike hK9, hD9⟩, by omega⟩, hS.F ht⟩) hS.2.2 dX9_set_47
        · refine lv_bipush (v := 20) hx hb dX9_set_34 (by decide) ?_
          refine lv_goto (tgt := 40) hx hb dX9_set_36 (by decide) ?_
          refine vp_callSi (zrS (As := [.int p1, .int 1, .int 20]) (rest := []) (wc := []) ⟨hx, hb, hml, hown, hts⟩ hN hK hP hD (m_isIn l D p1 1 20 ) (va_cwS 3 hts gX9_set_X9_isIn rfl rfl rfl (by decide +kernel) ⟨(Nat.le_of_ble_eq_true rfl), (Nat.le_of_ble_eq_true rfl)⟩) [] [] rfl rfl (by decide) rfl hl.1 rfl (Nat.le_of_ble_eq_true rfl) dX9_set_40 ⟨(Nat.le_of_ble_eq_true rfl), (Nat.le_of_ble_eq_true rfl)⟩) (fun r_13 h_14 => ?_)
          rcases h_14 with ⟨h_14, rfl⟩ | ⟨h_14, rfl⟩
          · have h_14 : 1 ≤ (p1).toInt ∧ (p1).toInt ≤ 20 := h_14
            refine lv_if_ne (tgt := 48) hx hb dX9_set_43 (by decide) (fun _ => ?_) (fun c_ => absurd c_ (by decide))
            refine lv_iload_n hx hb dX9_set_48 rfl (lv_at hl 1 rfl) ?_
            refine bz_ne (zx := (p0).toInt) (tgt := 60) hx hb dX9_set_49 (by decide) rfl (fun c_15 => ?_) (fun c_15 => ?_)
            · refine lv_iload_n hx hb dX9_set_60 rfl (lv_at hl 1 rfl) ?_
              refine lv_iconst (v := 1) hx hb dX9_set_61 (by decide) ?_
              refine bi_ne (zx := (p0).toInt) (zy := 1) (tgt := 73) hx hb dX9_set_62 (by decide) rfl (by decide) (fun c_16 => ?_) (fun c_16 => ?_)
              · refine lv_aload_n hx hb dX9_set_73 rfl (lv_at hl 0 rfl) ?_
                refine lv_iload_n hx hb dX9_set_74 rfl (lv_at hl 2 rfl) ?_
                refine va_put (D := D) (ci := 9) (v := .int p1) (ty := .int) (C := RX9) (T := TX9) (N := 37) hx hb hts hin_X9 tyX9 tyX9_ok nmX9 hown hK hP hD hS 0 rfl rfl 6 (by decide) (hts (.fieldLink RX9 114 "CryOrderModel" "tries" "I") (by decide +kernel)) (fun _ h9 => h9) rfl (by decide +kernel) rfl rfl (Nat.le_of_ble_eq_true rfl) dX9_set_75 (fun H_17 locs hP hD hS => ?_)
                have hP : va_P D vwCl [oC h0 9 [.int now, .int na, .int nsi, .int nti, .int vc, .int vn, .int p1, .ref b1, .ref b2, .ref b3, .ref b4, .ref b5, .ref b6, .ref b7, .ref b8, .ref b9, .ref b10, .ref b11, .ref b12, .ref b13, .ref b14, .ref b15, .ref b16, .ref b17, .ref b18, .int ct, .int cs, .int co, .ref b19, .ref b20, .ref b21, .int nca, .ref b22, .ref b23, .int ntm, .ref b24, .ref b25]] H_17 := hP
                have hD : va_D A [oC h0 9 [.int now, .int na, .int nsi, .int nti, .int vc, .int vn, .int p1, .ref b1, .ref b2, .ref b3, .ref b4, .ref b5, .ref b6, .ref b7, .ref b8, .ref b9, .ref b10, .ref b11, .ref b12, .ref b13, .ref b14, .ref b15, .ref b16, .ref b17, .ref b18, .int ct, .int cs, .int co, .ref b19, .ref b20, .ref b21, .int nca, .ref b22, .ref b23, .int ntm, .ref b24, .ref b25]] := hD
                refine lv_iconst (v := 1) hx hb dX9_set_78 (by decide) ?_
                refine W.widen (k := 0) (n := 0) (Nat.le_of_ble_eq_true rfl) (Nat.le_of_ble_eq_true rfl) ?_
                have hP9 := hP.sub (ws' := [oC h0 9 [.int now, .int na, .int nsi, .int nti, .int vc, .int vn, .int p1, .ref b1, .ref b2, .ref b3, .ref b4, .ref b5, .ref b6, .ref b7, .ref b8, .ref b9, .ref b10, .ref b11, .ref b12, .ref b13, .ref b14, .ref b15, .ref b16, .ref b17, .ref b18, .int ct, .int cs, .int co, .ref b19, .ref b20, .ref b21, .int nca, .ref b22, .ref b23, .int ntm, .ref b24, .ref b25]]) [0] rfl
                have hD9 := hD.sub (ws' := [oC h0 9 [.int now, .int na, .int nsi, .int nti, .int vc, .int vn, .int p1, .ref b1, .ref b2, .ref b3, .ref b4, .ref b5, .ref b6, .ref b7, .ref b8, .ref b9, .ref b10, .ref b11, .ref b12, .ref b13, .ref b14, .ref b15, .ref b16, .ref b17, .ref b18, .int ct, .int cs, .int co, .ref b19, .ref b20, .ref b21, .int nca, .ref b22, .ref b23, .int ntm, .ref b24, .ref b25]]) [0] (by decide) rfl
                have hK9 := hK.sub (tys' := []) [] rfl
                exact W.zret (v := 1) hx hb hr rfl (fun t ht hW => ⟨⟨1, (), rfl, (by unfold F_set; first | exact (if_pos (by omega)).symm | exact (if_neg (by omega)).symm), vc, vn, p1, ⟨by rw [ht]; exact hP9, va_K.moved hW.alike hK9, hD9⟩, by omega⟩, hS.F ht⟩) hS.2.2 dX9_set_79
              · refine lv_aload_n hx hb dX9_set_65 rfl (lv_at hl 0 rfl) ?_
                refine lv_iload_n hx hb dX9_set_66 rfl (lv_at hl 2 rfl) ?_
                refine va_put (D := D) (ci := 9) (v := .int p1) (ty := .int) (C := RX9) (T := TX9) (N := 37) hx hb hts hin_X9 tyX9 tyX9_ok nmX9 hown hK hP hD hS 0 rfl rfl 5 (by decide) (hts (.fieldLink RX9 13 "CryOrderModel" "needs" "I") (by decide +kernel)) (fun _ h9 => h9) rfl (by decide +kernel) rfl rfl (Nat.le_of_ble_eq_true rfl) dX9_set_67 (fun H_18 locs hP hD hS => ?_)
                have hP : va_P D vwCl [oC h0 9 [.int now, .int na, .int nsi, .int nti, .int vc, .int p1, .int vt, .ref b1, .ref b2, .ref b3, .ref b4, .ref b5, .ref b6, .ref b7, .ref b8, .ref b9, .ref b10, .ref b11, .ref b12, .ref b13, .ref b14, .ref b15, .ref b16, .ref b17, .ref b18, .int ct, .int cs, .int co, .ref b19, .ref b20, .ref b21, .int nca, .ref b22, .ref b23, .int ntm, .ref b24, .ref b25]] H_18 := hP
                have hD : va_D A [oC h0 9 [.int now, .int na, .int nsi, .int nti, .int vc, .int p1, .int vt, .ref b1, .ref b2, .ref b3, .ref b4, .ref b5, .ref b6, .ref b7, .ref b8, .ref b9, .ref b10, .ref b11, .ref b12, .ref b13, .ref b14, .ref b15, .ref b16, .ref b17, .ref b18, .int ct, .int cs, .int co, .ref b19, .ref b20, .ref b21, .int nca, .ref b22, .ref b23, .int ntm, .ref b24, .ref b25]] := hD
                refine lv_goto (tgt := 78) hx hb dX9_set_70 (by decide) ?_
                refine lv_iconst (v := 1) hx hb dX9_set_78 (by decide) ?_
                refine W.widen (k := 0) (n := 0) (Nat.le_of_ble_eq_true rfl) (Nat.le_of_ble_eq_true rfl) ?_
                have hP9 := hP.sub (ws' := [oC h0 9 [.int now, .int na, .int nsi, .int nti, .int vc, .int p1, .int vt, .ref b1, .ref b2, .ref b3, .ref b4, .ref b5, .ref b6, .ref b7, .ref b8, .ref b9, .ref b10, .ref b11, .ref b12, .ref b13, .ref b14, .ref b15, .ref b16, .ref b17, .ref b18, .int ct, .int cs, .int co, .ref b19, .ref b20, .ref b21, .int nca, .ref b22, .ref b23, .int ntm, .ref b24, .ref b25]]) [0] rfl
                have hD9 := hD.sub (ws' := [oC h0 9 [.int now, .int na, .int nsi, .int nti, .int vc, .int p1, .int vt, .ref b1, .ref b2, .ref b3, .ref b4, .ref b5, .ref b6, .ref b7, .ref b8, .ref b9, .ref b10, .ref b11, .ref b12, .ref b13, .ref b14, .ref b15, .ref b16, .ref b17, .ref b18, .int ct, .int cs, .int co, .ref b19, .ref b20, .ref b21, .int nca, .ref b22, .ref b23, .int ntm, .ref b24, .ref b25]]) [0] (by decide) rfl
                have hK9 := hK.sub (tys' := []) [] rfl
                exact W.zret (v := 1) hx hb hr rfl (fun t ht hW => ⟨⟨1, (), rfl, (by unfold F_set; first | exact (if_pos (by omega)).symm | exact (if_neg (by omega)).symm), vc, p1, vt, ⟨by rw [ht]; exact hP9, va_K.moved hW.alike hK9, hD9⟩, by omega⟩, hS.F ht⟩) hS.2.2 dX9_set_79
            · refine lv_aload_n hx hb dX9_set_52 rfl (lv_at hl 0 rfl) ?_
              refine lv_iload_n hx hb dX9_set_53 rfl (lv_at hl 2 rfl) ?_
              refine va_put (D := D) (ci := 9) (v := .int p1) (ty := .int) (C := RX9) (T := TX9) (N := 37) hx hb hts hin_X9 tyX9 tyX9_ok nmX9 hown hK hP hD hS 0 rfl rfl 4 (by decide) (hts (.fieldLink RX9 7 "CryOrderModel" "cap" "I") (by decide +kernel)) (fun _ h9 => h9) rfl (by decide +kernel) rfl rfl (Nat.le_of_ble_eq_true rfl) dX9_set_54 (fun H_19 locs hP hD hS => ?_)
              have hP : va_P D vwCl [oC h0 9 [.int now, .int na, .int nsi, .int nti, .int p1, .int vn, .int vt, .ref b1, .ref b2, .ref b3, .ref b4, .ref b5, .ref b6, .ref b7, .ref b8, .ref b9, .ref b10, .ref b11, .ref b12, .ref b13, .ref b14, .ref b15, .ref b16, .ref b17, .ref b18, .int ct, .int cs, .int co, .ref b19, .ref b20, .ref b21, .int nca, .ref b22, .ref b23, .int ntm, .ref b24, .ref b25]] H_19 := hP
              have hD : va_D A [oC h0 9 [.int now, .int na, .int nsi, .int nti, .int p1, .int vn, .int vt, .ref b1, .ref b2, .ref b3, .ref b4, .ref b5, .ref b6, .ref b7, .ref b8, .ref b9, .ref b10, .ref b11, .ref b12, .ref b13, .ref b14, .ref b15, .ref b16, .ref b17, .ref b18, .int ct, .int cs, .int co, .ref b19, .ref b20, .ref b21, .int nca, .ref b22, .ref b23, .int ntm, .ref b24, .ref b25]] := hD
              refine lv_goto (tgt := 78) hx hb dX9_set_57 (by decide) ?_
              refine lv_iconst (v := 1) hx hb dX9_set_78 (by decide) ?_
              refine W.widen (k := 0) (n := 0) (Nat.le_of_ble_eq_true rfl) (Nat.le_of_ble_eq_true rfl) ?_
              have hP9 := hP.sub (ws' := [oC h0 9 [.int now, .int na, .int nsi, .int nti, .int p1, .int vn, .int vt, .ref b1, .ref b2, .ref b3, .ref b4, .ref b5, .ref b6, .ref b7, .ref b8, .ref b9, .ref b10, .ref b11, .ref b12, .ref b13, .ref b14, .ref b15, .ref b16, .ref b17, .ref b18, .int ct, .int cs, .int co, .ref b19, .ref b20, .ref b21, .int nca, .ref b22, .ref b23, .int ntm, .ref b24, .ref b25]]) [0] rfl
              have hD9 := hD.sub (ws' := [oC h0 9 [.int now, .int na, .int nsi, .int nti, .int p1, .int vn, .int vt, .ref b1, .ref b2, .ref b3, .ref b4, .ref b5, .ref b6, .ref b7, .ref b8, .ref b9, .ref b10, .ref b11, .ref b12, .ref b13, .ref b14, .ref b15, .ref b16, .ref b17, .ref b18, .int ct, .int cs, .int co, .ref b19, .ref b20, .ref b21, .int nca, .ref b22, .ref b23, .int ntm, .ref b24, .ref b25]]) [0] (by decide) rfl
              have hK9 := hK.sub (tys' := []) [] rfl
              exact W.zret (v := 1) hx hb hr rfl (fun t ht hW => ⟨⟨1, (), rfl, (by unfold F_set; first | exact (if_pos (by omega)).symm | exact (if_neg (by omega)).symm), p1, vn, vt, ⟨by rw [ht]; exact hP9, va_K.moved hW.alike hK9, hD9⟩, by omega⟩, hS.F ht⟩) hS.2.2 dX9_set_79
          · have h_14 : (p1).toInt < 1 ∨ 20 < (p1).toInt := h_14
            refine lv_if_ne (tgt := 48) hx hb dX9_set_43 (by decide) (fun c_ => absurd c_ (by decide)) (fun _ => ?_)
            refine lv_iconst (v := 0) hx hb dX9_set_46 (by decide) ?_
            refine W.widen (k := 0) (n := 0) (Nat.le_of_ble_eq_true rfl) (Nat.le_of_ble_eq_true rfl) ?_
            have hP9 := hP.sub (ws' := [oC h0 9 [.int now, .int na, .int nsi, .int nti, .int vc, .int vn, .int vt, .ref b1, .ref b2, .ref b3, .ref b4, .ref b5, .ref b6, .ref b7, .ref b8, .ref b9, .ref b10, .ref b11, .ref b12, .ref b13, .ref b14, .ref b15, .ref b16, .ref b17, .ref b18, .int ct, .int cs, .int co, .ref b19, .ref b20, .ref b21, .int nca, .ref b22, .ref b23, .int ntm, .ref b24, .ref b25]]) [0] rfl
            have hD9 := hD.sub (ws' := [oC h0 9 [.int now, .int na, .int nsi, .int nti, .int vc, .int vn, .int vt, .ref b1, .ref b2, .ref b3, .ref b4, .ref b5, .ref b6, .ref b7, .ref b8, .ref b9, .ref b10, .ref b11, .ref b12, .ref b13, .ref b14, .ref b15, .ref b16, .ref b17, .ref b18, .int ct, .int cs, .int co, .ref b19, .ref b20, .ref b21, .int nca, .ref b22, .ref b23, .int ntm, .ref b24, .ref b25]]) [0] (by decide) rfl
            have hK9 := hK.sub (tys' := []) [] rfl
            exact W.zret (v := 0) hx hb hr rfl (fun t ht hW => ⟨⟨0, (), rfl, (by unfold F_set; first | exact (if_pos (by omega)).symm | exact (if_neg (by omega)).symm), vc, vn, vt, ⟨by rw [ht]; exact hP9, va_K.moved hW.alike hK9, hD9⟩, by omega⟩, hS.F ht⟩) hS.2.2 dX9_set_47
      · refine lv_bipush (v := 50) hx hb dX9_set_24 (by decide) ?_
        refine lv_goto (tgt := 40) hx hb dX9_set_26 (by decide) ?_
        refine vp_callSi (zrS (As := [.int p1, .int 1, .int 50]) (rest := []) (wc := []) ⟨hx, hb, hml, hown, hts⟩ hN hK hP hD (m_isIn l D p1 1 50 ) (va_cwS 3 hts gX9_set_X9_isIn rfl rfl rfl (by decide +kernel) ⟨(Nat.le_of_ble_eq_true rfl), (Nat.le_of_ble_eq_true rfl)⟩) [] [] rfl rfl (by decide) rfl hl.1 rfl (Nat.le_of_ble_eq_true rfl) dX9_set_40 ⟨(Nat.le_of_ble_eq_true rfl), (Nat.le_of_ble_eq_true rfl)⟩) (fun r_20 h_21 => ?_)
        rcases h_21 with ⟨h_21, rfl⟩ | ⟨h_21, rfl⟩
        · have h_21 : 1 ≤ (p1).toInt ∧ (p1).toInt ≤ 50 := h_21
          refine lv_if_ne (tgt := 48) hx hb dX9_set_43 (by decide) (fun _ => ?_) (fun c_ => absurd c_ (by decide))
          refine lv_iload_n hx hb dX9_set_48 rfl (lv_at hl 1 rfl) ?_
          refine bz_ne (zx := (p0).toInt) (tgt := 60) hx hb dX9_set_49 (by decide) rfl (fun c_22 => ?_) (fun c_22 => ?_)
          · refine lv_iload_n hx hb dX9_set_60 rfl (lv_at hl 1 rfl) ?_
            refine lv_iconst (v := 1) hx hb dX9_set_61 (by decide) ?_
            refine bi_ne (zx := (p0).toInt) (zy := 1) (tgt := 73) hx hb dX9_set_62 (by decide) rfl (by decide) (fun c_23 => ?_) (fun c_23 => ?_)
            · refine lv_aload_n hx hb dX9_set_73 rfl (lv_at hl 0 rfl) ?_
              refine lv_iload_n hx hb dX9_set_74 rfl (lv_at hl 2 rfl) ?_
              refine va_put (D := D) (ci := 9) (v := .int p1) (ty := .int) (C := RX9) (T := TX9) (N := 37) hx hb hts hin_X9 tyX9 tyX9_ok nmX9 hown hK hP hD hS 0 rfl rfl 6 (by decide) (hts (.fieldLink RX9 114 "CryOrderModel" "tries" "I") (by decide +kernel)) (fun _ h9 => h9) rfl (by decide +kernel) rfl rfl (Nat.le_of_ble_eq_true rfl) dX9_set_75 (fun H_24 locs hP hD hS => ?_)
              have hP : va_P D vwCl [oC h0 9 [.int now, .int na, .int nsi, .int nti, .int vc, .int vn, .int p1, .ref b1, .ref b2, .ref b3, .ref b4, .ref b5, .ref b6, .ref b7, .ref b8, .ref b9, .ref b10, .ref b11, .ref b12, .ref b13, .ref b14, .ref b15, .ref b16, .ref b17, .ref b18, .int ct, .int cs, .int co, .ref b19, .ref b20, .ref b21, .int nca, .ref b22, .ref b23, .int ntm, .ref b24, .ref b25]] H_24 := hP
              have hD : va_D A [oC h0 9 [.int now, .int na, .int nsi, .int nti, .int vc, .int vn, .int p1, .ref b1, .ref b2, .ref b3, .ref b4, .ref b5, .ref b6, .ref b7, .ref b8, .ref b9, .ref b10, .ref b11, .ref b12, .ref b13, .ref b14, .ref b15, .ref b16, .ref b17, .ref b18, .int ct, .int cs, .int co, .ref b19, .ref b20, .ref b21, .int nca, .ref b22, .ref b23, .int ntm, .ref b24, .ref b25]] := hD
              refine lv_iconst (v := 1) hx hb dX9_set_78 (by decide) ?_
              refine W.widen (k := 0) (n := 0) (Nat.le_of_ble_eq_true rfl) (Nat.le_of_ble_eq_true rfl) ?_
              have hP9 := hP.sub (ws' := [oC h0 9 [.int now, .int na, .int nsi, .int nti, .int vc, .int vn, .int p1, .ref b1, .ref b2, .ref b3, .ref b4, .ref b5, .ref b6, .ref b7, .ref b8, .ref b9, .ref b10, .ref b11, .ref b12, .ref b13, .ref b14, .ref b15, .ref b16, .ref b17, .ref b18, .int ct, .int cs, .int co, .ref b19, .ref b20, .ref b21, .int nca, .ref b22, .ref b23, .int ntm, .ref b24, .ref b25]]) [0] rfl
              have hD9 := hD.sub (ws' := [oC h0 9 [.int now, .int na, .int nsi, .int nti, .int vc, .int vn, .int p1, .ref b1, .ref b2, .ref b3, .ref b4, .ref b5, .ref b6, .ref b7, .ref b8, .ref b9, .ref b10, .ref b11, .ref b12, .ref b13, .ref b14, .ref b15, .ref b16, .ref b17, .ref b18, .int ct, .int cs, .int co, .ref b19, .ref b20, .ref b21, .int nca, .ref b22, .ref b23, .int ntm, .ref b24, .ref b25]]) [0] (by decide) rfl
              have hK9 := hK.sub (tys' := []) [] rfl
              exact W.zret (v := 1) hx hb hr rfl (fun t ht hW => ⟨⟨1, (), rfl, (by unfold F_set; first | exact (if_pos (by omega)).symm | exact (if_neg (by omega)).symm), vc, vn, p1, ⟨by rw [ht]; exact hP9, va_K.moved hW.alike hK9, hD9⟩, by omega⟩, hS.F ht⟩) hS.2.2 dX9_set_79
            · refine lv_aload_n hx hb dX9_set_65 rfl (lv_at hl 0 rfl) ?_
              refine lv_iload_n hx hb dX9_set_66 rfl (lv_at hl 2 rfl) ?_
              refine va_put (D := D) (ci := 9) (v := .int p1) (ty := .int) (C := RX9) (T := TX9) (N := 37) hx hb hts hin_X9 tyX9 tyX9_ok nmX9 hown hK hP hD hS 0 rfl rfl 5 (by decide) (hts (.fieldLink RX9 13 "CryOrderModel" "needs" "I") (by decide +kernel)) (fun _ h9 => h9) rfl (by decide +kernel) rfl rfl (Nat.le_of_ble_eq_true rfl) dX9_set_67 (fun H_25 locs hP hD hS => ?_)
              have hP : va_P D vwCl [oC h0 9 [.int now, .int na, .int nsi, .int nti, .int vc, .int p1, .int vt, .ref b1, .ref b2, .ref b3, .ref b4, .ref b5, .ref b6, .ref b7, .ref b8, .ref b9, .ref b10, .ref b11, .ref b12, .ref b13, .ref b14, .ref b15, .ref b16, .ref b17, .ref b18, .int ct, .int cs, .int co, .ref b19, .ref b20, .ref b21, .int nca, .ref b22, .ref b23, .int ntm, .ref b24, .ref b25]] H_25 := hP
              have hD : va_D A [oC h0 9 [.int now, .int na, .int nsi, .int nti, .int vc, .int p1, .int vt, .ref b1, .ref b2, .ref b3, .ref b4, .ref b5, .ref b6, .ref b7, .ref b8, .ref b9, .ref b10, .ref b11, .ref b12, .ref b13, .ref b14, .ref b15, .ref b16, .ref b17, .ref b18, .int ct, .int cs, .int co, .ref b19, .ref b20, .ref b21, .int nca, .ref b22, .ref b23, .int ntm, .ref b24, .ref b25]] := hD
              refine lv_goto (tgt := 78) hx hb dX9_set_70 (by decide) ?_
              refine lv_iconst (v := 1) hx hb dX9_set_78 (by decide) ?_
              refine W.widen (k := 0) (n := 0) (Nat.le_of_ble_eq_true rfl) (Nat.le_of_ble_eq_true rfl) ?_
              have hP9 := hP.sub (ws' := [oC h0 9 [.int now, .int na, .int nsi, .int nti, .int vc, .int p1, .int vt, .ref b1, .ref b2, .ref b3, .ref b4, .ref b5, .ref b6, .ref b7, .ref b8, .ref b9, .ref b10, .ref b11, .ref b12, .ref b13, .ref b14, .ref b15, .ref b16, .ref b17, .ref b18, .int ct, .int cs, .int co, .ref b19, .ref b20, .ref b21, .int nca, .ref b22, .ref b23, .int ntm, .ref b24, .ref b25]]) [0] rfl
              have hD9 := hD.sub (ws' := [oC h0 9 [.int now, .int na, .int nsi, .int nti, .int vc, .int p1, .int vt, .ref b1, .ref b2, .ref b3, .ref b4, .ref b5, .ref b6, .ref b7, .ref b8, .ref b9, .ref b10, .ref b11, .ref b12, .ref b13, .ref b14, .ref b15, .ref b16, .ref b17, .ref b18, .int ct, .int cs, .int co, .ref b19, .ref b20, .ref b21, .int nca, .ref b22, .ref b23, .int ntm, .ref b24, .ref b25]]) [0] (by decide) rfl
              have hK9 := hK.sub (tys' := []) [] rfl
              exact W.zret (v := 1) hx hb hr rfl (fun t ht hW => ⟨⟨1, (), rfl, (by unfold F_set; first | exact (if_pos (by omega)).symm | exact (if_neg (by omega)).symm), vc, p1, vt, ⟨by rw [ht]; exact hP9, va_K.moved hW.alike hK9, hD9⟩, by omega⟩, hS.F ht⟩) hS.2.2 dX9_set_79
          · refine lv_aload_n hx hb dX9_set_52 rfl (lv_at hl 0 rfl) ?_
            refine lv_iload_n hx hb dX9_set_53 rfl (lv_at hl 2 rfl) ?_
            refine va_put (D := D) (ci := 9) (v := .int p1) (ty := .int) (C := RX9) (T := TX9) (N := 37) hx hb hts hin_X9 tyX9 tyX9_ok nmX9 hown hK hP hD hS 0 rfl rfl 4 (by decide) (hts (.fieldLink RX9 7 "CryOrderModel" "cap" "I") (by decide +kernel)) (fun _ h9 => h9) rfl (by decide +kernel) rfl rfl (Nat.le_of_ble_eq_true rfl) dX9_set_54 (fun H_26 locs hP hD hS => ?_)
            have hP : va_P D vwCl [oC h0 9 [.int now, .int na, .int nsi, .int nti, .int p1, .int vn, .int vt, .ref b1, .ref b2, .ref b3, .ref b4, .ref b5, .ref b6, .ref b7, .ref b8, .ref b9, .ref b10, .ref b11, .ref b12, .ref b13, .ref b14, .ref b15, .ref b16, .ref b17, .ref b18, .int ct, .int cs, .int co, .ref b19, .ref b20, .ref b21, .int nca, .ref b22, .ref b23, .int ntm, .ref b24, .ref b25]] H_26 := hP
            have hD : va_D A [oC h0 9 [.int now, .int na, .int nsi, .int nti, .int p1, .int vn, .int vt, .ref b1, .ref b2, .ref b3, .ref b4, .ref b5, .ref b6, .ref b7, .ref b8, .ref b9, .ref b10, .ref b11, .ref b12, .ref b13, .ref b14, .ref b15, .ref b16, .ref b17, .ref b18, .int ct, .int cs, .int co, .ref b19, .ref b20, .ref b21, .int nca, .ref b22, .ref b23, .int ntm, .ref b24, .ref b25]] := hD
            refine lv_goto (tgt := 78) hx hb dX9_set_57 (by decide) ?_
            refine lv_iconst (v := 1) hx hb dX9_set_78 (by decide) ?_
            refine W.widen (k := 0) (n := 0) (Nat.le_of_ble_eq_true rfl) (Nat.le_of_ble_eq_true rfl) ?_
            have hP9 := hP.sub (ws' := [oC h0 9 [.int now, .int na, .int nsi, .int nti, .int p1, .int vn, .int vt, .ref b1, .ref b2, .ref b3, .ref b4, .ref b5, .ref b6, .ref b7, .ref b8, .ref b9, .ref b10, .ref b11, .ref b12, .ref b13, .ref b14, .ref b15, .ref b16, .ref b17, .ref b18, .int ct, .int cs, .int co, .ref b19, .ref b20, .ref b21, .int nca, .ref b22, .ref b23, .int ntm, .ref b24, .ref b25]]) [0] rfl
            have hD9 := hD.sub (ws' := [oC h0 9 [.int now, .int na, .int nsi, .int nti, .int p1, .int vn, .int vt, .ref b1, .ref b2, .ref b3, .ref b4, .ref b5, .ref b6, .ref b7, .ref b8, .ref b9, .ref b10, .ref b11, .ref b12, .ref b13, .ref b14, .ref b15, .ref b16, .ref b17, .ref b18, .int ct, .int cs, .int co, .ref b19, .ref b20, .ref b21, .int nca, .ref b22, .ref b23, .int ntm, .ref b24, .ref b25]]) [0] (by decide) rfl
            have hK9 := hK.sub (tys' := []) [] rfl
            exact W.zret (v := 1) hx hb hr rfl (fun t ht hW => ⟨⟨1, (), rfl, (by unfold F_set; first | exact (if_pos (by omega)).symm | exact (if_neg (by omega)).symm), p1, vn, vt, ⟨by rw [ht]; exact hP9, va_K.moved hW.alike hK9, hD9⟩, by omega⟩, hS.F ht⟩) hS.2.2 dX9_set_79
        · have h_21 : (p1).toInt < 1 ∨ 50 < (p1).toInt := h_21
          refine lv_if_ne (tgt := 48) hx hb dX9_set_43 (by decide) (fun c_ => absurd c_ (by decide)) (fun _ => ?_)
          refine lv_iconst (v := 0) hx hb dX9_set_46 (by decide) ?_
          refine W.widen (k := 0) (n := 0) (Nat.le_of_ble_eq_true rfl) (Nat.le_of_ble_eq_true rfl) ?_
          have hP9 := hP.sub (ws' := [oC h0 9 [.int now, .int na, .int nsi, .int nti, .int vc, .int vn, .int vt, .ref b1, .ref b2, .ref b3, .ref b4, .ref b5, .ref b6, .ref b7, .ref b8, .ref b9, .ref b10, .ref b11, .ref b12, .ref b13, .ref b14, .ref b15, .ref b16, .ref b17, .ref b18, .int ct, .int cs, .int co, .ref b19, .ref b20, .ref b21, .int nca, .ref b22, .ref b23, .int ntm, .ref b24, .ref b25]]) [0] rfl
          have hD9 := hD.sub (ws' := [oC h0 9 [.int now, .int na, .int nsi, .int nti, .int vc, .int vn, .int vt, .ref b1, .ref b2, .ref b3, .ref b4, .ref b5, .ref b6, .ref b7, .ref b8, .ref b9, .ref b10, .ref b11, .ref b12, .ref b13, .ref b14, .ref b15, .ref b16, .ref b17, .ref b18, .int ct, .int cs, .int co, .ref b19, .ref b20, .ref b21, .int nca, .ref b22, .ref b23, .int ntm, .ref b24, .ref b25]]) [0] (by decide) rfl
          have hK9 := hK.sub (tys' := []) [] rfl
          exact W.zret (v := 0) hx hb hr rfl (fun t ht hW => ⟨⟨0, (), rfl, (by unfold F_set; first | exact (if_pos (by omega)).symm | exact (if_neg (by omega)).symm), vc, vn, vt, ⟨by rw [ht]; exact hP9, va_K.moved hW.alike hK9, hD9⟩, by omega⟩, hS.F ht⟩) hS.2.2 dX9_set_47
    · refine lv_iconst (v := 0) hx hb dX9_set_15 (by decide) ?_
      refine lv_goto (tgt := 20) hx hb dX9_set_16 (by decide) ?_
      refine lv_iload_n hx hb dX9_set_20 rfl (lv_at hl 1 rfl) ?_
      refine bz_ne (zx := (p0).toInt) (tgt := 29) hx hb dX9_set_21 (by decide) rfl (fun c_27 => ?_) (fun c_27 => ?_)
      · refine lv_iload_n hx hb dX9_set_29 rfl (lv_at hl 1 rfl) ?_
        refine lv_iconst (v := 1) hx hb dX9_set_30 (by decide) ?_
        refine bi_ne (zx := (p0).toInt) (zy := 1) (tgt := 39) hx hb dX9_set_31 (by decide) rfl (by decide) (fun c_28 => ?_) (fun c_28 => ?_)
        · refine lv_iconst (v := 5) hx hb dX9_set_39 (by decide) ?_
          refine vp_callSi (zrS (As := [.int p1, .int 0, .int 5]) (rest := []) (wc := []) ⟨hx, hb, hml, hown, hts⟩ hN hK hP hD (m_isIn l D p1 0 5 ) (va_cwS 3 hts gX9_set_X9_isIn rfl rfl rfl (by decide +kernel) ⟨(Nat.le_of_ble_eq_true rfl), (Nat.le_of_ble_eq_true rfl)⟩) [] [] rfl rfl (by decide) rfl hl.1 rfl (Nat.le_of_ble_eq_true rfl) dX9_set_40 ⟨(Nat.le_of_ble_eq_true rfl), (Nat.le_of_ble_eq_true rfl)⟩) (fun r_29 h_30 => ?_)
          rcases h_30 with ⟨h_30, rfl⟩ | ⟨h_30, rfl⟩
          · have h_30 : 0 ≤ (p1).toInt ∧ (p1).toInt ≤ 5 := h_30
            refine lv_if_ne (tgt := 48) hx hb dX9_set_43 (by decide) (fun _ => ?_) (fun c_ => absurd c_ (by decide))
            refine lv_iload_n hx hb dX9_set_48 rfl (lv_at hl 1 rfl) ?_
            refine bz_ne (zx := (p0).toInt) (tgt := 60) hx hb dX9_set_49 (by decide) rfl (fun c_31 => ?_) (fun c_31 => ?_)
            · refine lv_iload_n hx hb dX9_set_60 rfl (lv_at hl 1 rfl) ?_
              refine lv_iconst (v := 1) hx hb dX9_set_61 (by decide) ?_
              refine bi_ne (zx := (p0).toInt) (zy := 1) (tgt := 73) hx hb dX9_set_62 (by decide) rfl (by decide) (fun c_32 => ?_) (fun c_32 => ?_)
              · refine lv_aload_n hx hb dX9_set_73 rfl (lv_at hl 0 rfl) ?_
                refine lv_iload_n hx hb dX9_set_74 rfl (lv_at hl 2 rfl) ?_
                refine va_put (D := D) (ci := 9) (v := .int p1) (ty := .int) (C := RX9) (T := TX9) (N := 37) hx hb hts hin_X9 tyX9 tyX9_ok nmX9 hown hK hP hD hS 0 rfl rfl 6 (by decide) (hts (.fieldLink RX9 114 "CryOrderModel" "tries" "I") (by decide +kernel)) (fun _ h9 => h9) rfl (by decide +kernel) rfl rfl (Nat.le_of_ble_eq_true rfl) dX9_set_75 (fun H_33 locs hP hD hS => ?_)
                have hP : va_P D vwCl [oC h0 9 [.int now, .int na, .int nsi, .int nti, .int vc, .int vn, .int p1, .ref b1, .ref b2, .ref b3, .ref b4, .ref b5, .ref b6, .ref b7, .ref b8, .ref b9, .ref b10, .ref b11, .ref b12, .ref b13, .ref b14, .ref b15, .ref b16, .ref b17, .ref b18, .int ct, .int cs, .int co, .ref b19, .ref b20, .ref b21, .int nca, .ref b22, .ref b23, .int ntm, .ref b24, .ref b25]] H_33 := hP
                have hD : va_D A [oC h0 9 [.int now, .int na, .int nsi, .int nti, .int vc, .int vn, .int p1, .ref b1, .ref b2, .ref b3, .ref b4, .ref b5, .ref b6, .ref b7, .ref b8, .ref b9, .ref b10, .ref b11, .ref b12, .ref b13, .ref b14, .ref b15, .ref b16, .ref b17, .ref b18, .int ct, .int cs, .int co, .ref b19, .ref b20, .ref b21, .int nca, .ref b22, .ref b23, .int ntm, .ref b24, .ref b25]] := hD
                refine lv_iconst (v := 1) hx hb dX9_set_78 (by decide) ?_
                refine W.widen (k := 0) (n := 0) (Nat.le_of_ble_eq_true rfl) (Nat.le_of_ble_eq_true rfl) ?_
                have hP9 := hP.sub (ws' := [oC h0 9 [.int now, .int na, .int nsi, .int nti, .int vc, .int vn, .int p1, .ref b1, .ref b2, .ref b3, .ref b4, .ref b5, .ref b6, .ref b7, .ref b8, .ref b9, .ref b10, .ref b11, .ref b12, .ref b13, .ref b14, .ref b15, .ref b16, .ref b17, .ref b18, .int ct, .int cs, .int co, .ref b19, .ref b20, .ref b21, .int nca, .ref b22, .ref b23, .int ntm, .ref b24, .ref b25]]) [0] rfl
                have hD9 := hD.sub (ws' := [oC h0 9 [.int now, .int na, .int nsi, .int nti, .int vc, .int vn, .int p1, .ref b1, .ref b2, .ref b3, .ref b4, .ref b5, .ref b6, .ref b7, .ref b8, .ref b9, .ref b10, .ref b11, .ref b12, .ref b13, .ref b14, .ref b15, .ref b16, .ref b17, .ref b18, .int ct, .int cs, .int co, .ref b19, .ref b20, .ref b21, .int nca, .ref b22, .ref b23, .int ntm, .ref b24, .ref b25]]) [0] (by decide) rfl
                have hK9 := hK.sub (tys' := []) [] rfl
                exact W.zret (v := 1) hx hb hr rfl (fun t ht hW => ⟨⟨1, (), rfl, (by unfold F_set; first | exact (if_pos (by omega)).symm | exact (if_neg (by omega)).symm), vc, vn, p1, ⟨by rw [ht]; exact hP9, va_K.moved hW.alike hK9, hD9⟩, by omega⟩, hS.F ht⟩) hS.2.2 dX9_set_79
              · refine lv_aload_n hx hb dX9_set_65 rfl (lv_at hl 0 rfl) ?_
                refine lv_iload_n hx hb dX9_set_66 rfl (lv_at hl 2 rfl) ?_
                refine va_put (D := D) (ci := 9) (v := .int p1) (ty := .int) (C := RX9) (T := TX9) (N := 37) hx hb hts hin_X9 tyX9 tyX9_ok nmX9 hown hK hP hD hS 0 rfl rfl 5 (by decide) (hts (.fieldLink RX9 13 "CryOrderModel" "needs" "I") (by decide +kernel)) (fun _ h9 => h9) rfl (by decide +kernel) rfl rfl (Nat.le_of_ble_eq_true rfl) dX9_set_67 (fun H_34 locs hP hD hS => ?_)
                have hP : va_P D vwCl [oC h0 9 [.int now, .int na, .int nsi, .int nti, .int vc, .int p1, .int vt, .ref b1, .ref b2, .ref b3, .ref b4, .ref b5, .ref b6, .ref b7, .ref b8, .ref b9, .ref b10, .ref b11, .ref b12, .ref b13, .ref b14, .ref b15, .ref b16, .ref b17, .ref b18, .int ct, .int cs, .int co, .ref b19, .ref b20, .ref b21, .int nca, .ref b22, .ref b23, .int ntm, .ref b24, .ref b25]] H_34 := hP
                have hD : va_D A [oC h0 9 [.int now, .int na, .int nsi, .int nti, .int vc, .int p1, .int vt, .ref b1, .ref b2, .ref b3, .ref b4, .ref b5, .ref b6, .ref b7, .ref b8, .ref b9, .ref b10, .ref b11, .ref b12, .ref b13, .ref b14, .ref b15, .ref b16, .ref b17, .ref b18, .int ct, .int cs, .int co, .ref b19, .ref b20, .ref b21, .int nca, .ref b22, .ref b23, .int ntm, .ref b24, .ref b25]] := hD
                refine lv_goto (tgt := 78) hx hb dX9_set_70 (by decide) ?_
                refine lv_iconst (v := 1) hx hb dX9_set_78 (by decide) ?_
                refine W.widen (k := 0) (n := 0) (Nat.le_of_ble_eq_true rfl) (Nat.le_of_ble_eq_true rfl) ?_
                have hP9 := hP.sub (ws' := [oC h0 9 [.int now, .int na, .int nsi, .int nti, .int vc, .int p1, .int vt, .ref b1, .ref b2, .ref b3, .ref b4, .ref b5, .ref b6, .ref b7, .ref b8, .ref b9, .ref b10, .ref b11, .ref b12, .ref b13, .ref b14, .ref b15, .ref b16, .ref b17, .ref b18, .int ct, .int cs, .int co, .ref b19, .ref b20, .ref b21, .int nca, .ref b22, .ref b23, .int ntm, .ref b24, .ref b25]]) [0] rfl
                have hD9 := hD.sub (ws' := [oC h0 9 [.int now, .int na, .int nsi, .int nti, .int vc, .int p1, .int vt, .ref b1, .ref b2, .ref b3, .ref b4, .ref b5, .ref b6, .ref b7, .ref b8, .ref b9, .ref b10, .ref b11, .ref b12, .ref b13, .ref b14, .ref b15, .ref b16, .ref b17, .ref b18, .int ct, .int cs, .int co, .ref b19, .ref b20, .ref b21, .int nca, .ref b22, .ref b23, .int ntm, .ref b24, .ref b25]]) [0] (by decide) rfl
                have hK9 := hK.sub (tys' := []) [] rfl
                exact W.zret (v := 1) hx hb hr rfl (fun t ht hW => ⟨⟨1, (), rfl, (by unfold F_set; first | exact (if_pos (by omega)).symm | exact (if_neg (by omega)).symm), vc, p1, vt, ⟨by rw [ht]; exact hP9, va_K.moved hW.alike hK9, hD9⟩, by omega⟩, hS.F ht⟩) hS.2.2 dX9_set_79
            · refine lv_aload_n hx hb dX9_set_52 rfl (lv_at hl 0 rfl) ?_
              refine lv_iload_n hx hb dX9_set_53 rfl (lv_at hl 2 rfl) ?_
              refine va_put (D := D) (ci := 9) (v := .int p1) (ty := .int) (C := RX9) (T := TX9) (N := 37) hx hb hts hin_X9 tyX9 tyX9_ok nmX9 hown hK hP hD hS 0 rfl rfl 4 (by decide) (hts (.fieldLink RX9 7 "CryOrderModel" "cap" "I") (by decide +kernel)) (fun _ h9 => h9) rfl (by decide +kernel) rfl rfl (Nat.le_of_ble_eq_true rfl) dX9_set_54 (fun H_35 locs hP hD hS => ?_)
              have hP : va_P D vwCl [oC h0 9 [.int now, .int na, .int nsi, .int nti, .int p1, .int vn, .int vt, .ref b1, .ref b2, .ref b3, .ref b4, .ref b5, .ref b6, .ref b7, .ref b8, .ref b9, .ref b10, .ref b11, .ref b12, .ref b13, .ref b14, .ref b15, .ref b16, .ref b17, .ref b18, .int ct, .int cs, .int co, .ref b19, .ref b20, .ref b21, .int nca, .ref b22, .ref b23, .int ntm, .ref b24, .ref b25]] H_35 := hP
              have hD : va_D A [oC h0 9 [.int now, .int na, .int nsi, .int nti, .int p1, .int vn, .int vt, .ref b1, .ref b2, .ref b3, .ref b4, .ref b5, .ref b6, .ref b7, .ref b8, .ref b9, .ref b10, .ref b11, .ref b12, .ref b13, .ref b14, .ref b15, .ref b16, .ref b17, .ref b18, .int ct, .int cs, .int co, .ref b19, .ref b20, .ref b21, .int nca, .ref b22, .ref b23, .int ntm, .ref b24, .ref b25]] := hD
              refine lv_goto (tgt := 78) hx hb dX9_set_57 (by decide) ?_
              refine lv_iconst (v := 1) hx hb dX9_set_78 (by decide) ?_
              refine W.widen (k := 0) (n := 0) (Nat.le_of_ble_eq_true rfl) (Nat.le_of_ble_eq_true rfl) ?_
              have hP9 := hP.sub (ws' := [oC h0 9 [.int now, .int na, .int nsi, .int nti, .int p1, .int vn, .int vt, .ref b1, .ref b2, .ref b3, .ref b4, .ref b5, .ref b6, .ref b7, .ref b8, .ref b9, .ref b10, .ref b11, .ref b12, .ref b13, .ref b14, .ref b15, .ref b16, .ref b17, .ref b18, .int ct, .int cs, .int co, .ref b19, .ref b20, .ref b21, .int nca, .ref b22, .ref b23, .int ntm, .ref b24, .ref b25]]) [0] rfl
              have hD9 := hD.sub (ws' := [oC h0 9 [.int now, .int na, .int nsi, .int nti, .int p1, .int vn, .int vt, .ref b1, .ref b2, .ref b3, .ref b4, .ref b5, .ref b6, .ref b7, .ref b8, .ref b9, .ref b10, .ref b11, .ref b12, .ref b13, .ref b14, .ref b15, .ref b16, .ref b17, .ref b18, .int ct, .int cs, .int co, .ref b19, .ref b20, .ref b21, .int nca, .ref b22, .ref b23, .int ntm, .ref b24, .ref b25]]) [0] (by decide) rfl
              have hK9 := hK.sub (tys' := []) [] rfl
              exact W.zret (v := 1) hx hb hr rfl (fun t ht hW => ⟨⟨1, (), rfl, (by unfold F_set; first | exact (if_pos (by omega)).symm | exact (if_neg (by omega)).symm), p1, vn, vt, ⟨by rw [ht]; exact hP9, va_K.moved hW.alike hK9, hD9⟩, by omega⟩, hS.F ht⟩) hS.2.2 dX9_set_79
          · have h_30 : (p1).toInt < 0 ∨ 5 < (p1).toInt := h_30
            refine lv_if_ne (tgt := 48) hx hb dX9_set_43 (by decide) (fun c_ => absurd c_ (by decide)) (fun _ => ?_)
            refine lv_iconst (v := 0) hx hb dX9_set_46 (by decide) ?_
            refine W.widen (k := 0) (n := 0) (Nat.le_of_ble_eq_true rfl) (Nat.le_of_ble_eq_true rfl) ?_
            have hP9 := hP.sub (ws' := [oC h0 9 [.int now, .int na, .int nsi, .int nti, .int vc, .int vn, .int vt, .ref b1, .ref b2, .ref b3, .ref b4, .ref b5, .ref b6, .ref b7, .ref b8, .ref b9, .ref b10, .ref b11, .ref b12, .ref b13, .ref b14, .ref b15, .ref b16, .ref b17, .ref b18, .int ct, .int cs, .int co, .ref b19, .ref b20, .ref b21, .int nca, .ref b22, .ref b23, .int ntm, .ref b24, .ref b25]]) [0] rfl
            have hD9 := hD.sub (ws' := [oC h0 9 [.int now, .int na, .int nsi, .int nti, .int vc, .int vn, .int vt, .ref b1, .ref b2, .ref b3, .ref b4, .ref b5, .ref b6, .ref b7, .ref b8, .ref b9, .ref b10, .ref b11, .ref b12, .ref b13, .ref b14, .ref b15, .ref b16, .ref b17, .ref b18, .int ct, .int cs, .int co, .ref b19, .ref b20, .ref b21, .int nca, .ref b22, .ref b23, .int ntm, .ref b24, .ref b25]]) [0] (by decide) rfl
            have hK9 := hK.sub (tys' := []) [] rfl
            exact W.zret (v := 0) hx hb hr rfl (fun t ht hW => ⟨⟨0, (), rfl, (by unfold F_set; first | exact (if_pos (by omega)).symm | exact (if_neg (by omega)).symm), vc, vn, vt, ⟨by rw [ht]; exact hP9, va_K.moved hW.alike hK9, hD9⟩, by omega⟩, hS.F ht⟩) hS.2.2 dX9_set_47
        · refine lv_bipush (v := 20) hx hb dX9_set_34 (by decide) ?_
          refine lv_goto (tgt := 40) hx hb dX9_set_36 (by decide) ?_
          refine vp_callSi (zrS (As := [.int p1, .int 0, .int 20]) (rest := []) (wc := []) ⟨hx, hb, hml, hown, hts⟩ hN hK hP hD (m_isIn l D p1 0 20 ) (va_cwS 3 hts gX9_set_X9_isIn rfl rfl rfl (by decide +kernel) ⟨(Nat.le_of_ble_eq_true rfl), (Nat.le_of_ble_eq_true rfl)⟩) [] [] rfl rfl (by decide) rfl hl.1 rfl (Nat.le_of_ble_eq_true rfl) dX9_set_40 ⟨(Nat.le_of_ble_eq_true rfl), (Nat.le_of_ble_eq_true rfl)⟩) (fun r_36 h_37 => ?_)
          rcases h_37 with ⟨h_37, rfl⟩ | ⟨h_37, rfl⟩
          · have h_37 : 0 ≤ (p1).toInt ∧ (p1).toInt ≤ 20 := h_37
            refine lv_if_ne (tgt := 48) hx hb dX9_set_43 (by decide) (fun _ => ?_) (fun c_ => absurd c_ (by decide))
            refine lv_iload_n hx hb dX9_set_48 rfl (lv_at hl 1 rfl) ?_
            refine bz_ne (zx := (p0).toInt) (tgt := 60) hx hb dX9_set_49 (by decide) rfl (fun c_38 => ?_) (fun c_38 => ?_)
            · refine lv_iload_n hx hb dX9_set_60 rfl (lv_at hl 1 rfl) ?_
              refine lv_iconst (v := 1) hx hb dX9_set_61 (by decide) ?_
              refine bi_ne (zx := (p0).toInt) (zy := 1) (tgt := 73) hx hb dX9_set_62 (by decide) rfl (by decide) (fun c_39 => ?_) (fun c_39 => ?_)
              · refine lv_aload_n hx hb dX9_set_73 rfl (lv_at hl 0 rfl) ?_
                refine lv_iload_n hx hb dX9_set_74 rfl (lv_at hl 2 rfl) ?_
                refine va_put (D := D) (ci := 9) (v := .int p1) (ty := .int) (C := RX9) (T := TX9) (N := 37) hx hb hts hin_X9 tyX9 tyX9_ok nmX9 hown hK hP hD hS 0 rfl rfl 6 (by decide) (hts (.fieldLink RX9 114 "CryOrderModel" "tries" "I") (by decide +kernel)) (fun _ h9 => h9) rfl (by decide +kernel) rfl rfl (Nat.le_of_ble_eq_true rfl) dX9_set_75 (fun H_40 locs hP hD hS => ?_)
                have hP : va_P D vwCl [oC h0 9 [.int now, .int na, .int nsi, .int nti, .int vc, .int vn, .int p1, .ref b1, .ref b2, .ref b3, .ref b4, .ref b5, .ref b6, .ref b7, .ref b8, .ref b9, .ref b10, .ref b11, .ref b12, .ref b13, .ref b14, .ref b15, .ref b16, .ref b17, .ref b18, .int ct, .int cs, .int co, .ref b19, .ref b20, .ref b21, .int nca, .ref b22, .ref b23, .int ntm, .ref b24, .ref b25]] H_40 := hP
                have hD : va_D A [oC h0 9 [.int now, .int na, .int nsi, .int nti, .int vc, .int vn, .int p1, .ref b1, .ref b2, .ref b3, .ref b4, .ref b5, .ref b6, .ref b7, .ref b8, .ref b9, .ref b10, .ref b11, .ref b12, .ref b13, .ref b14, .ref b15, .ref b16, .ref b17, .ref b18, .int ct, .int cs, .int co, .ref b19, .ref b20, .ref b21, .int nca, .ref b22, .ref b23, .int ntm, .ref b24, .ref b25]] := hD
                refine lv_iconst (v := 1) hx hb dX9_set_78 (by decide) ?_
                refine W.widen (k := 0) (n := 0) (Nat.le_of_ble_eq_true rfl) (Nat.le_of_ble_eq_true rfl) ?_
                have hP9 := hP.sub (ws' := [oC h0 9 [.int now, .int na, .int nsi, .int nti, .int vc, .int vn, .int p1, .ref b1, .ref b2, .ref b3, .ref b4, .ref b5, .ref b6, .ref b7, .ref b8, .ref b9, .ref b10, .ref b11, .ref b12, .ref b13, .ref b14, .ref b15, .ref b16, .ref b17, .ref b18, .int ct, .int cs, .int co, .ref b19, .ref b20, .ref b21, .int nca, .ref b22, .ref b23, .int ntm, .ref b24, .ref b25]]) [0] rfl
                have hD9 := hD.sub (ws' := [oC h0 9 [.int now, .int na, .int nsi, .int nti, .int vc, .int vn, .int p1, .ref b1, .ref b2, .ref b3, .ref b4, .ref b5, .ref b6, .ref b7, .ref b8, .ref b9, .ref b10, .ref b11, .ref b12, .ref b13, .ref b14, .ref b15, .ref b16, .ref b17, .ref b18, .int ct, .int cs, .int co, .ref b19, .ref b20, .ref b21, .int nca, .ref b22, .ref b23, .int ntm, .ref b24, .ref b25]]) [0] (by decide) rfl
                have hK9 := hK.sub (tys' := []) [] rfl
                exact W.zret (v := 1) hx hb hr rfl (fun t ht hW => ⟨⟨1, (), rfl, (by unfold F_set; first | exact (if_pos (by omega)).symm | exact (if_neg (by omega)).symm), vc, vn, p1, ⟨by rw [ht]; exact hP9, va_K.moved hW.alike hK9, hD9⟩, by omega⟩, hS.F ht⟩) hS.2.2 dX9_set_79
              · refine lv_aload_n hx hb dX9_set_65 rfl (lv_at hl 0 rfl) ?_
                refine lv_iload_n hx hb dX9_set_66 rfl (lv_at hl 2 rfl) ?_
                refine va_put (D := D) (ci := 9) (v := .int p1) (ty := .int) (C := RX9) (T := TX9) (N := 37) hx hb hts hin_X9 tyX9 tyX9_ok nmX9 hown hK hP hD hS 0 rfl rfl 5 (by decide) (hts (.fieldLink RX9 13 "CryOrderModel" "needs" "I") (by decide +kernel)) (fun _ h9 => h9) rfl (by decide +kernel) rfl rfl (Nat.le_of_ble_eq_true rfl) dX9_set_67 (fun H_41 locs hP hD hS => ?_)
                have hP : va_P D vwCl [oC h0 9 [.int now, .int na, .int nsi, .int nti, .int vc, .int p1, .int vt, .ref b1, .ref b2, .ref b3, .ref b4, .ref b5, .ref b6, .ref b7, .ref b8, .ref b9, .ref b10, .ref b11, .ref b12, .ref b13, .ref b14, .ref b15, .ref b16, .ref b17, .ref b18, .int ct, .int cs, .int co, .ref b19, .ref b20, .ref b21, .int nca, .ref b22, .ref b23, .int ntm, .ref b24, .ref b25]] H_41 := hP
                have hD : va_D A [oC h0 9 [.int now, .int na, .int nsi, .int nti, .int vc, .int p1, .int vt, .ref b1, .ref b2, .ref b3, .ref b4, .ref b5, .ref b6, .ref b7, .ref b8, .ref b9, .ref b10, .ref b11, .ref b12, .ref b13, .ref b14, .ref b15, .ref b16, .ref b17, .ref b18, .int ct, .int cs, .int co, .ref b19, .ref b20, .ref b21, .int nca, .ref b22, .ref b23, .int ntm, .ref b24, .ref b25]] := hD
                refine lv_goto (tgt := 78) hx hb dX9_set_70 (by decide) ?_
                refine lv_iconst (v := 1) hx hb dX9_set_78 (by decide) ?_
                refine W.widen (k := 0) (n := 0) (Nat.le_of_ble_eq_true rfl) (Nat.le_of_ble_eq_true rfl) ?_
                have hP9 := hP.sub (ws' := [oC h0 9 [.int now, .int na, .int nsi, .int nti, .int vc, .int p1, .int vt, .ref b1, .ref b2, .ref b3, .ref b4, .ref b5, .ref b6, .ref b7, .ref b8, .ref b9, .ref b10, .ref b11, .ref b12, .ref b13, .ref b14, .ref b15, .ref b16, .ref b17, .ref b18, .int ct, .int cs, .int co, .ref b19, .ref b20, .ref b21, .int nca, .ref b22, .ref b23, .int ntm, .ref b24, .ref b25]]) [0] rfl
                have hD9 := hD.sub (ws' := [oC h0 9 [.int now, .int na, .int nsi, .int nti, .int vc, .int p1, .int vt, .ref b1, .ref b2, .ref b3, .ref b4, .ref b5, .ref b6, .ref b7, .ref b8, .ref b9, .ref b10, .ref b11, .ref b12, .ref b13, .ref b14, .ref b15, .ref b16, .ref b17, .ref b18, .int ct, .int cs, .int co, .ref b19, .ref b20, .ref b21, .int nca, .ref b22, .ref b23, .int ntm, .ref b24, .ref b25]]) [0] (by decide) rfl
                have hK9 := hK.sub (tys' := []) [] rfl
                exact W.zret (v := 1) hx hb hr rfl (fun t ht hW => ⟨⟨1, (), rfl, (by unfold F_set; first | exact (if_pos (by omega)).symm | exact (if_neg (by omega)).symm), vc, p1, vt, ⟨by rw [ht]; exact hP9, va_K.moved hW.alike hK9, hD9⟩, by omega⟩, hS.F ht⟩) hS.2.2 dX9_set_79
            · refine lv_aload_n hx hb dX9_set_52 rfl (lv_at hl 0 rfl) ?_
              refine lv_iload_n hx hb dX9_set_53 rfl (lv_at hl 2 rfl) ?_
              refine va_put (D := D) (ci := 9) (v := .int p1) (ty := .int) (C := RX9) (T := TX9) (N := 37) hx hb hts hin_X9 tyX9 tyX9_ok nmX9 hown hK hP hD hS 0 rfl rfl 4 (by decide) (hts (.fieldLink RX9 7 "CryOrderModel" "cap" "I") (by decide +kernel)) (fun _ h9 => h9) rfl (by decide +kernel) rfl rfl (Nat.le_of_ble_eq_true rfl) dX9_set_54 (fun H_42 locs hP hD hS => ?_)
              have hP : va_P D vwCl [oC h0 9 [.int now, .int na, .int nsi, .int nti, .int p1, .int vn, .int vt, .ref b1, .ref b2, .ref b3, .ref b4, .ref b5, .ref b6, .ref b7, .ref b8, .ref b9, .ref b10, .ref b11, .ref b12, .ref b13, .ref b14, .ref b15, .ref b16, .ref b17, .ref b18, .int ct, .int cs, .int co, .ref b19, .ref b20, .ref b21, .int nca, .ref b22, .ref b23, .int ntm, .ref b24, .ref b25]] H_42 := hP
              have hD : va_D A [oC h0 9 [.int now, .int na, .int nsi, .int nti, .int p1, .int vn, .int vt, .ref b1, .ref b2, .ref b3, .ref b4, .ref b5, .ref b6, .ref b7, .ref b8, .ref b9, .ref b10, .ref b11, .ref b12, .ref b13, .ref b14, .ref b15, .ref b16, .ref b17, .ref b18, .int ct, .int cs, .int co, .ref b19, .ref b20, .ref b21, .int nca, .ref b22, .ref b23, .int ntm, .ref b24, .ref b25]] := hD
              refine lv_goto (tgt := 78) hx hb dX9_set_57 (by decide) ?_
              refine lv_iconst (v := 1) hx hb dX9_set_78 (by decide) ?_
              refine W.widen (k := 0) (n := 0) (Nat.le_of_ble_eq_true rfl) (Nat.le_of_ble_eq_true rfl) ?_
              have hP9 := hP.sub (ws' := [oC h0 9 [.int now, .int na, .int nsi, .int nti, .int p1, .int vn, .int vt, .ref b1, .ref b2, .ref b3, .ref b4, .ref b5, .ref b6, .ref b7, .ref b8, .ref b9, .ref b10, .ref b11, .ref b12, .ref b13, .ref b14, .ref b15, .ref b16, .ref b17, .ref b18, .int ct, .int cs, .int co, .ref b19, .ref b20, .ref b21, .int nca, .ref b22, .ref b23, .int ntm, .ref b24, .ref b25]]) [0] rfl
              have hD9 := hD.sub (ws' := [oC h0 9 [.int now, .int na, .int nsi, .int nti, .int p1, .int vn, .int vt, .ref b1, .ref b2, .ref b3, .ref b4, .ref b5, .ref b6, .ref b7, .ref b8, .ref b9, .ref b10, .ref b11, .ref b12, .ref b13, .ref b14, .ref b15, .ref b16, .ref b17, .ref b18, .int ct, .int cs, .int co, .ref b19, .ref b20, .ref b21, .int nca, .ref b22, .ref b23, .int ntm, .ref b24, .ref b25]]) [0] (by decide) rfl
              have hK9 := hK.sub (tys' := []) [] rfl
              exact W.zret (v := 1) hx hb hr rfl (fun t ht hW => ⟨⟨1, (), rfl, (by unfold F_set; first | exact (if_pos (by omega)).symm | exact (if_neg (by omega)).symm), p1, vn, vt, ⟨by rw [ht]; exact hP9, va_K.moved hW.alike hK9, hD9⟩, by omega⟩, hS.F ht⟩) hS.2.2 dX9_set_79
          · have h_37 : (p1).toInt < 0 ∨ 20 < (p1).toInt := h_37
            refine lv_if_ne (tgt := 48) hx hb dX9_set_43 (by decide) (fun c_ => absurd c_ (by decide)) (fun _ => ?_)
            refine lv_iconst (v := 0) hx hb dX9_set_46 (by decide) ?_
            refine W.widen (k := 0) (n := 0) (Nat.le_of_ble_eq_true rfl) (Nat.le_of_ble_eq_true rfl) ?_
            have hP9 := hP.sub (ws' := [oC h0 9 [.int now, .int na, .int nsi, .int nti, .int vc, .int vn, .int vt, .ref b1, .ref b2, .ref b3, .ref b4, .ref b5, .ref b6, .ref b7, .ref b8, .ref b9, .ref b10, .ref b11, .ref b12, .ref b13, .ref b14, .ref b15, .ref b16, .ref b17, .ref b18, .int ct, .int cs, .int co, .ref b19, .ref b20, .ref b21, .int nca, .ref b22, .ref b23, .int ntm, .ref b24, .ref b25]]) [0] rfl
            have hD9 := hD.sub (ws' := [oC h0 9 [.int now, .int na, .int nsi, .int nti, .int vc, .int vn, .int vt, .ref b1, .ref b2, .ref b3, .ref b4, .ref b5, .ref b6, .ref b7, .ref b8, .ref b9, .ref b10, .ref b11, .ref b12, .ref b13, .ref b14, .ref b15, .ref b16, .ref b17, .ref b18, .int ct, .int cs, .int co, .ref b19, .ref b20, .ref b21, .int nca, .ref b22, .ref b23, .int ntm, .ref b24, .ref b25]]) [0] (by decide) rfl
            have hK9 := hK.sub (tys' := []) [] rfl
            exact W.zret (v := 0) hx hb hr rfl (fun t ht hW => ⟨⟨0, (), rfl, (by unfold F_set; first | exact (if_pos (by omega)).symm | exact (if_neg (by omega)).symm), vc, vn, vt, ⟨by rw [ht]; exact hP9, va_K.moved hW.alike hK9, hD9⟩, by omega⟩, hS.F ht⟩) hS.2.2 dX9_set_47
      · refine lv_bipush (v := 50) hx hb dX9_set_24 (by decide) ?_
        refine lv_goto (tgt := 40) hx hb dX9_set_26 (by decide) ?_
        refine vp_callSi (zrS (As := [.int p1, .int 0, .int 50]) (rest := []) (wc := []) ⟨hx, hb, hml, hown, hts⟩ hN hK hP hD (m_isIn l D p1 0 50 ) (va_cwS 3 hts gX9_set_X9_isIn rfl rfl rfl (by decide +kernel) ⟨(Nat.le_of_ble_eq_true rfl), (Nat.le_of_ble_eq_true rfl)⟩) [] [] rfl rfl (by decide) rfl hl.1 rfl (Nat.le_of_ble_eq_true rfl) dX9_set_40 ⟨(Nat.le_of_ble_eq_true rfl), (Nat.le_of_ble_eq_true rfl)⟩) (fun r_43 h_44 => ?_)
        rcases h_44 with ⟨h_44, rfl⟩ | ⟨h_44, rfl⟩
        · have h_44 : 0 ≤ (p1).toInt ∧ (p1).toInt ≤ 50 := h_44
          refine lv_if_ne (tgt := 48) hx hb dX9_set_43 (by decide) (fun _ => ?_) (fun c_ => absurd c_ (by decide))
          refine lv_iload_n hx hb dX9_set_48 rfl (lv_at hl 1 rfl) ?_
          refine bz_ne (zx := (p0).toInt) (tgt := 60) hx hb dX9_set_49 (by decide) rfl (fun c_45 => ?_) (fun c_45 => ?_)
          · refine lv_iload_n hx hb dX9_set_60 rfl (lv_at hl 1 rfl) ?_
            refine lv_iconst (v := 1) hx hb dX9_set_61 (by decide) ?_
            refine bi_ne (zx := (p0).toInt) (zy := 1) (tgt := 73) hx hb dX9_set_62 (by decide) rfl (by decide) (fun c_46 => ?_) (fun c_46 => ?_)
            · refine lv_aload_n hx hb dX9_set_73 rfl (lv_at hl 0 rfl) ?_
              refine lv_iload_n hx hb dX9_set_74 rfl (lv_at hl 2 rfl) ?_
              refine va_put (D := D) (ci := 9) (v := .int p1) (ty := .int) (C := RX9) (T := TX9) (N := 37) hx hb hts hin_X9 tyX9 tyX9_ok nmX9 hown hK hP hD hS 0 rfl rfl 6 (by decide) (hts (.fieldLink RX9 114 "CryOrderModel" "tries" "I") (by decide +kernel)) (fun _ h9 => h9) rfl (by decide +kernel) rfl rfl (Nat.le_of_ble_eq_true rfl) dX9_set_75 (fun H_47 locs hP hD hS => ?_)
              have hP : va_P D vwCl [oC h0 9 [.int now, .int na, .int nsi, .int nti, .int vc, .int vn, .int p1, .ref b1, .ref b2, .ref b3, .ref b4, .ref b5, .ref b6, .ref b7, .ref b8, .ref b9, .ref b10, .ref b11, .ref b12, .ref b13, .ref b14, .ref b15, .ref b16, .ref b17, .ref b18, .int ct, .int cs, .int co, .ref b19, .ref b20, .ref b21, .int nca, .ref b22, .ref b23, .int ntm, .ref b24, .ref b25]] H_47 := hP
              have hD : va_D A [oC h0 9 [.int now, .int na, .int nsi, .int nti, .int vc, .int vn, .int p1, .ref b1, .ref b2, .ref b3, .ref b4, .ref b5, .ref b6, .ref b7, .ref b8, .ref b9, .ref b10, .ref b11, .ref b12, .ref b13, .ref b14, .ref b15, .ref b16, .ref b17, .ref b18, .int ct, .int cs, .int co, .ref b19, .ref b20, .ref b21, .int nca, .ref b22, .ref b23, .int ntm, .ref b24, .ref b25]] := hD
              refine lv_iconst (v := 1) hx hb dX9_set_78 (by decide) ?_
              refine W.widen (k := 0) (n := 0) (Nat.le_of_ble_eq_true rfl) (Nat.le_of_ble_eq_true rfl) ?_
              have hP9 := hP.sub (ws' := [oC h0 9 [.int now, .int na, .int nsi, .int nti, .int vc, .int vn, .int p1, .ref b1, .ref b2, .ref b3, .ref b4, .ref b5, .ref b6, .ref b7, .ref b8, .ref b9, .ref b10, .ref b11, .ref b12, .ref b13, .ref b14, .ref b15, .ref b16, .ref b17, .ref b18, .int ct, .int cs, .int co, .ref b19, .ref b20, .ref b21, .int nca, .ref b22, .ref b23, .int ntm, .ref b24, .ref b25]]) [0] rfl
              have hD9 := hD.sub (ws' := [oC h0 9 [.int now, .int na, .int nsi, .int nti, .int vc, .int vn, .int p1, .ref b1, .ref b2, .ref b3, .ref b4, .ref b5, .ref b6, .ref b7, .ref b8, .ref b9, .ref b10, .ref b11, .ref b12, .ref b13, .ref b14, .ref b15, .ref b16, .ref b17, .ref b18, .int ct, .int cs, .int co, .ref b19, .ref b20, .ref b21, .int nca, .ref b22, .ref b23, .int ntm, .ref b24, .ref b25]]) [0] (by decide) rfl
              have hK9 := hK.sub (tys' := []) [] rfl
              exact W.zret (v := 1) hx hb hr rfl (fun t ht hW => ⟨⟨1, (), rfl, (by unfold F_set; first | exact (if_pos (by omega)).symm | exact (if_neg (by omega)).symm), vc, vn, p1, ⟨by rw [ht]; exact hP9, va_K.moved hW.alike hK9, hD9⟩, by omega⟩, hS.F ht⟩) hS.2.2 dX9_set_79
            · refine lv_aload_n hx hb dX9_set_65 rfl (lv_at hl 0 rfl) ?_
              refine lv_iload_n hx hb dX9_set_66 rfl (lv_at hl 2 rfl) ?_
              refine va_put (D := D) (ci := 9) (v := .int p1) (ty := .int) (C := RX9) (T := TX9) (N := 37) hx hb hts hin_X9 tyX9 tyX9_ok nmX9 hown hK hP hD hS 0 rfl rfl 5 (by decide) (hts (.fieldLink RX9 13 "CryOrderModel" "needs" "I") (by decide +kernel)) (fun _ h9 => h9) rfl (by decide +kernel) rfl rfl (Nat.le_of_ble_eq_true rfl) dX9_set_67 (fun H_48 locs hP hD hS => ?_)
              have hP : va_P D vwCl [oC h0 9 [.int now, .int na, .int nsi, .int nti, .int vc, .int p1, .int vt, .ref b1, .ref b2, .ref b3, .ref b4, .ref b5, .ref b6, .ref b7, .ref b8, .ref b9, .ref b10, .ref b11, .ref b12, .ref b13, .ref b14, .ref b15, .ref b16, .ref b17, .ref b18, .int ct, .int cs, .int co, .ref b19, .ref b20, .ref b21, .int nca, .ref b22, .ref b23, .int ntm, .ref b24, .ref b25]] H_48 := hP
              have hD : va_D A [oC h0 9 [.int now, .int na, .int nsi, .int nti, .int vc, .int p1, .int vt, .ref b1, .ref b2, .ref b3, .ref b4, .ref b5, .ref b6, .ref b7, .ref b8, .ref b9, .ref b10, .ref b11, .ref b12, .ref b13, .ref b14, .ref b15, .ref b16, .ref b17, .ref b18, .int ct, .int cs, .int co, .ref b19, .ref b20, .ref b21, .int nca, .ref b22, .ref b23, .int ntm, .ref b24, .ref b25]] := hD
              refine lv_goto (tgt := 78) hx hb dX9_set_70 (by decide) ?_
              refine lv_iconst (v := 1) hx hb dX9_set_78 (by decide) ?_
              refine W.widen (k := 0) (n := 0) (Nat.le_of_ble_eq_true rfl) (Nat.le_of_ble_eq_true rfl) ?_
              have hP9 := hP.sub (ws' := [oC h0 9 [.int now, .int na, .int nsi, .int nti, .int vc, .int p1, .int vt, .ref b1, .ref b2, .ref b3, .ref b4, .ref b5, .ref b6, .ref b7, .ref b8, .ref b9, .ref b10, .ref b11, .ref b12, .ref b13, .ref b14, .ref b15, .ref b16, .ref b17, .ref b18, .int ct, .int cs, .int co, .ref b19, .ref b20, .ref b21, .int nca, .ref b22, .ref b23, .int ntm, .ref b24, .ref b25]]) [0] rfl
              have hD9 := hD.sub (ws' := [oC h0 9 [.int now, .int na, .int nsi, .int nti, .int vc, .int p1, .int vt, .ref b1, .ref b2, .ref b3, .ref b4, .ref b5, .ref b6, .ref b7, .ref b8, .ref b9, .ref b10, .ref b11, .ref b12, .ref b13, .ref b14, .ref b15, .ref b16, .ref b17, .ref b18, .int ct, .int cs, .int co, .ref b19, .ref b20, .ref b21, .int nca, .ref b22, .ref b23, .int ntm, .ref b24, .ref b25]]) [0] (by decide) rfl
              have hK9 := hK.sub (tys' := []) [] rfl
              exact W.zret (v := 1) hx hb hr rfl (fun t ht hW => ⟨⟨1, (), rfl, (by unfold F_set; first | exact (if_pos (by omega)).symm | exact (if_neg (by omega)).symm), vc, p1, vt, ⟨by rw [ht]; exact hP9, va_K.moved hW.alike hK9, hD9⟩, by omega⟩, hS.F ht⟩) hS.2.2 dX9_set_79
          · refine lv_aload_n hx hb dX9_set_52 rfl (lv_at hl 0 rfl) ?_
            refine lv_iload_n hx hb dX9_set_53 rfl (lv_at hl 2 rfl) ?_
            refine va_put (D := D) (ci := 9) (v := .int p1) (ty := .int) (C := RX9) (T := TX9) (N := 37) hx hb hts hin_X9 tyX9 tyX9_ok nmX9 hown hK hP hD hS 0 rfl rfl 4 (by decide) (hts (.fieldLink RX9 7 "CryOrderModel" "cap" "I") (by decide +kernel)) (fun _ h9 => h9) rfl (by decide +kernel) rfl rfl (Nat.le_of_ble_eq_true rfl) dX9_set_54 (fun H_49 locs hP hD hS => ?_)
            have hP : va_P D vwCl [oC h0 9 [.int now, .int na, .int nsi, .int nti, .int p1, .int vn, .int vt, .ref b1, .ref b2, .ref b3, .ref b4, .ref b5, .ref b6, .ref b7, .ref b8, .ref b9, .ref b10, .ref b11, .ref b12, .ref b13, .ref b14, .ref b15, .ref b16, .ref b17, .ref b18, .int ct, .int cs, .int co, .ref b19, .ref b20, .ref b21, .int nca, .ref b22, .ref b23, .int ntm, .ref b24, .ref b25]] H_49 := hP
            have hD : va_D A [oC h0 9 [.int now, .int na, .int nsi, .int nti, .int p1, .int vn, .int vt, .ref b1, .ref b2, .ref b3, .ref b4, .ref b5, .ref b6, .ref b7, .ref b8, .ref b9, .ref b10, .ref b11, .ref b12, .ref b13, .ref b14, .ref b15, .ref b16, .ref b17, .ref b18, .int ct, .int cs, .int co, .ref b19, .ref b20, .ref b21, .int nca, .ref b22, .ref b23, .int ntm, .ref b24, .ref b25]] := hD
            refine lv_goto (tgt := 78) hx hb dX9_set_57 (by decide) ?_
            refine lv_iconst (v := 1) hx hb dX9_set_78 (by decide) ?_
            refine W.widen (k := 0) (n := 0) (Nat.le_of_ble_eq_true rfl) (Nat.le_of_ble_eq_true rfl) ?_
            have hP9 := hP.sub (ws' := [oC h0 9 [.int now, .int na, .int nsi, .int nti, .int p1, .int vn, .int vt, .ref b1, .ref b2, .ref b3, .ref b4, .ref b5, .ref b6, .ref b7, .ref b8, .ref b9, .ref b10, .ref b11, .ref b12, .ref b13, .ref b14, .ref b15, .ref b16, .ref b17, .ref b18, .int ct, .int cs, .int co, .ref b19, .ref b20, .ref b21, .int nca, .ref b22, .ref b23, .int ntm, .ref b24, .ref b25]]) [0] rfl
            have hD9 := hD.sub (ws' := [oC h0 9 [.int now, .int na, .int nsi, .int nti, .int p1, .int vn, .int vt, .ref b1, .ref b2, .ref b3, .ref b4, .ref b5, .ref b6, .ref b7, .ref b8, .ref b9, .ref b10, .ref b11, .ref b12, .ref b13, .ref b14, .ref b15, .ref b16, .ref b17, .ref b18, .int ct, .int cs, .int co, .ref b19, .ref b20, .ref b21, .int nca, .ref b22, .ref b23, .int ntm, .ref b24, .ref b25]]) [0] (by decide) rfl
            have hK9 := hK.sub (tys' := []) [] rfl
            exact W.zret (v := 1) hx hb hr rfl (fun t ht hW => ⟨⟨1, (), rfl, (by unfold F_set; first | exact (if_pos (by omega)).symm | exact (if_neg (by omega)).symm), p1, vn, vt, ⟨by rw [ht]; exact hP9, va_K.moved hW.alike hK9, hD9⟩, by omega⟩, hS.F ht⟩) hS.2.2 dX9_set_79
        · have h_44 : (p1).toInt < 0 ∨ 50 < (p1).toInt := h_44
          refine lv_if_ne (tgt := 48) hx hb dX9_set_43 (by decide) (fun c_ => absurd c_ (by decide)) (fun _ => ?_)
          refine lv_iconst (v := 0) hx hb dX9_set_46 (by decide) ?_
          refine W.widen (k := 0) (n := 0) (Nat.le_of_ble_eq_true rfl) (Nat.le_of_ble_eq_true rfl) ?_
          have hP9 := hP.sub (ws' := [oC h0 9 [.int now, .int na, .int nsi, .int nti, .int vc, .int vn, .int vt, .ref b1, .ref b2, .ref b3, .ref b4, .ref b5, .ref b6, .ref b7, .ref b8, .ref b9, .ref b10, .ref b11, .ref b12, .ref b13, .ref b14, .ref b15, .ref b16, .ref b17, .ref b18, .int ct, .int cs, .int co, .ref b19, .ref b20, .ref b21, .int nca, .ref b22, .ref b23, .int ntm, .ref b24, .ref b25]]) [0] rfl
          have hD9 := hD.sub (ws' := [oC h0 9 [.int now, .int na, .int nsi, .int nti, .int vc, .int vn, .int vt, .ref b1, .ref b2, .ref b3, .ref b4, .ref b5, .ref b6, .ref b7, .ref b8, .ref b9, .ref b10, .ref b11, .ref b12, .ref b13, .ref b14, .ref b15, .ref b16, .ref b17, .ref b18, .int ct, .int cs, .int co, .ref b19, .ref b20, .ref b21, .int nca, .ref b22, .ref b23, .int ntm, .ref b24, .ref b25]]) [0] (by decide) rfl
          have hK9 := hK.sub (tys' := []) [] rfl
          exact W.zret (v := 0) hx hb hr rfl (fun t ht hW => ⟨⟨0, (), rfl, (by unfold F_set; first | exact (if_pos (by omega)).symm | exact (if_neg (by omega)).symm), vc, vn, vt, ⟨by rw [ht]; exact hP9, va_K.moved hW.alike hK9, hD9⟩, by omega⟩, hS.F ht⟩) hS.2.2 dX9_set_47
  · have h_2 : (p0).toInt < 0 ∨ 2 < (p0).toInt := h_2
    refine lv_if_eq (tgt := 46) hx hb dX9_set_6 (by decide) (fun _ => ?_) (fun c_ => absurd c_ (by decide))
    refine lv_iconst (v := 0) hx hb dX9_set_46 (by decide) ?_
    refine W.widen (k := 0) (n := 0) (Nat.le_of_ble_eq_true rfl) (Nat.le_of_ble_eq_true rfl) ?_
    have hP9 := hP.sub (ws' := [oC h0 9 [.int now, .int na, .int nsi, .int nti, .int vc, .int vn, .int vt, .ref b1, .ref b2, .ref b3, .ref b4, .ref b5, .ref b6, .ref b7, .ref b8, .ref b9, .ref b10, .ref b11, .ref b12, .ref b13, .ref b14, .ref b15, .ref b16, .ref b17, .ref b18, .int ct, .int cs, .int co, .ref b19, .ref b20, .ref b21, .int nca, .ref b22, .ref b23, .int ntm, .ref b24, .ref b25]]) [0] rfl
    have hD9 := hD.sub (ws' := [oC h0 9 [.int now, .int na, .int nsi, .int nti, .int vc, .int vn, .int vt, .ref b1, .ref b2, .ref b3, .ref b4, .ref b5, .ref b6, .ref b7, .ref b8, .ref b9, .ref b10, .ref b11, .ref b12, .ref b13, .ref b14, .ref b15, .ref b16, .ref b17, .ref b18, .int ct, .int cs, .int co, .ref b19, .ref b20, .ref b21, .int nca, .ref b22, .ref b23, .int ntm, .ref b24, .ref b25]]) [0] (by decide) rfl
    have hK9 := hK.sub (tys' := []) [] rfl
    exact W.zret (v := 0) hx hb hr rfl (fun t ht hW => ⟨⟨0, (), rfl, (by unfold F_set; first | exact (if_pos (by omega)).symm | exact (if_neg (by omega)).symm), vc, vn, vt, ⟨by rw [ht]; exact hP9, va_K.moved hW.alike hK9, hD9⟩, by omega⟩, hS.F ht⟩) hS.2.2 dX9_set_47
