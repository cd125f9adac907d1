set_option maxHeartbeats 4000000 in
set_option maxRecDepth 100000 in
theorem m_verdict (l : Launch) (D : va_G) (sz : Nat) (h0 : Nat) (b1 : Nat) (b2 : Nat) (b3 : Nat) (b4 : Nat) (b5 : Nat) (b6 : Nat) (b7 : Nat) (b8 : Nat) (b9 : Nat) (b10 : Nat) (b11 : Nat) (b12 : Nat) (b13 : Nat) (b14 : Nat) (b15 : Nat) (b16 : Nat) (b17 : Nat) (b18 : Nat) (b19 : Nat) (b20 : Nat) (b21 : Nat) (b22 : Nat) (b23 : Nat) (b24 : Nat) (b25 : Nat) (now : Int32) (na : Int32) (nsi : Int32) (nti : Int32) (vc : Int32) (vn : Int32) (vt : Int32) (ct : Int32) (cs : Int32) (co : Int32) (nca : Int32) (ntm : Int32) (d8 : ClassId) (d9 : ClassId) (d10 : ClassId) (f8 : Nat → Int32) (f9 : Nat → Int32) (f10 : Nat → Int32) (p0 : Int32) (p1 : Int32) (p2 : Int32) (hna : 0 ≤ (na).toInt ∧ (na).toInt ≤ 200) : Met l yX9_verdict wsX9_verdict ({ frames := 2, cells := 0, slots := 0, locals := 43 }) (va_Pc [.ref h0, .int p0, .int p1, .int p2] (wz sz D [(d8, .int), (d9, .int), (d10, .int)] [oC h0 9 [.int now, .int na, .int nsi, .int nti, .int vc, .int vn, .int vt, .ref b1, .ref b2, .ref b3, .ref b4, .ref b5, .ref b6, .ref b7, .ref b8, .ref b9, .ref b10, .ref b11, .ref b12, .ref b13, .ref b14, .ref b15, .ref b16, .ref b17, .ref b18, .int ct, .int cs, .int co, .ref b19, .ref b20, .ref b21, .int nca, .ref b22, .ref b23, .int ntm, .ref b24, .ref b25], aI b8 d8 200 (f8), aI b9 d9 200 (f9), aI b10 d10 200 (f10)])) (va_Qi (fun (r : Int32) (_ : Unit) => True) (fun _ t => ∃ (g8 : Nat → Int32), ∃ (g9 : Nat → Int32), ∃ (g10 : Nat → Int32), wp D [] (va_A [oC h0 9 [.int now, .int na, .int nsi, .int nti, .int vc, .int vn, .int vt, .ref b1, .ref b2, .ref b3, .ref b4, .ref b5, .ref b6, .ref b7, .ref b8, .ref b9, .ref b10, .ref b11, .ref b12, .ref b13, .ref b14, .ref b15, .ref b16, .ref b17, .ref b18, .int ct, .int cs, .int co, .ref b19, .ref b20, .ref b21, .int nca, .ref b22, .ref b23, .int ntm, .ref b24, .ref b25], aI b8 d8 200 (f8), aI b9 d9 200 (f9), aI b10 d10 200 (f10)] sz) [oC h0 9 [.int now, .int na, .int nsi, .int nti, .int vc, .int vn, .int vt, .ref b1, .ref b2, .ref b3, .ref b4, .ref b5, .ref b6, .ref b7, .ref b8, .ref b9, .ref b10, .ref b11, .ref b12, .ref b13, .ref b14, .ref b15, .ref b16, .ref b17, .ref b18, .int ct, .int cs, .int co, .ref b19, .ref b20, .ref b21, .int nca, .ref b22, .ref b23, .int ntm, .ref b24, .ref b25], aI b8 d8 200 (g8), aI b9 d9 200 (g9), aI b10 d10 200 (g10)] t) (va_A [oC h0 9 [.int now, .int na, .int nsi, .int nti, .int vc, .int vn, .int vt, .ref b1, .ref b2, .ref b3, .ref b4, .ref b5, .ref b6, .ref b7, .ref b8, .ref b9, .ref b10, .ref b11, .ref b12, .ref b13, .ref b14, .ref b15, .ref b16, .ref b17, .ref b18, .int ct, .int cs, .int co, .ref b19, .ref b20, .ref b21, .int nca, .ref b22, .ref b23, .int ntm, .ref b24, .ref b25], aI b8 d8 200 (f8), aI b9 d9 200 (f9), aI b10 d10 200 (f10)] sz)) 0 0 (va_A [oC h0 9 [.int now, .int na, .int nsi, .int nti, .int vc, .int vn, .int vt, .ref b1, .ref b2, .ref b3, .ref b4, .ref b5, .ref b6, .ref b7, .ref b8, .ref b9, .ref b10, .ref b11, .ref b12, .ref b13, .ref b14, .ref b15, .ref b16, .ref b17, .ref b18, .int ct, .int cs, .int co, .ref b19, .ref b20, .ref b21, .int nca, .ref b22, .ref b23, .int ntm, .ref b24, .ref b25], aI b8 d8 200 (f8), aI b9 d9 200 (f9), aI b10 d10 200 (f10)] sz) := by
  refine Met.ofW (cc := cX9_verdict) (maxL := 4) (ret := (some .int)) (by decide) rfl ?_
  intro p e s m args below meth c s₁ B hml hv
  obtain ⟨rfl, hsz, hP, hK, hD0, hN⟩ := hv
  have hx := B.exec
  have hb := B.bytes
  have hr := B.returns
  have hts := atoms_spec (ws := wsX9_verdict) B.pre
  have hown : s.vm.findClass RX9 = some m.cls := findClass_of_methodNamed B.named
  have hlocks := B.notSynchronized
  subst hsz
  have hD := hD0.self (sz := s.heap.size)
  generalize hAe : va_A [oC h0 9 [.int now, .int na, .int nsi, .int nti, .int vc, .int vn, .int vt, .ref b1, .ref b2, .ref b3, .ref b4, .ref b5, .ref b6, .ref b7, .ref b8, .ref b9, .ref b10, .ref b11, .ref b12, .ref b13, .ref b14, .ref b15, .ref b16, .ref b17, .ref b18, .int ct, .int cs, .int co, .ref b19, .ref b20, .ref b21, .int nca, .ref b22, .ref b23, .int ntm, .ref b24, .ref b25], aI b8 d8 200 (f8), aI b9 d9 200 (f9), aI b10 d10 200 (f10)] s.heap.size = A at hD ⊢
  have hA : ∀ q : Nat, s.heap.size ≤ q → A q := fun q h => by rw [← hAe]; exact Or.inr h
  have hS : va_S A s.heap s.heap [] := va_S.rf
  have hin_X9 : ∀ w ∈ u_ws RX9 TX9 37, w ∈ wsX9_verdict := by decide +kernel
  have hl := lv_entry ([.ref h0, .int p0, .int p1, .int p2]) (n := 4) (Nat.le_of_ble_eq_true rfl)
  rw [lg_entry_eq]
  generalize (lg_sl ([.ref h0, .int p0, .int p1, .int p2]) ++ List.replicate (4 - (lg_sl ([.ref h0, .int p0, .int p1, .int p2])).length) Slot.unset).toArray = ls at hl ⊢
  have hl : lv_has ls 4 [(0, .ref h0), (1, .int p0), (2, .int p1), (3, .int p2)] := hl
  refine lv_aload_n hx hb dX9_verdict_0 rfl (lv_at hl 0 rfl) ?_
  refine lv_iload_n hx hb dX9_verdict_1 rfl (lv_at hl 1 rfl) ?_
  refine vp_callSi (zrV (As := [.int p0]) (rest := []) (wc := [oC h0 9 [.int now, .int na, .int nsi, .int nti, .int vc, .int vn, .int vt, .ref b1, .ref b2, .ref b3, .ref b4, .ref b5, .ref b6, .ref b7, .ref b8, .ref b9, .ref b10, .ref b11, .ref b12, .ref b13, .ref b14, .ref b15, .ref b16, .ref b17, .ref b18, .int ct, .int cs, .int co, .ref b19, .ref b20, .ref b21, .int nca, .ref b22, .ref b23, .int ntm, .ref b24, .ref b25]]) ⟨hx, hb, hml, hown, hts⟩ hN hK hP hD (m_isAlarm l D h0 b1 b2 b3 b4 b5 b6 b7 b8 b9 b10 b11 b12 b13 b14 b15 b16 b17 b18 b19 b20 b21 b22 b23 b24 b25 now na nsi nti vc vn vt ct cs co nca ntm p0 (by first | omega | assumption)) (cwV 1 hts gX9_verdict_X9_isAlarm rfl rfl rfl (by decide +kernel) ⟨(Nat.le_of_ble_eq_true rfl), (Nat.le_of_ble_eq_true rfl)⟩) [] [0] rfl rfl (by decide) 9 0 rfl rfl rfl hl.1 rfl (Nat.le_of_ble_eq_true rfl) dX9_verdict_2 ⟨(Nat.le_of_ble_eq_true rfl), (Nat.le_of_ble_eq_true rfl)⟩) (fun r_1 h_2 => ?_)
  rcases h_2 with ⟨h_2, rfl⟩ | ⟨h_2, rfl⟩
  · have h_2 : 0 ≤ (p0).toInt ∧ (p0).toInt < (na).toInt := h_2
    refine lv_if_eq (tgt := 48) hx hb dX9_verdict_5 (by decide) (fun c_ => absurd c_ (by decide)) (fun _ => ?_)
    refine lv_iload_n hx hb dX9_verdict_8 rfl (lv_at hl 2 rfl) ?_
    refine lv_iconst (v := 0) hx hb dX9_verdict_9 (by decide) ?_
    refine lv_bipush (v := 9) hx hb dX9_verdict_10 (by decide) ?_
    refine vp_callSi (zrS (As := [.int p1, .int 0, .int 9]) (rest := []) (wc := []) ⟨hx, hb, hml, hown, hts⟩ hN hK hP hD (m_isIn l D p1 0 9 ) (va_cwS 3 hts gX9_verdict_X9_isIn rfl rfl rfl (by decide +kernel) ⟨(Nat.le_of_ble_eq_true rfl), (Nat.le_of_ble_eq_true rfl)⟩) [] [] rfl rfl (by decide) rfl hl.1 rfl (Nat.le_of_ble_eq_true rfl) dX9_verdict_12 ⟨(Nat.le_of_ble_eq_true rfl), (Nat.le_of_ble_eq_true rfl)⟩) (fun r_3 h_4 => ?_)
    rcases h_4 with ⟨h_4, rfl⟩ | ⟨h_4, rfl⟩
    · have h_4 : 0 ≤ (p1).toInt ∧ (p1).toInt ≤ 9 := h_4
      refine lv_if_eq (tgt := 48) hx hb dX9_verdict_15 (by decide) (fun c_ => absurd c_ (by decide)) (fun _ => ?_)
      refine lv_aload_n hx hb dX9_verdict_18 rfl (lv_at hl 0 rfl) ?_
      refine va_get (D := D) (ci := 9) (v := .ref b8) (C := RX9) (T := TX9) (N := 37) hx hb hts hin_X9 hown hK hP 0 rfl rfl 14 (by decide) (hts (.fieldLink RX9 38 "CryOrderModel" "state" "[I") (by decide +kernel)) (fun _ h9 => h9) rfl dX9_verdict_19 ?_
      refine lv_iload_n hx hb dX9_verdict_22 rfl (lv_at hl 1 rfl) ?_
      refine va_iald hx hb hK hP 1 0 rfl rfl (vp_in_iff.mpr (by omega)) dX9_verdict_23 ?_
      refine lv_topi (fun z_5 ez_5 => ?_)
      refine bz_ne (zx := (z_5).toInt) (tgt := 48) hx hb dX9_verdict_24 (by decide) rfl (fun c_6 => ?_) (fun c_6 => ?_)
      · refine lv_iconst (v := (-1)) hx hb dX9_verdict_48 (by decide) ?_
        refine W.widen (k := 0) (n := 0) (Nat.le_of_ble_eq_true rfl) (Nat.le_of_ble_eq_true rfl) ?_
        have hP9 := hP.sub (ws' := [oC h0 9 [.int now, .int na, .int nsi, .int nti, .int vc, .int vn, .int vt, .ref b1, .ref b2, .ref b3, .ref b4, .ref b5, .ref b6, .ref b7, .ref b8, .ref b9, .ref b10, .ref b11, .ref b12, .ref b13, .ref b14, .ref b15, .ref b16, .ref b17, .ref b18, .int ct, .int cs, .int co, .ref b19, .ref b20, .ref b21, .int nca, .ref b22, .ref b23, .int ntm, .ref b24, .ref b25], aI b8 d8 200 (f8), aI b9 d9 200 (f9), aI b10 d10 200 (f10)]) [0, 1, 2, 3] rfl
        have hD9 := hD.sub (ws' := [oC h0 9 [.int now, .int na, .int nsi, .int nti, .int vc, .int vn, .int vt, .ref b1, .ref b2, .ref b3, .ref b4, .ref b5, .ref b6, .ref b7, .ref b8, .ref b9, .ref b10, .ref b11, .ref b12, .ref b13, .ref b14, .ref b15, .ref b16, .ref b17, .ref b18, .int ct, .int cs, .int co, .ref b19, .ref b20, .ref b21, .int nca, .ref b22, .ref b23, .int ntm, .ref b24, .ref b25], aI b8 d8 200 (f8), aI b9 d9 200 (f9), aI b10 d10 200 (f10)]) [0, 1, 2, 3] (by decide) rfl
        have hK9 := hK.sub (tys' := []) [] rfl
        exact W.iret (v := (-1)) hx hb hr (fun t ht hW => ⟨⟨(-1), (), rfl, trivial, f8, f9, f10, by rw [ht]; exact hP9, va_K.moved hW.alike hK9, hD9⟩, hS.F ht⟩) hS.2.2 dX9_verdict_49
      · refine lv_aload_n hx hb dX9_verdict_27 rfl (lv_at hl 0 rfl) ?_
        refine va_get (D := D) (ci := 9) (v := .ref b9) (C := RX9) (T := TX9) (N := 37) hx hb hts hin_X9 hown hK hP 0 rfl rfl 15 (by decide) (hts (.fieldLink RX9 41 "CryOrderModel" "saidTrue" "[I") (by decide +kernel)) (fun _ h9 => h9) rfl dX9_verdict_28 ?_
        refine lv_iload_n hx hb dX9_verdict_31 rfl (lv_at hl 1 rfl) ?_
        refine va_iald hx hb hK hP 2 1 rfl rfl (vp_in_iff.mpr (by omega)) dX9_verdict_32 ?_
        refine lv_topi (fun z_7 ez_7 => ?_)
        refine lv_aload_n hx hb dX9_verdict_33 rfl (lv_at hl 0 rfl) ?_
        refine va_get (D := D) (ci := 9) (v := .ref b10) (C := RX9) (T := TX9) (N := 37) hx hb hts hin_X9 hown hK hP 0 rfl rfl 16 (by decide) (hts (.fieldLink RX9 44 "CryOrderModel" "saidFalse" "[I") (by decide +kernel)) (fun _ h9 => h9) rfl dX9_verdict_34 ?_
        refine lv_iload_n hx hb dX9_verdict_37 rfl (lv_at hl 1 rfl) ?_
        refine va_iald hx hb hK hP 3 2 rfl rfl (vp_in_iff.mpr (by omega)) dX9_verdict_38 ?_
        refine lv_topi (fun z_8 ez_8 => ?_)
        refine lv_ior hx hb dX9_verdict_39 ?_
        refine lv_topi (fun z_9 ez_9 => ?_)
        refine lv_iload_n hx hb dX9_verdict_40 rfl (lv_at hl 2 rfl) ?_
        refine lv_ishr hx hb dX9_verdict_41 ?_
        refine lv_topi (fun z_10 ez_10 => ?_)
        refine lv_iconst (v := 1) hx hb dX9_verdict_42 (by decide) ?_
        refine lv_iand hx hb dX9_verdict_43 ?_
        refine lv_topi (fun z_11 ez_11 => ?_)
        have tz_11 := an1_toInt ez_11
        refine lv_iconst (v := 1) hx hb dX9_verdict_44 (by decide) ?_
        refine bi_ne (zx := (z_11).toInt) (zy := 1) (tgt := 50) hx hb dX9_verdict_45 (by decide) rfl (by decide) (fun c_12 => ?_) (fun c_12 => ?_)
        · refine lv_iload_n hx hb dX9_verdict_50 rfl (lv_at hl 3 rfl) ?_
          refine bz_eq (zx := (p2).toInt) (tgt := 69) hx hb dX9_verdict_51 (by decide) rfl (fun c_13 => ?_) (fun c_13 => ?_)
          · refine lv_aload_n hx hb dX9_verdict_69 rfl (lv_at hl 0 rfl) ?_
            refine va_get (D := D) (ci := 9) (v := .ref b10) (C := RX9) (T := TX9) (N := 37) hx hb hts hin_X9 hown hK hP 0 rfl rfl 16 (by decide) (hts (.fieldLink RX9 44 "CryOrderModel" "saidFalse" "[I") (by decide +kernel)) (fun _ h9 => h9) rfl dX9_verdict_70 ?_
            refine lv_iload_n hx hb dX9_verdict_73 rfl (lv_at hl 1 rfl) ?_
            refine lv_dup2_11 hx hb dX9_verdict_74 rfl rfl ?_
            refine va_iald hx hb hK hP 3 2 rfl rfl (vp_in_iff.mpr (by omega)) dX9_verdict_75 ?_
            refine lv_topi (fun z_14 ez_14 => ?_)
            have qz_14 : (z_14).toInt = (z_8).toInt := by rw [ez_14, ez_8]
            refine lv_iconst (v := 1) hx hb dX9_verdict_76 (by decide) ?_
            refine lv_iload_n hx hb dX9_verdict_77 rfl (lv_at hl 2 rfl) ?_
            refine lv_ishl hx hb dX9_verdict_78 ?_
            refine lv_topi (fun z_15 ez_15 => ?_)
            refine lv_ior hx hb dX9_verdict_79 ?_
            refine lv_topi (fun z_16 ez_16 => ?_)
            refine va_iast hx hb hK hP hD hS 3 2 rfl rfl (vp_in_iff.mpr (by omega)) dX9_verdict_80 (fun H_17 locs hP hD hS => ?_)
            obtain ⟨g_18, eg_18⟩ : ∃ g : Nat → Int32, g = upd (f10) (p0 : Int32).toNatClampNeg (z_16) := ⟨_, rfl⟩
            have hP : va_P D vwCl [oC h0 9 [.int now, .int na, .int nsi, .int nti, .int vc, .int vn, .int vt, .ref b1, .ref b2, .ref b3, .ref b4, .ref b5, .ref b6, .ref b7, .ref b8, .ref b9, .ref b10, .ref b11, .ref b12, .ref b13, .ref b14, .ref b15, .ref b16, .ref b17, .ref b18, .int ct, .int cs, .int co, .ref b19, .ref b20, .ref b21, .int nca, .ref b22, .ref b23, .int ntm, .ref b24, .ref b25], aI b8 d8 200 (f8), aI b9 d9 200 (f9), aI b10 d10 200 (g_18)] H_17 := by rw [eg_18]; exact hP
            have hD : va_D A [oC h0 9 [.int now, .int na, .int nsi, .int nti, .int vc, .int vn, .int vt, .ref b1, .ref b2, .ref b3, .ref b4, .ref b5, .ref b6, .ref b7, .ref b8, .ref b9, .ref b10, .ref b11, .ref b12, .ref b13, .ref b14, .ref b15, .ref b16, .ref b17, .ref b18, .int ct, .int cs, .int co, .ref b19, .ref b20, .ref b21, .int nca, .ref b22, .ref b23, .int ntm, .ref b24, .ref b25], aI b8 d8 200 (f8), aI b9 d9 200 (f9), aI b10 d10 200 (g_18)] := by rw [eg_18]; exact hD
            refine lv_iload_n hx hb dX9_verdict_81 rfl (lv_at hl 3 rfl) ?_
            refine bz_eq (zx := (p2).toInt) (tgt := 94) hx hb dX9_verdict_82 (by decide) rfl (fun c_19 => ?_) (fun c_19 => ?_)
            · refine lv_aload_n hx hb dX9_verdict_94 rfl (lv_at hl 0 rfl) ?_
              refine va_get (D := D) (ci := 9) (v := .ref b10) (C := RX9) (T := TX9) (N := 37) hx hb hts hin_X9 hown hK hP 0 rfl rfl 16 (by decide) (hts (.fieldLink RX9 44 "CryOrderModel" "saidFalse" "[I") (by decide +kernel)) (fun _ h9 => h9) rfl dX9_verdict_95 ?_
              refine lv_iload_n hx hb dX9_verdict_98 rfl (lv_at hl 1 rfl) ?_
              refine va_iald hx hb hK hP 3 2 rfl rfl (vp_in_iff.mpr (by omega)) dX9_verdict_99 ?_
              refine lv_topi (fun z_20 ez_20 => ?_)
              refine vp_callSi (zrS (As := [.int z_20]) (rest := []) (wc := []) ⟨hx, hb, hml, hown, hts⟩ hN hK hP hD (m_many l D z_20 ) (va_cwS 1 hts gX9_verdict_X9_many rfl rfl rfl (by decide +kernel) ⟨(Nat.le_of_ble_eq_true rfl), (Nat.le_of_ble_eq_true rfl)⟩) [] [] rfl rfl (by decide) rfl hl.1 rfl (Nat.le_of_ble_eq_true rfl) dX9_verdict_100 ⟨(Nat.le_of_ble_eq_true rfl), (Nat.le_of_ble_eq_true rfl)⟩) (fun r_21 h_22 => ?_)
              refine lv_iconst (v := 2) hx hb dX9_verdict_103 (by decide) ?_
              refine bi_ge (zx := (r_21).toInt) (zy := 2) (tgt := 109) hx hb dX9_verdict_104 (by decide) rfl (by decide) (fun c_23 => ?_) (fun c_23 => ?_)
              · refine lv_aload_n hx hb dX9_verdict_109 rfl (lv_at hl 0 rfl) ?_
                refine va_get (D := D) (ci := 9) (v := .ref b8) (C := RX9) (T := TX9) (N := 37) hx hb hts hin_X9 hown hK hP 0 rfl rfl 14 (by decide) (hts (.fieldLink RX9 38 "CryOrderModel" "state" "[I") (by decide +kernel)) (fun _ h9 => h9) rfl dX9_verdict_110 ?_
                refine lv_iload_n hx hb dX9_verdict_113 rfl (lv_at hl 1 rfl) ?_
                refine lv_iload_n hx hb dX9_verdict_114 rfl (lv_at hl 3 rfl) ?_
                refine bz_eq (zx := (p2).toInt) (tgt := 122) hx hb dX9_verdict_115 (by decide) rfl (fun c_24 => ?_) (fun c_24 => ?_)
                · refine lv_iconst (v := 2) hx hb dX9_verdict_122 (by decide) ?_
                  refine va_iast hx hb hK hP hD hS 1 0 rfl rfl (vp_in_iff.mpr (by omega)) dX9_verdict_123 (fun H_25 locs hP hD hS => ?_)
                  obtain ⟨g_26, eg_26⟩ : ∃ g : Nat → Int32, g = upd (f8) (p0 : Int32).toNatClampNeg (2) := ⟨_, rfl⟩
                  have hP : va_P D vwCl [oC h0 9 [.int now, .int na, .int nsi, .int nti, .int vc, .int vn, .int vt, .ref b1, .ref b2, .ref b3, .ref b4, .ref b5, .ref b6, .ref b7, .ref b8, .ref b9, .ref b10, .ref b11, .ref b12, .ref b13, .ref b14, .ref b15, .ref b16, .ref b17, .ref b18, .int ct, .int cs, .int co, .ref b19, .ref b20, .ref b21, .int nca, .ref b22, .ref b23, .int ntm, .ref b24, .ref b25], aI b8 d8 200 (g_26), aI b9 d9 200 (f9), aI b10 d10 200 (g_18)] H_25 := by rw [eg_26]; exact hP
                  have hD : va_D A [oC h0 9 [.int now, .int na, .int nsi, .int nti, .int vc, .int vn, .int vt, .ref b1, .ref b2, .ref b3, .ref b4, .ref b5, .ref b6, .ref b7, .ref b8, .ref b9, .ref b10, .ref b11, .ref b12, .ref b13, .ref b14, .ref b15, .ref b16, .ref b17, .ref b18, .int ct, .int cs, .int co, .ref b19, .ref b20, .ref b21, .int nca, .ref b22, .ref b23, .int ntm, .ref b24, .ref b25], aI b8 d8 200 (g_26), aI b9 d9 200 (f9), aI b10 d10 200 (g_18)] := by rw [eg_26]; exact hD
                  refine lv_iconst (v := 1) hx hb dX9_verdict_124 (by decide) ?_
                  refine W.widen (k := 0) (n := 0) (Nat.le_of_ble_eq_true rfl) (Nat.le_of_ble_eq_true rfl) ?_
                  have hP9 := hP.sub (ws' := [oC h0 9 [.int now, .int na, .int nsi, .int nti, .int vc, .int vn, .int vt, .ref b1, .ref b2, .ref b3, .ref b4, .ref b5, .ref b6, .ref b7, .ref b8, .ref b9, .ref b10, .ref b11, .ref b12, .ref b13, .ref b14, .ref b15, .ref b16, .ref b17, .ref b18, .int ct, .int cs, .int co, .ref b19, .ref b20, .ref b21, .int nca, .ref b22, .ref b23, .int ntm, .ref b24, .ref b25], aI b8 d8 200 (g_26), aI b9 d9 200 (f9), aI b10 d10 200 (g_18)]) [0, 1, 2, 3] rfl
                  have hD9 := hD.sub (ws' := [oC h0 9 [.int now, .int na, .int nsi, .int nti, .int vc, .int vn, .int vt, .ref b1, .ref b2, .ref b3, .ref b4, .ref b5, .ref b6, .ref b7, .ref b8, .ref b9, .ref b10, .ref b11, .ref b12, .ref b13, .ref b14, .ref b15, .ref b16, .ref b17, .ref b18, .int ct, .int cs, .int co, .ref b19, .ref b20, .ref b21, .int nca, .ref b22, .ref b23, .int ntm, .ref b24, .ref b25], aI b8 d8 200 (g_26), aI b9 d9 200 (f9), aI b10 d10 200 (g_18)]) [0, 1, 2, 3] (by decide) rfl
                  have hK9 := hK.sub (tys' := []) [] rfl
                  exact W.iret (v := 1) hx hb hr (fun t ht hW => ⟨⟨1, (), rfl, trivial, g_26, f9, g_18, by rw [ht]; exact hP9, va_K.moved hW.alike hK9, hD9⟩, hS.F ht⟩) hS.2.2 dX9_verdict_125
                · refine lv_iconst (v := 1) hx hb dX9_verdict_118 (by decide) ?_
                  refine lv_goto (tgt := 123) hx hb dX9_verdict_119 (by decide) ?_
                  refine va_iast hx hb hK hP hD hS 1 0 rfl rfl (vp_in_iff.mpr (by omega)) dX9_verdict_123 (fun H_27 locs hP hD hS => ?_)
                  obtain ⟨g_28, eg_28⟩ : ∃ g : Nat → Int32, g = upd (f8) (p0 : Int32).toNatClampNeg (1) := ⟨_, rfl⟩
                  have hP : va_P D vwCl [oC h0 9 [.int now, .int na, .int nsi, .int nti, .int vc, .int vn, .int vt, .ref b1, .ref b2, .ref b3, .ref b4, .ref b5, .ref b6, .ref b7, .ref b8, .ref b9, .ref b10, .ref b11, .ref b12, .ref b13, .ref b14, .ref b15, .ref b16, .ref b17, .ref b18, .int ct, .int cs, .int co, .ref b19, .ref b20, .ref b21, .int nca, .ref b22, .ref b23, .int ntm, .ref b24, .ref b25], aI b8 d8 200 (g_28), aI b9 d9 200 (f9), aI b10 d10 200 (g_18)] H_27 := by rw [eg_28]; exact hP
                  have hD : va_D A [oC h0 9 [.int now, .int na, .int nsi, .int nti, .int vc, .int vn, .int vt, .ref b1, .ref b2, .ref b3, .ref b4, .ref b5, .ref b6, .ref b7, .ref b8, .ref b9, .ref b10, .ref b11, .ref b12, .ref b13, .ref b14, .ref b15, .ref b16, .ref b17, .ref b18, .int ct, .int cs, .int co, .ref b19, .ref b20, .ref b21, .int nca, .ref b22, .ref b23, .int ntm, .ref b24, .ref b25], aI b8 d8 200 (g_28), aI b9 d9 200 (f9), aI b10 d10 200 (g_18)] := by rw [eg_28]; exact hD
                  refine lv_iconst (v := 1) hx hb dX9_verdict_124 (by decide) ?_
                  refine W.widen (k := 0) (n := 0) (Nat.le_of_ble_eq_true rfl) (Nat.le_of_ble_eq_true rfl) ?_
                  have hP9 := hP.sub (ws' := [oC h0 9 [.int now, .int na, .int nsi, .int nti, .int vc, .int vn, .int vt, .ref b1, .ref b2, .ref b3, .ref b4, .ref b5, .ref b6, .ref b7, .ref b8, .ref b9, .ref b10, .ref b11, .ref b12, .ref b13, .ref b14, .ref b15, .ref b16, .ref b17, .ref b18, .int ct, .int cs, .int co, .ref b19, .ref b20, .ref b21, .int nca, .ref b22, .ref b23, .int ntm, .ref b24, .ref b25], aI b8 d8 200 (g_28), aI b9 d9 200 (f9), aI b10 d10 200 (g_18)]) [0, 1, 2, 3] rfl
                  have hD9 := hD.sub (ws' := [oC h0 9 [.int now, .int na, .int nsi, .int nti, .int vc, .int vn, .int vt, .ref b1, .ref b2, .ref b3, .ref b4, .ref b5, .ref b6, .ref b7, .ref b8, .ref b9, .ref b10, .ref b11, .ref b12, .ref b13, .ref b14, .ref b15, .ref b16, .ref b17, .ref b18, .int ct, .int cs, .int co, .ref b19, .ref b20, .ref b21, .int nca, .ref b22, .ref b23, .int ntm, .ref b24, .ref b25], aI b8 d8 200 (g_28), aI b9 d9 200 (f9), aI b10 d10 200 (g_18)]) [0, 1, 2, 3] (by decide) rfl
                  have hK9 := hK.sub (tys' := []) [] rfl
                  exact W.iret (v := 1) hx hb hr (fun t ht hW => ⟨⟨1, (), rfl, trivial, g_28, f9, g_18, by rw [ht]; exact hP9, va_K.moved hW.alike hK9, hD9⟩, hS.F ht⟩) hS.2.2 dX9_verdict_125
              · refine lv_iconst (v := 0) hx hb dX9_verdict_107 (by decide) ?_
                refine W.widen (k := 0) (n := 0) (Nat.le_of_ble_eq_true rfl) (Nat.le_of_ble_eq_true rfl) ?_
                have hP9 := hP.sub (ws' := [oC h0 9 [.int now, .int na, .int nsi, .int nti, .int vc, .int vn, .int vt, .ref b1, .ref b2, .ref b3, .ref b4, .ref b5, .ref b6, .ref b7, .ref b8, .ref b9, .ref b10, .ref b11, .ref b12, .ref b13, .ref b14, .ref b15, .ref b16, .ref b17, .ref b18, .int ct, .int cs, .int co, .ref b19, .ref b20, .ref b21, .int nca, .ref b22, .ref b23, .int ntm, .ref b24, .ref b25], aI b8 d8 200 (f8), aI b9 d9 200 (f9), aI b10 d10 200 (g_18)]) [0, 1, 2, 3] rfl
                have hD9 := hD.sub (ws' := [oC h0 9 [.int now, .int na, .int nsi, .int nti, .int vc, .int vn, .int vt, .ref b1, .ref b2, .ref b3, .ref b4, .ref b5, .ref b6, .ref b7, .ref b8, .ref b9, .ref b10, .ref b11, .ref b12, .ref b13, .ref b14, .ref b15, .ref b16, .ref b17, .ref b18, .int ct, .int cs, .int co, .ref b19, .ref b20, .ref b21, .int nca, .ref b22, .ref b23, .int ntm, .ref b24, .ref b25], aI b8 d8 200 (f8), aI b9 d9 200 (f9), aI b10 d10 200 (g_18)]) [0, 1, 2, 3] (by decide) rfl
                have hK9 := hK.sub (tys' := []) [] rfl
                exact W.iret (v := 0) hx hb hr (fun t ht hW => ⟨⟨0, (), rfl, trivial, f8, f9, g_18, by rw [ht]; exact hP9, va_K.moved hW.alike hK9, hD9⟩, hS.F ht⟩) hS.2.2 dX9_verdict_108
            · refine lv_aload_n hx hb dX9_verdict_85 rfl (lv_at hl 0 rfl) ?_
              refine va_get (D := D) (ci := 9) (v := .ref b9) (C := RX9) (T := TX9) (N := 37) hx hb hts hin_X9 hown hK hP 0 rfl rfl 15 (by decide) (hts (.fieldLink RX9 41 "CryOrderModel" "saidTrue" "[I") (by decide +kernel)) (fun _ h9 => h9) rfl dX9_verdict_86 ?_
              refine lv_iload_n hx hb dX9_verdict_89 rfl (lv_at hl 1 rfl) ?_
              refine va_iald hx hb hK hP 2 1 rfl rfl (vp_in_iff.mpr (by omega)) dX9_verdict_90 ?_
              refine lv_topi (fun z_29 ez_29 => ?_)
              have qz_29 : (z_29).toInt = (z_7).toInt := by rw [ez_29, ez_7]
              refine lv_goto (tgt := 100) hx hb dX9_verdict_91 (by decide) ?_
              refine vp_callSi (zrS (As := [.int z_29]) (rest := []) (wc := []) ⟨hx, hb, hml, hown, hts⟩ hN hK hP hD (m_many l D z_29 ) (va_cwS 1 hts gX9_verdict_X9_many rfl rfl rfl (by decide +kernel) ⟨(Nat.le_of_ble_eq_true rfl), (Nat.le_of_ble_eq_true rfl)⟩) [] [] rfl rfl (by decide) rfl hl.1 rfl (Nat.le_of_ble_eq_true rfl) dX9_verdict_100 ⟨(Nat.le_of_ble_eq_true rfl), (Nat.le_of_ble_eq_true rfl)⟩) (fun r_30 h_31 => ?_)
              refine lv_iconst (v := 2) hx hb dX9_verdict_103 (by decide) ?_
              refine bi_ge (zx := (r_30).toInt) (zy := 2) (tgt := 109) hx hb dX9_verdict_104 (by decide) rfl (by decide) (fun c_32 => ?_) (fun c_32 => ?_)
              · refine lv_aload_n hx hb dX9_verdict_109 rfl (lv_at hl 0 rfl) ?_
                refine va_get (D := D) (ci := 9) (v := .ref b8) (C := RX9) (T := TX9) (N := 37) hx hb hts hin_X9 hown hK hP 0 rfl rfl 14 (by decide) (hts (.fieldLink RX9 38 "CryOrderModel" "state" "[I") (by decide +kernel)) (fun _ h9 => h9) rfl dX9_verdict_110 ?_
                refine lv_iload_n hx hb dX9_verdict_113 rfl (lv_at hl 1 rfl) ?_
                refine lv_iload_n hx hb dX9_verdict_114 rfl (lv_at hl 3 rfl) ?_
                refine bz_eq (zx := (p2).toInt) (tgt := 122) hx hb dX9_verdict_115 (by decide) rfl (fun c_33 => ?_) (fun c_33 => ?_)
                · refine lv_iconst (v := 2) hx hb dX9_verdict_122 (by decide) ?_
                  refine va_iast hx hb hK hP hD hS 1 0 rfl rfl (vp_in_iff.mpr (by omega)) dX9_verdict_123 (fun H_34 locs hP hD hS => ?_)
                  obtain ⟨g_35, eg_35⟩ : ∃ g : Nat → Int32, g = upd (f8) (p0 : Int32).toNatClampNeg (2) := ⟨_, rfl⟩
                  have hP : va_P D vwCl [oC h0 9 [.int now, .int na, .int nsi, .int nti, .int vc, .int vn, .int vt, .ref b1, .ref b2, .ref b3, .ref b4, .ref b5, .ref b6, .ref b7, .ref b8, .ref b9, .ref b10, .ref b11, .ref b12, .ref b13, .ref b14, .ref b15, .ref b16, .ref b17, .ref b18, .int ct, .int cs, .int co, .ref b19, .ref b20, .ref b21, .int nca, .ref b22, .ref b23, .int ntm, .ref b24, .ref b25], aI b8 d8 200 (g_35), aI b9 d9 200 (f9), aI b10 d10 200 (g_18)] H_34 := by rw [eg_35]; exact hP
                  have hD : va_D A [oC h0 9 [.int now, .int na, .int nsi, .int nti, .int vc, .int vn, .int vt, .ref b1, .ref b2, .ref b3, .ref b4, .ref b5, .ref b6, .ref b7, .ref b8, .ref b9, .ref b10, .ref b11, .ref b12, .ref b13, .ref b14, .ref b15, .ref b16, .ref b17, .ref b18, .int ct, .int cs, .int co, .ref b19, .ref b20, .ref b21, .int nca, .ref b22, .ref b23, .int ntm, .ref b24, .ref b25], aI b8 d8 200 (g_35), aI b9 d9 200 (f9), aI b10 d10 200 (g_18)] := by rw [eg_35]; exact hD
                  refine lv_iconst (v := 1) hx hb dX9_verdict_124 (by decide) ?_
                  refine W.widen (k := 0) (n := 0) (Nat.le_of_ble_eq_true rfl) (Nat.le_of_ble_eq_true rfl) ?_
                  have hP9 := hP.sub (ws' := [oC h0 9 [.int now, .int na, .int nsi, .int nti, .int vc, .int vn, .int vt, .ref b1, .ref b2, .ref b3, .ref b4, .ref b5, .ref b6, .ref b7, .ref b8, .ref b9, .ref b10, .ref b11, .ref b12, .ref b13, .ref b14, .ref b15, .ref b16, .ref b17, .ref b18, .int ct, .int cs, .int co, .ref b19, .ref b20, .ref b21, .int nca, .ref b22, .ref b23, .int ntm, .ref b24, .ref b25], aI b8 d8 200 (g_35), aI b9 d9 200 (f9), aI b10 d10 200 (g_18)]) [0, 1, 2, 3] rfl
                  have hD9 := hD.sub (ws' := [oC h0 9 [.int now, .int na, .int nsi, .int nti, .int vc, .int vn, .int vt, .ref b1, .ref b2, .ref b3, .ref b4, .ref b5, .ref b6, .ref b7, .ref b8, .ref b9, .ref b10, .ref b11, .ref b12, .ref b13, .ref b14, .ref b15, .ref b16, .ref b17, .ref b18, .int ct, .int cs, .int co, .ref b19, .ref b20, .ref b21, .int nca, .ref b22, .ref b23, .int ntm, .ref b24, .ref b25], aI b8 d8 200 (g_35), aI b9 d9 200 (f9), aI b10 d10 200 (g_18)]) [0, 1, 2, 3] (by decide) rfl
                  have hK9 := hK.sub (tys' := []) [] rfl
                  exact W.iret (v := 1) hx hb hr (fun t ht hW => ⟨⟨1, (), rfl, trivial, g_35, f9, g_18, by rw [ht]; exact hP9, va_K.moved hW.alike hK9, hD9⟩, hS.F ht⟩) hS.2.2 dX9_verdict_125
                · refine lv_iconst (v := 1) hx hb dX9_verdict_118 (by decide) ?_
                  refine lv_goto (tgt := 123) hx hb dX9_verdict_119 (by decide) ?_
                  refine va_iast hx hb hK hP hD hS 1 0 rfl rfl (vp_in_iff.mpr (by omega)) dX9_verdict_123 (fun H_36 locs hP hD hS => ?_)
                  obtain ⟨g_37, eg_37⟩ : ∃ g : Nat → Int32, g = upd (f8) (p0 : Int32).toNatClampNeg (1) := ⟨_, rfl⟩
                  have hP : va_P D vwCl [oC h0 9 [.int now, .int na, .int nsi, .int nti, .int vc, .int vn, .int vt, .ref b1, .ref b2, .ref b3, .ref b4, .ref b5, .ref b6, .ref b7, .ref b8, .ref b9, .ref b10, .ref b11, .ref b12, .ref b13, .ref b14, .ref b15, .ref b16, .ref b17, .ref b18, .int ct, .int cs, .int co, .ref b19, .ref b20, .ref b21, .int nca, .ref b22, .ref b23, .int ntm, .ref b24, .ref b25], aI b8 d8 200 (g_37), aI b9 d9 200 (f9), aI b10 d10 200 (g_18)] H_36 := by rw [eg_37]; exact hP
                  have hD : va_D A [oC h0 9 [.int now, .int na, .int nsi, .int nti, .int vc, .int vn, .int vt, .ref b1, .ref b2, .ref b3, .ref b4, .ref b5, .ref b6, .ref b7, .ref b8, .ref b9, .ref b10, .ref b11, .ref b12, .ref b13, .ref b14, .ref b15, .ref b16, .ref b17, .ref b18, .int ct, .int cs, .int co, .ref b19, .ref b20, .ref b21, .int nca, .ref b22, .ref b23, .int ntm, .ref b24, .ref b25], aI b8 d8 200 (g_37), aI b9 d9 200 (f9), aI b10 d10 200 (g_18)] := by rw [eg_37]; exact hD
                  refine lv_iconst (v := 1) hx hb dX9_verdict_124 (by decide) ?_
                  refine W.widen (k := 0) (n := 0) (Nat.le_of_ble_eq_true rfl) (Nat.le_of_ble_eq_true rfl) ?_
                  have hP9 := hP.sub (ws' := [oC h0 9 [.int now, .int na, .int nsi, .int nti, .int vc, .int vn, .int vt, .ref b1, .ref b2, .ref b3, .ref b4, .ref b5, .ref b6, .ref b7, .ref b8, .ref b9, .ref b10, .ref b11, .ref b12, .ref b13, .ref b14, .ref b15, .ref b16, .ref b17, .ref b18, .int ct, .int cs, .int co, .ref b19, .ref b20, .ref b21, .int nca, .ref b22, .ref b23, .int ntm, .ref b24, .ref b25], aI b8 d8 200 (g_37), aI b9 d9 200 (f9), aI b10 d10 200 (g_18)]) [0, 1, 2, 3] rfl
                  have hD9 := hD.sub (ws' := [oC h0 9 [.int now, .int na, .int nsi, .int nti, .int vc, .int vn, .int vt, .ref b1, .ref b2, .ref b3, .ref b4, .ref b5, .ref b6, .ref b7, .ref b8, .ref b9, .ref b10, .ref b11, .ref b12, .ref b13, .ref b14, .ref b15, .ref b16, .ref b17, .ref b18, .int ct, .int cs, .int co, .ref b19, .ref b20, .ref b21, .int nca, .ref b22, .ref b23, .int ntm, .ref b24, .ref b25], aI b8 d8 200 (g_37), aI b9 d9 200 (f9), aI b10 d10 200 (g_18)]) [0, 1, 2, 3] (by decide) rfl
                  have hK9 := hK.sub (tys' := []) [] rfl
                  exact W.iret (v := 1) hx hb hr (fun t ht hW => ⟨⟨1, (), rfl, trivial, g_37, f9, g_18, by rw [ht]; exact hP9, va_K.moved hW.alike hK9, hD9⟩, hS.F ht⟩) hS.2.2 dX9_verdict_125
              · refine lv_iconst (v := 0) hx hb dX9_verdict_107 (by decide) ?_
                refine W.widen (k := 0) (n := 0) (Nat.le_of_ble_eq_true rfl) (Nat.le_of_ble_eq_true rfl) ?_
                have hP9 := hP.sub (ws' := [oC h0 9 [.int now, .int na, .int nsi, .int nti, .int vc, .int vn, .int vt, .ref b1, .ref b2, .ref b3, .ref b4, .ref b5, .ref b6, .ref b7, .ref b8, .ref b9, .ref b10, .ref b11, .ref b12, .ref b13, .ref b14, .ref b15, .ref b16, .ref b17, .ref b18, .int ct, .int cs, .int co, .ref b19, .ref b20, .ref b21, .int nca, .ref b22, .ref b23, .int ntm, .ref b24, .ref b25], aI b8 d8 200 (f8), aI b9 d9 200 (f9), aI b10 d10 200 (g_18)]) [0, 1, 2, 3] rfl
                have hD9 := hD.sub (ws' := [oC h0 9 [.int now, .int na, .int nsi, .int nti, .int vc, .int vn, .int vt, .ref b1, .ref b2, .ref b3, .ref b4, .ref b5, .ref b6, .ref b7, .ref b8, .ref b9, .ref b10, .ref b11, .ref b12, .ref b13, .ref b14, .ref b15, .ref b16, .ref b17, .ref b18, .int ct, .int cs, .int co, .ref b19, .ref b20, .ref b21, .int nca, .ref b22, .ref b23, .int ntm, .ref b24, .ref b25], aI b8 d8 200 (f8), aI b9 d9 200 (f9), aI b10 d10 200 (g_18)]) [0, 1, 2, 3] (by decide) rfl
                have hK9 := hK.sub (tys' := []) [] rfl
                exact W.iret (v := 0) hx hb hr (fun t ht hW => ⟨⟨0, (), rfl, trivial, f8, f9, g_18, by rw [ht]; exact hP9, va_K.moved hW.alike hK9, hD9⟩, hS.F ht⟩) hS.2.2 dX9_verdict_108
          · refine lv_aload_n hx hb dX9_verdict_54 rfl (lv_at hl 0 rfl) ?_
            refine va_get (D := D) (ci := 9) (v := .ref b9) (C := RX9) (T := TX9) (N := 37) hx hb hts hin_X9 hown hK hP 0 rfl rfl 15 (by decide) (hts (.fieldLink RX9 41 "CryOrderModel" "saidTrue" "[I") (by decide +kernel)) (fun _ h9 => h9) rfl dX9_verdict_55 ?_
            refine lv_iload_n hx hb dX9_verdict_58 rfl (lv_at hl 1 rfl) ?_
            refine lv_dup2_11 hx hb dX9_verdict_59 rfl rfl ?_
            refine va_iald hx hb hK hP 2 1 rfl rfl (vp_in_iff.mpr (by omega)) dX9_verdict_60 ?_
            refine lv_topi (fun z_38 ez_38 => ?_)
            have qz_38 : (z_38).toInt = (z_7).toInt := by rw [ez_38, ez_7]
            refine lv_iconst (v := 1) hx hb dX9_verdict_61 (by decide) ?_
            refine lv_iload_n hx hb dX9_verdict_62 rfl (lv_at hl 2 rfl) ?_
            refine lv_ishl hx hb dX9_verdict_63 ?_
            refine lv_topi (fun z_39 ez_39 => ?_)
            refine lv_ior hx hb dX9_verdict_64 ?_
            refine lv_topi (fun z_40 ez_40 => ?_)
            refine va_iast hx hb hK hP hD hS 2 1 rfl rfl (vp_in_iff.mpr (by omega)) dX9_verdict_65 (fun H_41 locs hP hD hS => ?_)
            obtain ⟨g_42, eg_42⟩ : ∃ g : Nat → Int32, g = upd (f9) (p0 : Int32).toNatClampNeg (z_40) := ⟨_, rfl⟩
            have hP : va_P D vwCl [oC h0 9 [.int now, .int na, .int nsi, .int nti, .int vc, .int vn, .int vt, .ref b1, .ref b2, .ref b3, .ref b4, .ref b5, .ref b6, .ref b7, .ref b8, .ref b9, .ref b10, .ref b11, .ref b12, .ref b13, .ref b14, .ref b15, .ref b16, .ref b17, .ref b18, .int ct, .int cs, .int co, .ref b19, .ref b20, .ref b21, .int nca, .ref b22, .ref b23, .int ntm, .ref b24, .ref b25], aI b8 d8 200 (f8), aI b9 d9 200 (g_42), aI b10 d10 200 (f10)] H_41 := by rw [eg_42]; exact hP
            have hD : va_D A [oC h0 9 [.int now, .int na, .int nsi, .int nti, .int vc, .int vn, .int vt, .ref b1, .ref b2, .ref b3, .ref b4, .ref b5, .ref b6, .ref b7, .ref b8, .ref b9, .ref b10, .ref b11, .ref b12, .ref b13, .ref b14, .ref b15, .ref b16, .ref b17, .ref b18, .int ct, .int cs, .int co, .ref b19, .ref b20, .ref b21, .int nca, .ref b22, .ref b23, .int ntm, .ref b24, .ref b25], aI b8 d8 200 (f8), aI b9 d9 200 (g_42), aI b10 d10 200 (f10)] := by rw [eg_42]; exact hD
            refine lv_goto (tgt := 81) hx hb dX9_verdict_66 (by decide) ?_
            refine lv_iload_n hx hb dX9_verdict_81 rfl (lv_at hl 3 rfl) ?_
            refine bz_eq (zx := (p2).toInt) (tgt := 94) hx hb dX9_verdict_82 (by decide) rfl (fun c_43 => ?_) (fun c_43 => ?_)
            · refine lv_aload_n hx hb dX9_verdict_94 rfl (lv_at hl 0 rfl) ?_
              refine va_get (D := D) (ci := 9) (v := .ref b10) (C := RX9) (T := TX9) (N := 37) hx hb hts hin_X9 hown hK hP 0 rfl rfl 16 (by decide) (hts (.fieldLink RX9 44 "CryOrderModel" "saidFalse" "[I") (by decide +kernel)) (fun _ h9 => h9) rfl dX9_verdict_95 ?_
              refine lv_iload_n hx hb dX9_verdict_98 rfl (lv_at hl 1 rfl) ?_
              refine va_iald hx hb hK hP 3 2 rfl rfl (vp_in_iff.mpr (by omega)) dX9_verdict_99 ?_
              refine lv_topi (fun z_44 ez_44 => ?_)
              have qz_44 : (z_44).toInt = (z_8).toInt := by rw [ez_44, ez_8]
              refine vp_callSi (zrS (As := [.int z_44]) (rest := []) (wc := []) ⟨hx, hb, hml, hown, hts⟩ hN hK hP hD (m_many l D z_44 ) (va_cwS 1 hts gX9_verdict_X9_many rfl rfl rfl (by decide +kernel) ⟨(Nat.le_of_ble_eq_true rfl), (Nat.le_of_ble_eq_true rfl)⟩) [] [] rfl rfl (by decide) rfl hl.1 rfl (Nat.le_of_ble_eq_true rfl) dX9_verdict_100 ⟨(Nat.le_of_ble_eq_true rfl), (Nat.le_of_ble_eq_true rfl)⟩) (fun r_45 h_46 => ?_)
              refine lv_iconst (v := 2) hx hb dX9_verdict_103 (by decide) ?_
              refine bi_ge (zx := (r_45).toInt) (zy := 2) (tgt := 109) hx hb dX9_verdict_104 (by decide) rfl (by decide) (fun c_47 => ?_) (fun c_47 => ?_)
              · refine lv_aload_n hx hb dX9_verdict_109 rfl (lv_at hl 0 rfl) ?_
                refine va_get (D := D) (ci := 9) (v := .ref b8) (C := RX9) (T := TX9) (N := 37) hx hb hts hin_X9 hown hK hP 0 rfl rfl 14 (by decide) (hts (.fieldLink RX9 38 "CryOrderModel" "state" "[I") (by decide +kernel)) (fun _ h9 => h9) rfl dX9_verdict_110 ?_
                refine lv_iload_n hx hb dX9_verdict_113 rfl (lv_at hl 1 rfl) ?_
                refine lv_iload_n hx hb dX9_verdict_114 rfl (lv_at hl 3 rfl) ?_
                refine bz_eq (zx := (p2).toInt) (tgt := 122) hx hb dX9_verdict_115 (by decide) rfl (fun c_48 => ?_) (fun c_48 => ?_)
                · refine lv_iconst (v := 2) hx hb dX9_verdict_122 (by decide) ?_
                  refine va_iast hx hb hK hP hD hS 1 0 rfl rfl (vp_in_iff.mpr (by omega)) dX9_verdict_123 (fun H_49 locs hP hD hS => ?_)
                  obtain ⟨g_50, eg_50⟩ : ∃ g : Nat → Int32, g = upd (f8) (p0 : Int32).toNatClampNeg (2) := ⟨_, rfl⟩
                  have hP : va_P D vwCl [oC h0 9 [.int now, .int na, .int nsi, .int nti, .int vc, .int vn, .int vt, .ref b1, .ref b2, .ref b3, .ref b4, .ref b5, .ref b6, .ref b7, .ref b8, .ref b9, .ref b10, .ref b11, .ref b12, .ref b13, .ref b14, .ref b15, .ref b16, .ref b17, .ref b18, .int ct, .int cs, .int co, .ref b19, .ref b20, .ref b21, .int nca, .ref b22, .ref b23, .int ntm, .ref b24, .ref b25], aI b8 d8 200 (g_50), aI b9 d9 200 (g_42), aI b10 d10 200 (f10)] H_49 := by rw [eg_50]; exact hP
                  have hD : va_D A [oC h0 9 [.int now, .int na, .int nsi, .int nti, .int vc, .int vn, .int vt, .ref b1, .ref b2, .ref b3, .ref b4, .ref b5, .ref b6, .ref b7, .ref b8, .ref b9, .ref b10, .ref b11, .ref b12, .ref b13, .ref b14, .ref b15, .ref b16, .ref b17, .ref b18, .int ct, .int cs, .int co, .ref b19, .ref b20, .ref b21, .int nca, .ref b22, .ref b23, .int ntm, .ref b24, .ref b25], aI b8 d8 200 (g_50), aI b9 d9 200 (g_42), aI b10 d10 200 (f10)] := by rw [eg_50]; exact hD
                  refine lv_iconst (v := 1) hx hb dX9_verdict_124 (by decide) ?_
                  refine W.widen (k := 0) (n := 0) (Nat.le_of_ble_eq_true rfl) (Nat.le_of_ble_eq_true rfl) ?_
                  have hP9 := hP.sub (ws' := [oC h0 9 [.int now, .int na, .int nsi, .int nti, .int vc, .int vn, .int vt, .ref b1, .ref b2, .ref b3, .ref b4, .ref b5, .ref b6, .ref b7, .ref b8, .ref b9, .ref b10, .ref b11, .ref b12, .ref b13, .ref b14, .ref b15, .ref b16, .ref b17, .ref b18, .int ct, .int cs, .int co, .ref b19, .ref b20, .ref b21, .int nca, .ref b22, .ref b23, .int ntm, .ref b24, .ref b25], aI b8 d8 200 (g_50), aI b9 d9 200 (g_42), aI b10 d10 200 (f10)]) [0, 1, 2, 3] rfl
                  have hD9 := hD.sub (ws' := [oC h0 9 [.int now, .int na, .int nsi, .int nti, .int vc, .int vn, .int vt, .ref b1, .ref b2, .ref b3, .ref b4, .ref b5, .ref b6, .ref b7, .ref b8, .ref b9, .ref b10, .ref b11, .ref b12, .ref b13, .ref b14, .ref b15, .ref b16, .ref b17, .ref b18, .int ct, .int cs, .int co, .ref b19, .ref b20, .ref b21, .int nca, .ref b22, .ref b23, .int ntm, .ref b24, .ref b25], aI b8 d8 200 (g_50), aI b9 d9 200 (g_42), aI b10 d10 200 (f10)]) [0, 1, 2, 3] (by decide) rfl
                  have hK9 := hK.sub (tys' := []) [] rfl
                  exact W.iret (v := 1) hx hb hr (fun t ht hW => ⟨⟨1, (), rfl, trivial, g_50, g_42, f10, by rw [ht]; exact hP9, va_K.moved hW.alike hK9, hD9⟩, hS.F ht⟩) hS.2.2 dX9_verdict_125
                · refine lv_iconst (v := 1) hx hb dX9_verdict_118 (by decide) ?_
                  refine lv_goto (tgt := 123) hx hb dX9_verdict_119 (by decide) ?_
                  refine va_iast hx hb hK hP hD hS 1 0 rfl rfl (vp_in_iff.mpr (by omega)) dX9_verdict_123 (fun H_51 locs hP hD hS => ?_)
                  obtain ⟨g_52, eg_52⟩ : ∃ g : Nat → Int32, g = upd (f8) (p0 : Int32).toNatClampNeg (1) := ⟨_, rfl⟩
                  have hP : va_P D vwCl [oC h0 9 [.int now, .int na, .int nsi, .int nti, .int vc, .int vn, .int vt, .ref b1, .ref b2, .ref b3, .ref b4, .ref b5, .ref b6, .ref b7, .ref b8, .ref b9, .ref b10, .ref b11, .ref b12, .ref b13, .ref b14, .ref b15, .ref b16, .ref b17, .ref b18, .int ct, .int cs, .int co, .ref b19, .ref b20, .ref b21, .int nca, .ref b22, .ref b23, .int ntm, .ref b24, .ref b25], aI b8 d8 200 (g_52), aI b9 d9 200 (g_42), aI b10 d10 200 (f10)] H_51 := by rw [eg_52]; exact hP
                  have hD : va_D A [oC h0 9 [.int now, .int na, .int nsi, .int nti, .int vc, .int vn, .int vt, .ref b1, .ref b2, .ref b3, .ref b4, .ref b5, .ref b6, .ref b7, .ref b8, .ref b9, .ref b10, .ref b11, .ref b12, .ref b13, .ref b14, .ref b15, .ref b16, .ref b17, .ref b18, .int ct, .int cs, .int co, .ref b19, .ref b20, .ref b21, .int nca, .ref b22, .ref b23, .int ntm, .ref b24, .ref b25], aI b8 d8 200 (g_52), aI b9 d9 200 (g_42), aI b10 d10 200 (f10)] := by rw [eg_52]; exact hD
                  refine lv_iconst (v := 1) hx hb dX9_verdict_124 (by decide) ?_
                  refine W.widen (k := 0) (n := 0) (Nat.le_of_ble_eq_true rfl) (Nat.le_of_ble_eq_true rfl) ?_
                  have hP9 := hP.sub (ws' := [oC h0 9 [.int now, .int na, .int nsi, .int nti, .int vc, .int vn, .int vt, .ref b1, .ref b2, .ref b3, .ref b4, .ref b5, .ref b6, .ref b7, .ref b8, .ref b9, .ref b10, .ref b11, .ref b12, .ref b13, .ref b14, .ref b15, .ref b16, .ref b17, .ref b18, .int ct, .int cs, .int co, .ref b19, .ref b20, .ref b21, .int nca, .ref b22, .ref b23, .int ntm, .ref b24, .ref b25], aI b8 d8 200 (g_52), aI b9 d9 200 (g_42), aI b10 d10 200 (f10)]) [0, 1, 2, 3] rfl
                  have hD9 := hD.sub (ws' := [oC h0 9 [.int now, .int na, .int nsi, .int nti, .int vc, .int vn, .int vt, .ref b1, .ref b2, .ref b3, .ref b4, .ref b5, .ref b6, .ref b7, .ref b8, .ref b9, .ref b10, .ref b11, .ref b12, .ref b13, .ref b14, .ref b15, .ref b16, .ref b17, .ref b18, .int ct, .int cs, .int co, .ref b19, .ref b20, .ref b21, .int nca, .ref b22, .ref b23, .int ntm, .ref b24, .ref b25], aI b8 d8 200 (g_52), aI b9 d9 200 (g_42), aI b10 d10 200 (f10)]) [0, 1, 2, 3] (by decide) rfl
                  have hK9 := hK.sub (tys' := []) [] rfl
                  exact W.iret (v := 1) hx hb hr (fun t ht hW => ⟨⟨1, (), rfl, trivial, g_52, g_42, f10, by rw [ht]; exact hP9, va_K.moved hW.alike hK9, hD9⟩, hS.F ht⟩) hS.2.2 dX9_verdict_125
              · refine lv_iconst (v := 0) hx hb dX9_verdict_107 (by decide) ?_
                refine W.widen (k := 0) (n := 0) (Nat.le_of_ble_eq_true rfl) (Nat.le_of_ble_eq_true rfl) ?_
                have hP9 := hP.sub (ws' := [oC h0 9 [.int now, .int na, .int nsi, .int nti, .int vc, .int vn, .int vt, .ref b1, .ref b2, .ref b3, .ref b4, .ref b5, .ref b6, .ref b7, .ref b8, .ref b9, .ref b10, .ref b11, .ref b12, .ref b13, .ref b14, .ref b15, .ref b16, .ref b17, .ref b18, .int ct, .int cs, .int co, .ref b19, .ref b20, .ref b21, .int nca, .ref b22, .ref b23, .int ntm, .ref b24, .ref b25], aI b8 d8 200 (f8), aI b9 d9 200 (g_42), aI b10 d10 200 (f10)]) [0, 1, 2, 3] rfl
                have hD9 := hD.sub (ws' := [oC h0 9 [.int now, .int na, .int nsi, .int nti, .int vc, .int vn, .int vt, .ref b1, .ref b2, .ref b3, .ref b4, .ref b5, .ref b6, .ref b7, .ref b8, .ref b9, .ref b10, .ref b11, .ref b12, .ref b13, .ref b14, .ref b15, .ref b16, .ref b17, .ref b18, .int ct, .int cs, .int co, .ref b19, .ref b20, .ref b21, .int nca, .ref b22, .ref b23, .int ntm, .ref b24, .ref b25], aI b8 d8 200 (f8), aI b9 d9 200 (g_42), aI b10 d10 200 (f10)]) [0, 1, 2, 3] (by decide) rfl
                have hK9 := hK.sub (tys' := []) [] rfl
                exact W.iret (v := 0) hx hb hr (fun t ht hW => ⟨⟨0, (), rfl, trivial, f8, g_42, f10, by rw [ht]; exact hP9, va_K.moved hW.alike hK9, hD9⟩, hS.F ht⟩) hS.2.2 dX9_verdict_108
            · refine lv_aload_n hx hb dX9_verdict_85 rfl (lv_at hl 0 rfl) ?_
              refine va_get (D := D) (ci := 9) (v := .ref b9) (C := RX9) (T := TX9) (N := 37) hx hb hts hin_X9 hown hK hP 0 rfl rfl 15 (by decide) (hts (.fieldLink RX9 41 "CryOrderModel" "saidTrue" "[I") (by decide +kernel)) (fun _ h9 => h9) rfl dX9_verdict_86 ?_
              refine lv_iload_n hx hb dX9_verdict_89 rfl (lv_at hl 1 rfl) ?_
              refine va_iald hx hb hK hP 2 1 rfl rfl (vp_in_iff.mpr (by omega)) dX9_verdict_90 ?_
              refine lv_topi (fun z_53 ez_53 => ?_)
              refine lv_goto (tgt := 100) hx hb dX9_verdict_91 (by decide) ?_
              refine vp_callSi (zrS (As := [.int z_53]) (rest := []) (wc := []) ⟨hx, hb, hml, hown, hts⟩ hN hK hP hD (m_many l D z_53 ) (va_cwS 1 hts gX9_verdict_X9_many rfl rfl rfl (by decide +kernel) ⟨(Nat.le_of_ble_eq_true rfl), (Nat.le_of_ble_eq_true rfl)⟩) [] [] rfl rfl (by decide) rfl hl.1 rfl (Nat.le_of_ble_eq_true rfl) dX9_verdict_100 ⟨(Nat.le_of_ble_eq_true rfl), (Nat.le_of_ble_eq_true rfl)⟩) (fun r_54 h_55 => ?_)
              refine lv_iconst (v := 2) hx hb dX9_verdict_103 (by decide) ?_
              refine bi_ge (zx := (r_54).toInt) (zy := 2) (tgt := 109) hx hb dX9_verdict_104 (by decide) rfl (by decide) (fun c_56 => ?_) (fun c_56 => ?_)
              · refine lv_aload_n hx hb dX9_verdict_109 rfl (lv_at hl 0 rfl) ?_
                refine va_get (D := D) (ci := 9) (v := .ref b8) (C := RX9) (T := TX9) (N := 37) hx hb hts hin_X9 hown hK hP 0 rfl rfl 14 (by decide) (hts (.fieldLink RX9 38 "CryOrderModel" "state" "[I") (by decide +kernel)) (fun _ h9 => h9) rfl dX9_verdict_110 ?_
                refine lv_iload_n hx hb dX9_verdict_113 rfl (lv_at hl 1 rfl) ?_
                refine lv_iload_n hx hb dX9_verdict_114 rfl (lv_at hl 3 rfl) ?_
                refine bz_eq (zx := (p2).toInt) (tgt := 122) hx hb dX9_verdict_115 (by decide) rfl (fun c_57 => ?_) (fun c_57 => ?_)
                · refine lv_iconst (v := 2) hx hb dX9_verdict_122 (by decide) ?_
                  refine va_iast hx hb hK hP hD hS 1 0 rfl rfl (vp_in_iff.mpr (by omega)) dX9_verdict_123 (fun H_58 locs hP hD hS => ?_)
                  obtain ⟨g_59, eg_59⟩ : ∃ g : Nat → Int32, g = upd (f8) (p0 : Int32).toNatClampNeg (2) := ⟨_, rfl⟩
                  have hP : va_P D vwCl [oC h0 9 [.int now, .int na, .int nsi, .int nti, .int vc, .int vn, .int vt, .ref b1, .ref b2, .ref b3, .ref b4, .ref b5, .ref b6, .ref b7, .ref b8, .ref b9, .ref b10, .ref b11, .ref b12, .ref b13, .ref b14, .ref b15, .ref b16, .ref b17, .ref b18, .int ct, .int cs, .int co, .ref b19, .ref b20, .ref b21, .int nca, .ref b22, .ref b23, .int ntm, .ref b24, .ref b25], aI b8 d8 200 (g_59), aI b9 d9 200 (g_42), aI b10 d10 200 (f10)] H_58 := by rw [eg_59]; exact hP
                  have hD : va_D A [oC h0 9 [.int now, .int na, .int nsi, .int nti, .int vc, .int vn, .int vt, .ref b1, .ref b2, .ref b3, .ref b4, .ref b5, .ref b6, .ref b7, .ref b8, .ref b9, .ref b10, .ref b11, .ref b12, .ref b13, .ref b14, .ref b15, .ref b16, .ref b17, .ref b18, .int ct, .int cs, .int co, .ref b19, .ref b20, .ref b21, .int nca, .ref b22, .ref b23, .int ntm, .ref b24, .ref b25], aI b8 d8 200 (g_59), aI b9 d9 200 (g_42), aI b10 d10 200 (f10)] := by rw [eg_59]; exact hD
                  refine lv_iconst (v := 1) hx hb dX9_verdict_124 (by decide) ?_
                  refine W.widen (k := 0) (n := 0) (Nat.le_of_ble_eq_true rfl) (Nat.le_of_ble_eq_true rfl) ?_
                  have hP9 := hP.sub (ws' := [oC h0 9 [.int now, .int na, .int nsi, .int nti, .int vc, .int vn, .int vt, .ref b1, .ref b2, .ref b3, .ref b4, .ref b5, .ref b6, .ref b7, .ref b8, .ref b9, .ref b10, .ref b11, .ref b12, .ref b13, .ref b14, .ref b15, .ref b16, .ref b17, .ref b18, .int ct, .int cs, .int co, .ref b19, .ref b20, .ref b21, .int nca, .ref b22, .ref b23, .int ntm, .ref b24, .ref b25], aI b8 d8 200 (g_59), aI b9 d9 200 (g_42), aI b10 d10 200 (f10)]) [0, 1, 2, 3] rfl
                  have hD9 := hD.sub (ws' := [oC h0 9 [.int now, .int na, .int nsi, .int nti, .int vc, .int vn, .int vt, .ref b1, .ref b2, .ref b3, .ref b4, .ref b5, .ref b6, .ref b7, .ref b8, .ref b9, .ref b10, .ref b11, .ref b12, .ref b13, .ref b14, .ref b15, .ref b16, .ref b17, .ref b18, .int ct, .int cs, .int co, .ref b19, .ref b20, .ref b21, .int nca, .ref b22, .ref b23, .int ntm, .ref b24, .ref b25], aI b8 d8 200 (g_59), aI b9 d9 200 (g_42), aI b10 d10 200 (f10)]) [0, 1, 2, 3] (by decide) rfl
                  have hK9 := hK.sub (tys' := []) [] rfl
                  exact W.iret (v := 1) hx hb hr (fun t ht hW => ⟨⟨1, (), rfl, trivial, g_59, g_42, f10, by rw [ht]; exact hP9, va_K.moved hW.alike hK9, hD9⟩, hS.F ht⟩) hS.2.2 dX9_verdict_125
                · refine lv_iconst (v := 1) hx hb dX9_verdict_118 (by decide) ?_
                  refine lv_goto (tgt := 123) hx hb dX9_verdict_119 (by decide) ?_
                  refine va_iast hx hb hK hP hD hS 1 0 rfl rfl (vp_in_iff.mpr (by omega)) dX9_verdict_123 (fun H_60 locs hP hD hS => ?_)
                  obtain ⟨g_61, eg_61⟩ : ∃ g : Nat → Int32, g = upd (f8) (p0 : Int32).toNatClampNeg (1) := ⟨_, rfl⟩
                  have hP : va_P D vwCl [oC h0 9 [.int now, .int na, .int nsi, .int nti, .int vc, .int vn, .int vt, .ref b1, .ref b2, .ref b3, .ref b4, .ref b5, .ref b6, .ref b7, .ref b8, .ref b9, .ref b10, .ref b11, .ref b12, .ref b13, .ref b14, .ref b15, .ref b16, .ref b17, .ref b18, .int ct, .int cs, .int co, .ref b19, .ref b20, .ref b21, .int nca, .ref b22, .ref b23, .int ntm, .ref b24, .ref b25], aI b8 d8 200 (g_61), aI b9 d9 200 (g_42), aI b10 d10 200 (f10)] H_60 := by rw [eg_61]; exact hP
                  have hD : va_D A [oC h0 9 [.int now, .int na, .int nsi, .int nti, .int vc, .int vn, .int vt, .ref b1, .ref b2, .ref b3, .ref b4, .ref b5, .ref b6, .ref b7, .ref b8, .ref b9, .ref b10, .ref b11, .ref b12, .ref b13, .ref b14, .ref b15, .ref b16, .ref b17, .ref b18, .int ct, .int cs, .int co, .ref b19, .ref b20, .ref b21, .int nca, .ref b22, .ref b23, .int ntm, .ref b24, .ref b25], aI b8 d8 200 (g_61), aI b9 d9 200 (g_42), aI b10 d10 200 (f10)] := by rw [eg_61]; exact hD
                  refine lv_iconst (v := 1) hx hb dX9_verdict_124 (by decide) ?_
                  refine W.widen (k := 0) (n := 0) (Nat.le_of_ble_eq_true rfl) (Nat.le_of_ble_eq_true rfl) ?_
                  have hP9 := hP.sub (ws' := [oC h0 9 [.int now, .int na, .int nsi, .int nti, .int vc, .int vn, .int vt, .ref b1, .ref b2, .ref b3, .ref b4, .ref b5, .ref b6, .ref b7, .ref b8, .ref b9, .ref b10, .ref b11, .ref b12, .ref b13, .ref b14, .ref b15, .ref b16, .ref b17, .ref b18, .int ct, .int cs, .int co, .ref b19, .ref b20, .ref b21, .int nca, .ref b22, .ref b23, .int ntm, .ref b24, .ref b25], aI b8 d8 200 (g_61), aI b9 d9 200 (g_42), aI b10 d10 200 (f10)]) [0, 1, 2, 3] rfl
                  have hD9 := hD.sub (ws' := [oC h0 9 [.int now, .int na, .int nsi, .int nti, .int vc, .int vn, .int vt, .ref b1, .ref b2, .ref b3, .ref b4, .ref b5, .ref b6, .ref b7, .ref b8, .ref b9, .ref b10, .ref b11, .ref b12, .ref b13, .ref b14, .ref b15, .ref b16, .ref b17, .ref b18, .int ct, .int cs, .int co, .ref b19, .ref b20, .ref b21, .int nca, .ref b22, .ref b23, .int ntm, .ref b24, .ref b25], aI b8 d8 200 (g_61), aI b9 d9 200 (g_42), aI b10 d10 200 (f10)]) [0, 1, 2, 3] (by decide) rfl
                  have hK9 := hK.sub (tys' := []) [] rfl
                  exact W.iret (v := 1) hx hb hr (fun t ht hW => ⟨⟨1, (), rfl, trivial, g_61, g_42, f10, by rw [ht]; exact hP9, va_K.moved hW.alike hK9, hD9⟩, hS.F ht⟩) hS.2.2 dX9_verdict_125
              · refine lv_iconst (v := 0) hx hb dX9_verdict_107 (by decide) ?_
                refine W.widen (k := 0) (n := 0) (Nat.le_of_ble_eq_true rfl) (Nat.le_of_ble_eq_true rfl) ?_
                have hP9 := hP.sub (ws' := [oC h0 9 [.int now, .int na, .int nsi, .int nti, .int vc, .int vn, .int vt, .ref b1, .ref b2, .ref b3, .ref b4, .ref b5, .ref b6, .ref b7, .ref b8, .ref b9, .ref b10, .ref b11, .ref b12, .ref b13, .ref b14, .ref b15, .ref b16, .ref b17, .ref b18, .int ct, .int cs, .int co, .ref b19, .ref b20, .ref b21, .int nca, .ref b22, .ref b23, .int ntm, .ref b24, .ref b25], aI b8 d8 200 (f8), aI b9 d9 200 (g_42), aI b10 d10 200 (f10)]) [0, 1, 2, 3] rfl
                have hD9 := hD.sub (ws' := [oC h0 9 [.int now, .int na, .int nsi, .int nti, .int vc, .int vn, .int vt, .ref b1, .ref b2, .ref b3, .ref b4, .ref b5, .ref b6, .ref b7, .ref b8, .ref b9, .ref b10, .ref b11, .ref b12, .ref b13, .ref b14, .ref b15, .ref b16, .ref b17, .ref b18, .int ct, .int cs, .int co, .ref b19, .ref b20, .ref b21, .int nca, .ref b22, .ref b23, .int ntm, .ref b24, .ref b25], aI b8 d8 200 (f8), aI b9 d9 200 (g_42), aI b10 d10 200 (f10)]) [0, 1, 2, 3] (by decide) rfl
                have hK9 := hK.sub (tys' := []) [] rfl
                exact W.iret (v := 0) hx hb hr (fun t ht hW => ⟨⟨0, (), rfl, trivial, f8, g_42, f10, by rw [ht]; exact hP9, va_K.moved hW.alike hK9, hD9⟩, hS.F ht⟩) hS.2.2 dX9_verdict_108
        · refine lv_iconst (v := (-1)) hx hb dX9_verdict_48 (by decide) ?_
          refine W.widen (k := 0) (n := 0) (Nat.le_of_ble_eq_true rfl) (Nat.le_of_ble_eq_true rfl) ?_
          have hP9 := hP.sub (ws' := [oC h0 9 [.int now, .int na, .int nsi, .int nti, .int vc, .int vn, .int vt, .ref b1, .ref b2, .ref b3, .ref b4, .ref b5, .ref b6, .ref b7, .ref b8, .ref b9, .ref b10, .ref b11, .ref b12, .ref b13, .ref b14, .ref b15, .ref b16, .ref b17, .ref b18, .int ct, .int cs, .int co, .ref b19, .ref b20, .ref b21, .int nca, .ref b22, .ref b23, .int ntm, .ref b24, .ref b25], aI b8 d8 200 (f8), aI b9 d9 200 (f9), aI b10 d10 200 (f10)]) [0, 1, 2, 3] rfl
          have hD9 := hD.sub (ws' := [oC h0 9 [.int now, .int na, .int nsi, .int nti, .int vc, .int vn, .int vt, .ref b1, .ref b2, .ref b3, .ref b4, .ref b5, .ref b6, .ref b7, .ref b8, .ref b9, .ref b10, .ref b11, .ref b12, .ref b13, .ref b14, .ref b15, .ref b16, .ref b17, .ref b18, .int ct, .int cs, .int co, .ref b19, .ref b20, .ref b21, .int nca, .ref b22, .ref b23, .int ntm, .ref b24, .ref b25], aI b8 d8 200 (f8), aI b9 d9 200 (f9), aI b10 d10 200 (f10)]) [0, 1, 2, 3] (by decide) rfl
          have hK9 := hK.sub (tys' := []) [] rfl
          exact W.iret (v := (-1)) hx hb hr (fun t ht hW => ⟨⟨(-1), (), rfl, trivial, f8, f9, f10, by rw [ht]; exact hP9, va_K.moved hW.alike hK9, hD9⟩, hS.F ht⟩) hS.2.2 dX9_verdict_49
    · have h_4 : (p1).toInt < 0 ∨ 9 < (p1).toInt := h_4
      refine lv_if_eq (tgt := 48) hx hb dX9_verdict_15 (by decide) (fun _ => ?_) (fun c_ => absurd c_ (by decide))
      refine lv_iconst (v := (-1)) hx hb dX9_verdict_48 (by decide) ?_
      refine W.widen (k := 0) (n := 0) (Nat.le_of_ble_eq_true rfl) (Nat.le_of_ble_eq_true rfl) ?_
      have hP9 := hP.sub (ws' := [oC h0 9 [.int now, .int na, .int nsi, .int nti, .int vc, .int vn, .int vt, .ref b1, .ref b2, .ref b3, .ref b4, .ref b5, .ref b6, .ref b7, .ref b8, .ref b9, .ref b10, .ref b11, .ref b12, .ref b13, .ref b14, .ref b15, .ref b16, .ref b17, .ref b18, .int ct, .int cs, .int co, .ref b19, .ref b20, .ref b21, .int nca, .ref b22, .ref b23, .int ntm, .ref b24, .ref b25], aI b8 d8 200 (f8), aI b9 d9 200 (f9), aI b10 d10 200 (f10)]) [0, 1, 2, 3] rfl
      have hD9 := hD.sub (ws' := [oC h0 9 [.int now, .int na, .int nsi, .int nti, .int vc, .int vn, .int vt, .ref b1, .ref b2, .ref b3, .ref b4, .ref b5, .ref b6, .ref b7, .ref b8, .ref b9, .ref b10, .ref b11, .ref b12, .ref b13, .ref b14, .ref b15, .ref b16, .ref b17, .ref b18, .int ct, .int cs, .int co, .ref b19, .ref b20, .ref b21, .int nca, .ref b22, .ref b23, .int ntm, .ref b24, .ref b25], aI b8 d8 200 (f8), aI b9 d9 200 (f9), aI b10 d10 200 (f10)]) [0, 1, 2, 3] (by decide) rfl
      have hK9 := hK.sub (tys' := []) [] rfl
      exact W.iret (v := (-1)) hx hb hr (fun t ht hW => ⟨⟨(-1), (), rfl, trivial, f8, f9, f10, by rw [ht]; exact hP9, va_K.moved hW.alike hK9, hD9⟩, hS.F ht⟩) hS.2.2 dX9_verdict_49
  · have h_2 : (p0).toInt < 0 ∨ (na).toInt ≤ (p0).toInt := h_2
    refine lv_if_eq (tgt := 48) hx hb dX9_verdict_5 (by decide) (fun _ => ?_) (fun c_ => absurd c_ (by decide))
    refine lv_iconst (v := (-1)) hx hb dX9_verdict_48 (by decide) ?_
    refine W.widen (k := 0) (n := 0) (Nat.le_of_ble_eq_true rfl) (Nat.le_of_ble_eq_true rfl) ?_
    have hP9 := hP.sub (ws' := [oC h0 9 [.int now, .int na, .int nsi, .int nti, .int vc, .int vn, .int vt, .ref b1, .ref b2, .ref b3, .ref b4, .ref b5, .ref b6, .ref b7, .ref b8, .ref b9, .ref b10, .ref b11, .ref b12, .ref b13, .ref b14, .ref b15, .ref b16, .ref b17, .ref b18, .int ct, .int cs, .int co, .ref b19, .ref b20, .ref b21, .int nca, .ref b22, .ref b23, .int ntm, .ref b24, .ref b25], aI b8 d8 200 (f8), aI b9 d9 200 (f9), aI b10 d10 200 (f10)]) [0, 1, 2, 3] rfl
    have hD9 := hD.sub (ws' := [oC h0 9 [.int now, .int na, .int nsi, .int nti, .int vc, .int vn, .int vt, .ref b1, .ref b2, .ref b3, .ref b4, .ref b5, .ref b6, .ref b7, .ref b8, .ref b9, .ref b10, .ref b11, .ref b12, .ref b13, .ref b14, .ref b15, .ref b16, .ref b17, .ref b18, .int ct, .int cs, .int co, .ref b19, .ref b20, .ref b21, .int nca, .ref b22, .ref b23, .int ntm, .ref b24, .ref b25], aI b8 d8 200 (f8), aI b9 d9 200 (f9), aI b10 d10 200 (f10)]) [0, 1, 2, 3] (by decide) rfl
    have hK9 := hK.sub (tys' := []) [] rfl
    exact W.iret (v := (-1)) hx hb hr (fun t ht hW => ⟨⟨(-1), (), rfl, trivial, f8, f9, f10, by rw [ht]; exact hP9, va_K.moved hW.alike hK9, hD9⟩, hS.F ht⟩) hS.2.2 dX9_verdict_49
