set_option maxHeartbeats 4000000 in
set_option maxRecDepth 100000 in
theorem ml_counts {p : Program} {l : Launch} {e : Env} {R : Room} {s : State} {m : MethodId} {args : Array Value} {below : List Frame} {meth : Method} {c : Code} {Q : State → Prop} {A : Nat → Prop} {cells slots : Nat} {D : va_G} {H0 : Heap} {h0 : Nat} {b1 : Nat} {b2 : Nat} {b3 : Nat} {b4 : Nat} {b5 : Nat} {b6 : Nat} {b7 : Nat} {b8 : Nat} {b9 : Nat} {b10 : Nat} {b11 : Nat} {b12 : Nat} {b13 : Nat} {b14 : Nat} {b15 : Nat} {b16 : Nat} {b17 : Nat} {b18 : Nat} {b19 : Nat} {b20 : Nat} {b21 : Nat} {b22 : Nat} {b23 : Nat} {b24 : Nat} {b25 : Nat} {now : Int32} {na : Int32} {nsi : Int32} {nti : Int32} {vc : Int32} {vn : Int32} {vt : Int32} {nca : Int32} {ntm : Int32} {d5 : ClassId} {d8 : ClassId} {f5 : Nat → Int32} {f8 : Nat → Int32} {p0 : Int32} {p1 : Int32} {off : Int32} {j0 : Int32} (hx : p.tables.exec = Jvm.exec) (hb : c.code = cX9_counts) (hts : ∀ w ∈ wsX9_counts, w.before args s = true) (hml : c.maxLocals = 5) (hown : s.vm.findClass RX9 = some m.cls) (hN : Nq s) (hK : va_K D vwCl [(d5, .int), (d8, .int)] s) (hA : ∀ q : Nat, H0.size ≤ q → A q) (hR : 1 ≤ R.frames ∧ 20 ≤ R.locals) (hcs : cells ≤ R.cells ∧ slots ≤ R.slots) (hna : 0 ≤ (na).toInt ∧ (na).toInt ≤ 200) (hj : (0 ≤ (j0).toInt ∧ (j0).toInt < (na).toInt) → f5 (j0).toNatClampNeg = p1) (done_139 : ∀ (k : Int32) (x1 : Int32) (x2 : Int32) (x3 : Int32) (H : Heap) (locs : List Loc) (ls : Array Slot), ((0 ≤ (x1).toInt ∧ (x1).toInt ≤ 200) ∧ (0 ≤ (x2).toInt ∧ (x2).toInt ≤ 200) ∧ (0 ≤ (x3).toInt ∧ (x3).toInt ≤ 200)) → ((0 ≤ (j0).toInt ∧ (j0).toInt < (na).toInt) → 1 ≤ (x2).toInt + (x3).toInt) → va_P D vwCl [oC h0 9 [.int now, .int na, .int nsi, .int nti, .int vc, .int vn, .int vt, .ref b1, .ref b2, .ref b3, .ref b4, .ref b5, .ref b6, .ref b7, .ref b8, .ref b9, .ref b10, .ref b11, .ref b12, .ref b13, .ref b14, .ref b15, .ref b16, .ref b17, .ref b18, .int x1, .int x2, .int x3, .ref b19, .ref b20, .ref b21, .int nca, .ref b22, .ref b23, .int ntm, .ref b24, .ref b25], aI b5 d5 200 (f5), aI b8 d8 200 (f8)] H → va_D A [oC h0 9 [.int now, .int na, .int nsi, .int nti, .int vc, .int vn, .int vt, .ref b1, .ref b2, .ref b3, .ref b4, .ref b5, .ref b6, .ref b7, .ref b8, .ref b9, .ref b10, .ref b11, .ref b12, .ref b13, .ref b14, .ref b15, .ref b16, .ref b17, .ref b18, .int x1, .int x2, .int x3, .ref b19, .ref b20, .ref b21, .int nca, .ref b22, .ref b23, .int ntm, .ref b24, .ref b25], aI b5 d5 200 (f5), aI b8 d8 200 (f8)] → va_S A H0 H locs → lv_has ls 5 [(4, .int k), (3, .int off), (0, .ref h0), (1, .int p0), (2, .int p1)] → W p l e R s m args below meth c H locs cells slots Q (F0 m 139 ls [])) : ∀ (n : Nat), ∀ (k : Int32) (x1 : Int32) (x2 : Int32) (x3 : Int32) (H : Heap) (locs : List Loc) (ls : Array Slot), (0 ≤ (k).toInt ∧ (k).toInt ≤ 200) → ((0 ≤ (x1).toInt ∧ (x1).toInt ≤ (k).toInt) ∧ (0 ≤ (x2).toInt ∧ (x2).toInt ≤ (k).toInt) ∧ (0 ≤ (x3).toInt ∧ (x3).toInt ≤ (k).toInt)) → ((0 ≤ (j0).toInt ∧ (j0).toInt < (na).toInt) → (j0).toInt < (k).toInt → 1 ≤ (x2).toInt + (x3).toInt) → ((200 - (k).toInt).toNat < n) → va_P D vwCl [oC h0 9 [.int now, .int na, .int nsi, .int nti, .int vc, .int vn, .int vt, .ref b1, .ref b2, .ref b3, .ref b4, .ref b5, .ref b6, .ref b7, .ref b8, .ref b9, .ref b10, .ref b11, .ref b12, .ref b13, .ref b14, .ref b15, .ref b16, .ref b17, .ref b18, .int x1, .int x2, .int x3, .ref b19, .ref b20, .ref b21, .int nca, .ref b22, .ref b23, .int ntm, .ref b24, .ref b25], aI b5 d5 200 (f5), aI b8 d8 200 (f8)] H → va_D A [oC h0 9 [.int now, .int na, .int nsi, .int nti, .int vc, .int vn, .int vt, .ref b1, .ref b2, .ref b3, .ref b4, .ref b5, .ref b6, .ref b7, .ref b8, .ref b9, .ref b10, .ref b11, .ref b12, .ref b13, .ref b14, .ref b15, .ref b16, .ref b17, .ref b18, .int x1, .int x2, .int x3, .ref b19, .ref b20, .ref b21, .int nca, .ref b22, .ref b23, .int ntm, .ref b24, .ref b25], aI b5 d5 200 (f5), aI b8 d8 200 (f8)] → va_S A H0 H locs → lv_has ls 5 [(4, .int k), (3, .int off), (0, .ref h0), (1, .int p0), (2, .int p1)] → W p l e R s m args below meth c H locs cells slots Q (F0 m 24 ls []) := by
  have hin_X9 : ∀ w ∈ u_ws RX9 TX9 37, w ∈ wsX9_counts := fun w h => List.mem_cons_of_mem _ (List.mem_append_right _ (h))
  intro n
  induction n with
  | zero => intro k x1 x2 x3 H locs ls hk hxs hgo hmu hP hD hS hl; exact absurd hmu (Nat.not_lt_zero _)
  | succ n ih =>
    intro k x1 x2 x3 H locs ls hk hxs hgo hmu hP hD hS hl
    refine lv_iload hx hb dX9_counts_24 (lv_at hl 0 rfl) ?_
    refine lv_aload_n hx hb dX9_counts_26 rfl (lv_at hl 2 rfl) ?_
    refine va_get (D := D) (ci := 9) (v := .int na) (C := RX9) (T := TX9) (N := 37) hx hb hts hin_X9 hown hK hP 0 rfl rfl 1 (by decide) (hts (.fieldLink RX9 93 "CryOrderModel" "alarms" "I") (List.mem_cons_of_mem _ (List.mem_append_left _ (List.mem_of_getElem? (i := 3) rfl)))) (fun _ h9 => h9) rfl dX9_counts_27 ?_
    refine bi_ge (zx := (k).toInt) (zy := (na).toInt) (tgt := 139) hx hb dX9_counts_30 (by decide) rfl rfl (fun c_1 => ?_) (fun c_1 => ?_)
    · exact done_139 _ _ _ _ _ _ _ (by omega) (by omega) hP hD hS (lv_sub hl [0, 1, 2, 3, 4] rfl)
    · refine lv_aload_n hx hb dX9_counts_33 rfl (lv_at hl 2 rfl) ?_
      refine va_get (D := D) (ci := 9) (v := .ref b5) (C := RX9) (T := TX9) (N := 37) hx hb hts hin_X9 hown hK hP 0 rfl rfl 11 (by decide) (hts (.fieldLink RX9 29 "CryOrderModel" "marks" "[I") (List.mem_cons_of_mem _ (List.mem_append_left _ (List.mem_of_getElem? (i := 4) rfl)))) (fun _ h9 => h9) rfl dX9_counts_34 ?_
      refine lv_iload hx hb dX9_counts_37 (lv_at hl 0 rfl) ?_
      refine va_iald hx hb hK hP 1 0 rfl rfl (vp_in_iff.mpr (by omega)) dX9_counts_39 ?_
      refine lv_topi (fun z_2 ez_2 => ?_)
      refine lv_iload_n hx hb dX9_counts_40 rfl (lv_at hl 1 rfl) ?_
      refine lv_ishr hx hb dX9_counts_41 ?_
      refine lv_topi (fun z_3 ez_3 => ?_)
      refine lv_iload_n hx hb dX9_counts_42 rfl (lv_at hl 4 rfl) ?_
      refine lv_iload_n hx hb dX9_counts_43 rfl (lv_at hl 1 rfl) ?_
      refine lv_ishr hx hb dX9_counts_44 ?_
      refine lv_topi (fun z_4 ez_4 => ?_)
      have hq_j : (0 ≤ (j0).toInt ∧ (j0).toInt < (na).toInt) → (k).toInt = (j0).toInt → (z_3).toInt = (z_4).toInt := fun a q => by rw [ez_3, ez_4, ez_2, Int32.toInt_inj.mp q, hj a]
      refine bi_eq (zx := (z_3).toInt) (zy := (z_4).toInt) (tgt := 51) hx hb dX9_counts_45 (by decide) rfl rfl (fun c_5 => ?_) (fun c_5 => ?_)
      · refine lv_aload_n hx hb dX9_counts_51 rfl (lv_at hl 2 rfl) ?_
        refine lv_dup hx hb dX9_counts_52 rfl ?_
        refine va_get (D := D) (ci := 9) (v := .int x1) (C := RX9) (T := TX9) (N := 37) hx hb hts hin_X9 hown hK hP 0 rfl rfl 25 (by decide) (hts (.fieldLink RX9 131 "CryOrderModel" "trues" "I") (List.mem_cons_of_mem _ (List.mem_append_left _ (List.mem_of_getElem? (i := 0) rfl)))) (fun _ h9 => h9) rfl dX9_counts_53 ?_
        refine lv_aload_n hx hb dX9_counts_56 rfl (lv_at hl 2 rfl) ?_
        refine va_get (D := D) (ci := 9) (v := .ref b8) (C := RX9) (T := TX9) (N := 37) hx hb hts hin_X9 hown hK hP 0 rfl rfl 14 (by decide) (hts (.fieldLink RX9 38 "CryOrderModel" "state" "[I") (List.mem_cons_of_mem _ (List.mem_append_left _ (List.mem_of_getElem? (i := 5) rfl)))) (fun _ h9 => h9) rfl dX9_counts_57 ?_
        refine lv_iload hx hb dX9_counts_60 (lv_at hl 0 rfl) ?_
        refine va_iald hx hb hK hP 2 1 rfl rfl (vp_in_iff.mpr (by omega)) dX9_counts_62 ?_
        refine lv_topi (fun z_6 ez_6 => ?_)
        refine lv_iconst (v := 1) hx hb dX9_counts_63 (by decide) ?_
        refine bi_ne (zx := (z_6).toInt) (zy := 1) (tgt := 71) hx hb dX9_counts_64 (by decide) rfl (by decide) (fun c_7 => ?_) (fun c_7 => ?_)
        · refine lv_iconst (v := 0) hx hb dX9_counts_71 (by decide) ?_
          refine vp_callSi (zrS (As := [.int 0]) (rest := [.int x1, .ref h0]) (wc := []) ⟨hx, hb, hml, hown, hts⟩ hN hK hP hD (m_one0 l D  ) (va_cwS 1 hts gX9_counts_X9_one rfl rfl rfl (by decide +kernel) ⟨Nat.le_trans (m := 1) (Nat.le_of_ble_eq_true rfl) hR.1, Nat.le_trans (m := 20) (Nat.le_of_ble_eq_true rfl) hR.2⟩) [] [] rfl rfl (by decide) rfl hl.1 rfl (Nat.le_of_ble_eq_true rfl) dX9_counts_72 ⟨hcs.1, hcs.2⟩) (fun r_8 h_9 => ?_)
          subst h_9
          refine lv_iadd hx hb dX9_counts_75 ?_
          refine lv_topi (fun z_10 ez_10 => ?_)
          have tz_10 := ad_toInt (zx := (x1).toInt) (zy := 0) ez_10 rfl (by decide)
          refine va_put (D := D) (ci := 9) (v := .int z_10) (ty := .int) (C := RX9) (T := TX9) (N := 37) hx hb hts hin_X9 tyX9 tyX9_ok nmX9 hown hK hP hD hS 0 rfl rfl 25 (by decide) (hts (.fieldLink RX9 131 "CryOrderModel" "trues" "I") (List.mem_cons_of_mem _ (List.mem_append_left _ (List.mem_of_getElem? (i := 0) rfl)))) (fun _ h9 => h9) rfl (by decide +kernel) rfl rfl (Nat.le_of_ble_eq_true rfl) dX9_counts_76 (fun H_11 locs hP hD hS => ?_)
          have hP : va_P D vwCl [oC h0 9 [.int now, .int na, .int nsi, .int nti, .int vc, .int vn, .int vt, .ref b1, .ref b2, .ref b3, .ref b4, .ref b5, .ref b6, .ref b7, .ref b8, .ref b9, .ref b10, .ref b11, .ref b12, .ref b13, .ref b14, .ref b15, .ref b16, .ref b17, .ref b18, .int z_10, .int x2, .int x3, .ref b19, .ref b20, .ref b21, .int nca, .ref b22, .ref b23, .int ntm, .ref b24, .ref b25], aI b5 d5 200 (f5), aI b8 d8 200 (f8)] H_11 := hP
          have hD : va_D A [oC h0 9 [.int now, .int na, .int nsi, .int nti, .int vc, .int vn, .int vt, .ref b1, .ref b2, .ref b3, .ref b4, .ref b5, .ref b6, .ref b7, .ref b8, .ref b9, .ref b10, .ref b11, .ref b12, .ref b13, .ref b14, .ref b15, .ref b16, .ref b17, .ref b18, .int z_10, .int x2, .int x3, .ref b19, .ref b20, .ref b21, .int nca, .ref b22, .ref b23, .int ntm, .ref b24, .ref b25], aI b5 d5 200 (f5), aI b8 d8 200 (f8)] := hD
          refine lv_aload_n hx hb dX9_counts_79 rfl (lv_at hl 2 rfl) ?_
          refine lv_dup hx hb dX9_counts_80 rfl ?_
          refine va_get (D := D) (ci := 9) (v := .int x2) (C := RX9) (T := TX9) (N := 37) hx hb hts hin_X9 hown hK hP 0 rfl rfl 26 (by decide) (hts (.fieldLink RX9 134 "CryOrderModel" "settled" "I") (List.mem_cons_of_mem _ (List.mem_append_left _ (List.mem_of_getElem? (i := 1) rfl)))) (fun _ h9 => h9) rfl dX9_counts_81 ?_
          refine lv_aload_n hx hb dX9_counts_84 rfl (lv_at hl 2 rfl) ?_
          refine va_get (D := D) (ci := 9) (v := .ref b8) (C := RX9) (T := TX9) (N := 37) hx hb hts hin_X9 hown hK hP 0 rfl rfl 14 (by decide) (hts (.fieldLink RX9 38 "CryOrderModel" "state" "[I") (List.mem_cons_of_mem _ (List.mem_append_left _ (List.mem_of_getElem? (i := 5) rfl)))) (fun _ h9 => h9) rfl dX9_counts_85 ?_
          refine lv_iload hx hb dX9_counts_88 (lv_at hl 0 rfl) ?_
          refine va_iald hx hb hK hP 2 1 rfl rfl (vp_in_iff.mpr (by omega)) dX9_counts_90 ?_
          refine lv_topi (fun z_12 ez_12 => ?_)
          have qz_12 : (z_12).toInt = (z_6).toInt := by rw [ez_12, ez_6]
          refine bz_eq (zx := (z_12).toInt) (tgt := 98) hx hb dX9_counts_91 (by decide) rfl (fun c_13 => ?_) (fun c_13 => ?_)
          · refine lv_iconst (v := 0) hx hb dX9_counts_98 (by decide) ?_
            refine vp_callSi (zrS (As := [.int 0]) (rest := [.int x2, .ref h0]) (wc := []) ⟨hx, hb, hml, hown, hts⟩ hN hK hP hD (m_one0 l D  ) (va_cwS 1 hts gX9_counts_X9_one rfl rfl rfl (by decide +kernel) ⟨Nat.le_trans (m := 1) (Nat.le_of_ble_eq_true rfl) hR.1, Nat.le_trans (m := 20) (Nat.le_of_ble_eq_true rfl) hR.2⟩) [] [] rfl rfl (by decide) rfl hl.1 rfl (Nat.le_of_ble_eq_true rfl) dX9_counts_99 ⟨hcs.1, hcs.2⟩) (fun r_14 h_15 => ?_)
            subst h_15
            refine lv_iadd hx hb dX9_counts_102 ?_
            refine lv_topi (fun z_16 ez_16 => ?_)
            have tz_16 := ad_toInt (zx := (x2).toInt) (zy := 0) ez_16 rfl (by decide)
            refine va_put (D := D) (ci := 9) (v := .int z_16) (ty := .int) (C := RX9) (T := TX9) (N := 37) hx hb hts hin_X9 tyX9 tyX9_ok nmX9 hown hK hP hD hS 0 rfl rfl 26 (by decide) (hts (.fieldLink RX9 134 "CryOrderModel" "settled" "I") (List.mem_cons_of_mem _ (List.mem_append_left _ (List.mem_of_getElem? (i := 1) rfl)))) (fun _ h9 => h9) rfl (by decide +kernel) rfl rfl (Nat.le_of_ble_eq_true rfl) dX9_counts_103 (fun H_17 locs hP hD hS => ?_)
            have hP : va_P D vwCl [oC h0 9 [.int now, .int na, .int nsi, .int nti, .int vc, .int vn, .int vt, .ref b1, .ref b2, .ref b3, .ref b4, .ref b5, .ref b6, .ref b7, .ref b8, .ref b9, .ref b10, .ref b11, .ref b12, .ref b13, .ref b14, .ref b15, .ref b16, .ref b17, .ref b18, .int z_10, .int z_16, .int x3, .ref b19, .ref b20, .ref b21, .int nca, .ref b22, .ref b23, .int ntm, .ref b24, .ref b25], aI b5 d5 200 (f5), aI b8 d8 200 (f8)] H_17 := hP
            have hD : va_D A [oC h0 9 [.int now, .int na, .int nsi, .int nti, .int vc, .int vn, .int vt, .ref b1, .ref b2, .ref b3, .ref b4, .ref b5, .ref b6, .ref b7, .ref b8, .ref b9, .ref b10, .ref b11, .ref b12, .ref b13, .ref b14, .ref b15, .ref b16, .ref b17, .ref b18, .int z_10, .int z_16, .int x3, .ref b19, .ref b20, .ref b21, .int nca, .ref b22, .ref b23, .int ntm, .ref b24, .ref b25], aI b5 d5 200 (f5), aI b8 d8 200 (f8)] := hD
            refine lv_aload_n hx hb dX9_counts_106 rfl (lv_at hl 2 rfl) ?_
            refine lv_dup hx hb dX9_counts_107 rfl ?_
            refine va_get (D := D) (ci := 9) (v := .int x3) (C := RX9) (T := TX9) (N := 37) hx hb hts hin_X9 hown hK hP 0 rfl rfl 27 (by decide) (hts (.fieldLink RX9 137 "CryOrderModel" "opens" "I") (List.mem_cons_of_mem _ (List.mem_append_left _ (List.mem_of_getElem? (i := 2) rfl)))) (fun _ h9 => h9) rfl dX9_counts_108 ?_
            refine lv_aload_n hx hb dX9_counts_111 rfl (lv_at hl 2 rfl) ?_
            refine va_get (D := D) (ci := 9) (v := .ref b8) (C := RX9) (T := TX9) (N := 37) hx hb hts hin_X9 hown hK hP 0 rfl rfl 14 (by decide) (hts (.fieldLink RX9 38 "CryOrderModel" "state" "[I") (List.mem_cons_of_mem _ (List.mem_append_left _ (List.mem_of_getElem? (i := 5) rfl)))) (fun _ h9 => h9) rfl dX9_counts_112 ?_
            refine lv_iload hx hb dX9_counts_115 (lv_at hl 0 rfl) ?_
            refine va_iald hx hb hK hP 2 1 rfl rfl (vp_in_iff.mpr (by omega)) dX9_counts_117 ?_
            refine lv_topi (fun z_18 ez_18 => ?_)
            have qz_18 : (z_18).toInt = (z_6).toInt := by rw [ez_18, ez_6]
            refine bz_ne (zx := (z_18).toInt) (tgt := 125) hx hb dX9_counts_118 (by decide) rfl (fun c_19 => ?_) (fun c_19 => ?_)
            · refine lv_iconst (v := 0) hx hb dX9_counts_125 (by decide) ?_
              refine vp_callSi (zrS (As := [.int 0]) (rest := [.int x3, .ref h0]) (wc := []) ⟨hx, hb, hml, hown, hts⟩ hN hK hP hD (m_one0 l D  ) (va_cwS 1 hts gX9_counts_X9_one rfl rfl rfl (by decide +kernel) ⟨Nat.le_trans (m := 1) (Nat.le_of_ble_eq_true rfl) hR.1, Nat.le_trans (m := 20) (Nat.le_of_ble_eq_true rfl) hR.2⟩) [] [] rfl rfl (by decide) rfl hl.1 rfl (Nat.le_of_ble_eq_true rfl) dX9_counts_126 ⟨hcs.1, hcs.2⟩) (fun r_20 h_21 => ?_)
              subst h_21
              refine lv_iadd hx hb dX9_counts_129 ?_
              refine lv_topi (fun z_22 ez_22 => ?_)
              have tz_22 := ad_toInt (zx := (x3).toInt) (zy := 0) ez_22 rfl (by decide)
              refine va_put (D := D) (ci := 9) (v := .int z_22) (ty := .int) (C := RX9) (T := TX9) (N := 37) hx hb hts hin_X9 tyX9 tyX9_ok nmX9 hown hK hP hD hS 0 rfl rfl 27 (by decide) (hts (.fieldLink RX9 137 "CryOrderModel" "opens" "I") (List.mem_cons_of_mem _ (List.mem_append_left _ (List.mem_of_getElem? (i := 2) rfl)))) (fun _ h9 => h9) rfl (by decide +kernel) rfl rfl (Nat.le_of_ble_eq_true rfl) dX9_counts_130 (fun H_23 locs hP hD hS => ?_)
              have hP : va_P D vwCl [oC h0 9 [.int now, .int na, .int nsi, .int nti, .int vc, .int vn, .int vt, .ref b1, .ref b2, .ref b3, .ref b4, .ref b5, .ref b6, .ref b7, .ref b8, .ref b9, .ref b10, .ref b11, .ref b12, .ref b13, .ref b14, .ref b15, .ref b16, .ref b17, .ref b18, .int z_10, .int z_16, .int z_22, .ref b19, .ref b20, .ref b21, .int nca, .ref b22, .ref b23, .int ntm, .ref b24, .ref b25], aI b5 d5 200 (f5), aI b8 d8 200 (f8)] H_23 := hP
              have hD : va_D A [oC h0 9 [.int now, .int na, .int nsi, .int nti, .int vc, .int vn, .int vt, .ref b1, .ref b2, .ref b3, .ref b4, .ref b5, .ref b6, .ref b7, .ref b8, .ref b9, .ref b10, .ref b11, .ref b12, .ref b13, .ref b14, .ref b15, .ref b16, .ref b17, .ref b18, .int z_10, .int z_16, .int z_22, .ref b19, .ref b20, .ref b21, .int nca, .ref b22, .ref b23, .int ntm, .ref b24, .ref b25], aI b5 d5 200 (f5), aI b8 d8 200 (f8)] := hD
              obtain ⟨x_24, ex_24⟩ : ∃ z : Int32, z = k + 1 := ⟨_, rfl⟩
              have tx_24 := ad_toInt (x := k) (y := 1) (z := x_24) (zx := (k).toInt) (zy := 1) ex_24 rfl (by decide)
              refine lv_iinc (v := x_24) (lv' := [(4, .int x_24), (3, .int off), (0, .ref h0), (1, .int p0), (2, .int p1)]) hx hb dX9_counts_133 hl (k := 0) rfl (by rw [ex_24]; rfl) (by decide) rfl (fun ls hl => ?_)
              refine lv_goto (tgt := 24) hx hb dX9_counts_136 (by decide) ?_
              exact ih _ _ _ _ _ _ _ (by first | omega | assumption) (by first | omega | assumption) (by first | omega | assumption) (by omega) hP hD hS (lv_sub hl [0, 1, 2, 3, 4] rfl)
            · refine lv_iconst (v := 1) hx hb dX9_counts_121 (by decide) ?_
              refine lv_goto (tgt := 126) hx hb dX9_counts_122 (by decide) ?_
              refine vp_callSi (zrS (As := [.int 1]) (rest := [.int x3, .ref h0]) (wc := []) ⟨hx, hb, hml, hown, hts⟩ hN hK hP hD (m_one1 l D  ) (va_cwS 1 hts gX9_counts_X9_one rfl rfl rfl (by decide +kernel) ⟨Nat.le_trans (m := 1) (Nat.le_of_ble_eq_true rfl) hR.1, Nat.le_trans (m := 20) (Nat.le_of_ble_eq_true rfl) hR.2⟩) [] [] rfl rfl (by decide) rfl hl.1 rfl (Nat.le_of_ble_eq_true rfl) dX9_counts_126 ⟨hcs.1, hcs.2⟩) (fun r_25 h_26 => ?_)
              subst h_26
              refine lv_iadd hx hb dX9_counts_129 ?_
              refine lv_topi (fun z_27 ez_27 => ?_)
              have tz_27 := ad_toInt (zx := (x3).toInt) (zy := 1) ez_27 rfl (by decide)
              refine va_put (D := D) (ci := 9) (v := .int z_27) (ty := .int) (C := RX9) (T := TX9) (N := 37) hx hb hts hin_X9 tyX9 tyX9_ok nmX9 hown hK hP hD hS 0 rfl rfl 27 (by decide) (hts (.fieldLink RX9 137 "CryOrderModel" "opens" "I") (List.mem_cons_of_mem _ (List.mem_append_left _ (List.mem_of_getElem? (i := 2) rfl)))) (fun _ h9 => h9) rfl (by decide +kernel) rfl rfl (Nat.le_of_ble_eq_true rfl) dX9_counts_130 (fun H_28 locs hP hD hS => ?_)
              have hP : va_P D vwCl [oC h0 9 [.int now, .int na, .int nsi, .int nti, .int vc, .int vn, .int vt, .ref b1, .ref b2, .ref b3, .ref b4, .ref b5, .ref b6, .ref b7, .ref b8, .ref b9, .ref b10, .ref b11, .ref b12, .ref b13, .ref b14, .ref b15, .ref b16, .ref b17, .ref b18, .int z_10, .int z_16, .int z_27, .ref b19, .ref b20, .ref b21, .int nca, .ref b22, .ref b23, .int ntm, .ref b24, .ref b25], aI b5 d5 200 (f5), aI b8 d8 200 (f8)] H_28 := hP
              have hD : va_D A [oC h0 9 [.int now, .int na, .int nsi, .int nti, .int vc, .int vn, .int vt, .ref b1, .ref b2, .ref b3, .ref b4, .ref b5, .ref b6, .ref b7, .ref b8, .ref b9, .ref b10, .ref b11, .ref b12, .ref b13, .ref b14, .ref b15, .ref b16, .ref b17, .ref b18, .int z_10, .int z_16, .int z_27, .ref b19, .ref b20, .ref b21, .int nca, .ref b22, .ref b23, .int ntm, .ref b24, .ref b25], aI b5 d5 200 (f5), aI b8 d8 200 (f8)] := hD
              obtain ⟨x_29, ex_29⟩ : ∃ z : Int32, z = k + 1 := ⟨_, rfl⟩
              have tx_29 := ad_toInt (x := k) (y := 1) (z := x_29) (zx := (k).toInt) (zy := 1) ex_29 rfl (by decide)
              refine lv_iinc (v := x_29) (lv' := [(4, .int x_29), (3, .int off), (0, .ref h0), (1, .int p0), (2, .int p1)]) hx hb dX9_counts_133 hl (k := 0) rfl (by rw [ex_29]; rfl) (by decide) rfl (fun ls hl => ?_)
              refine lv_goto (tgt := 24) hx hb dX9_counts_136 (by decide) ?_
              exact ih _ _ _ _ _ _ _ (by first | omega | assumption) (by first | omega | assumption) (by first | omega | assumption) (by omega) hP hD hS (lv_sub hl [0, 1, 2, 3, 4] rfl)
          · refine lv_iconst (v := 1) hx hb dX9_counts_94 (by decide) ?_
            refine lv_goto (tgt := 99) hx hb dX9_counts_95 (by decide) ?_
            refine vp_callSi (zrS (As := [.int 1]) (rest := [.int x2, .ref h0]) (wc := []) ⟨hx, hb, hml, hown, hts⟩ hN hK hP hD (m_one1 l D  ) (va_cwS 1 hts gX9_counts_X9_one rfl rfl rfl (by decide +kernel) ⟨Nat.le_trans (m := 1) (Nat.le_of_ble_eq_true rfl) hR.1, Nat.le_trans (m := 20) (Nat.le_of_ble_eq_true rfl) hR.2⟩) [] [] rfl rfl (by decide) rfl hl.1 rfl (Nat.le_of_ble_eq_true rfl) dX9_counts_99 ⟨hcs.1, hcs.2⟩) (fun r_30 h_31 => ?_)
            subst h_31
            refine lv_iadd hx hb dX9_counts_102 ?_
            refine lv_topi (fun z_32 ez_32 => ?_)
            have tz_32 := ad_toInt (zx := (x2).toInt) (zy := 1) ez_32 rfl (by decide)
            refine va_put (D := D) (ci := 9) (v := .int z_32) (ty := .int) (C := RX9) (T := TX9) (N := 37) hx hb hts hin_X9 tyX9 tyX9_ok nmX9 hown hK hP hD hS 0 rfl rfl 26 (by decide) (hts (.fieldLink RX9 134 "CryOrderModel" "settled" "I") (List.mem_cons_of_mem _ (List.mem_append_left _ (List.mem_of_getElem? (i := 1) rfl)))) (fun _ h9 => h9) rfl (by decide +kernel) rfl rfl (Nat.le_of_ble_eq_true rfl) dX9_counts_103 (fun H_33 locs hP hD hS => ?_)
            have hP : va_P D vwCl [oC h0 9 [.int now, .int na, .int nsi, .int nti, .int vc, .int vn, .int vt, .ref b1, .ref b2, .ref b3, .ref b4, .ref b5, .ref b6, .ref b7, .ref b8, .ref b9, .ref b10, .ref b11, .ref b12, .ref b13, .ref b14, .ref b15, .ref b16, .ref b17, .ref b18, .int z_10, .int z_32, .int x3, .ref b19, .ref b20, .ref b21, .int nca, .ref b22, .ref b23, .int ntm, .ref b24, .ref b25], aI b5 d5 200 (f5), aI b8 d8 200 (f8)] H_33 := hP
            have hD : va_D A [oC h0 9 [.int now, .int na, .int nsi, .int nti, .int vc, .int vn, .int vt, .ref b1, .ref b2, .ref b3, .ref b4, .ref b5, .ref b6, .ref b7, .ref b8, .ref b9, .ref b10, .ref b11, .ref b12, .ref b13, .ref b14, .ref b15, .ref b16, .ref b17, .ref b18, .int z_10, .int z_32, .int x3, .ref b19, .ref b20, .ref b21, .int nca, .ref b22, .ref b23, .int ntm, .ref b24, .ref b25], aI b5 d5 200 (f5), aI b8 d8 200 (f8)] := hD
            refine lv_aload_n hx hb dX9_counts_106 rfl (lv_at hl 2 rfl) ?_
            refine lv_dup hx hb dX9_counts_107 rfl ?_
            refine va_get (D := D) (ci := 9) (v := .int x3) (C := RX9) (T := TX9) (N := 37) hx hb hts hin_X9 hown hK hP 0 rfl rfl 27 (by decide) (hts (.fieldLink RX9 137 "CryOrderModel" "opens" "I") (List.mem_cons_of_mem _ (List.mem_append_left _ (List.mem_of_getElem? (i := 2) rfl)))) (fun _ h9 => h9) rfl dX9_counts_108 ?_
            refine lv_aload_n hx hb dX9_counts_111 rfl (lv_at hl 2 rfl) ?_
            refine va_get (D := D) (ci := 9) (v := .ref b8) (C := RX9) (T := TX9) (N := 37) hx hb hts hin_X9 hown hK hP 0 rfl rfl 14 (by decide) (hts (.fieldLink RX9 38 "CryOrderModel" "state" "[I") (List.mem_cons_of_mem _ (List.mem_append_left _ (List.mem_of_getElem? (i := 5) rfl)))) (fun _ h9 => h9) rfl dX9_counts_112 ?_
            refine lv_iload hx hb dX9_counts_115 (lv_at hl 0 rfl) ?_
            refine va_iald hx hb hK hP 2 1 rfl rfl (vp_in_iff.mpr (by omega)) dX9_counts_117 ?_
            refine lv_topi (fun z_34 ez_34 => ?_)
            have qz_34 : (z_34).toInt = (z_6).toInt := by rw [ez_34, ez_6]
            refine bz_ne (zx := (z_34).toInt) (tgt := 125) hx hb dX9_counts_118 (by decide) rfl (fun c_35 => ?_) (fun c_35 => ?_)
            · refine lv_iconst (v := 0) hx hb dX9_counts_125 (by decide) ?_
              refine vp_callSi (zrS (As := [.int 0]) (rest := [.int x3, .ref h0]) (wc := []) ⟨hx, hb, hml, hown, hts⟩ hN hK hP hD (m_one0 l D  ) (va_cwS 1 hts gX9_counts_X9_one rfl rfl rfl (by decide +kernel) ⟨Nat.le_trans (m := 1) (Nat.le_of_ble_eq_true rfl) hR.1, Nat.le_trans (m := 20) (Nat.le_of_ble_eq_true rfl) hR.2⟩) [] [] rfl rfl (by decide) rfl hl.1 rfl (Nat.le_of_ble_eq_true rfl) dX9_counts_126 ⟨hcs.1, hcs.2⟩) (fun r_36 h_37 => ?_)
              subst h_37
              refine lv_iadd hx hb dX9_counts_129 ?_
              refine lv_topi (fun z_38 ez_38 => ?_)
              have tz_38 := ad_toInt (zx := (x3).toInt) (zy := 0) ez_38 rfl (by decide)
              refine va_put (D := D) (ci := 9) (v := .int z_38) (ty := .int) (C := RX9) (T := TX9) (N := 37) hx hb hts hin_X9 tyX9 tyX9_ok nmX9 hown hK hP hD hS 0 rfl rfl 27 (by decide) (hts (.fieldLink RX9 137 "CryOrderModel" "opens" "I") (List.mem_cons_of_mem _ (List.mem_append_left _ (List.mem_of_getElem? (i := 2) rfl)))) (fun _ h9 => h9) rfl (by decide +kernel) rfl rfl (Nat.le_of_ble_eq_true rfl) dX9_counts_130 (fun H_39 locs hP hD hS => ?_)
              have hP : va_P D vwCl [oC h0 9 [.int now, .int na, .int nsi, .int nti, .int vc, .int vn, .int vt, .ref b1, .ref b2, .ref b3, .ref b4, .ref b5, .ref b6, .ref b7, .ref b8, .ref b9, .ref b10, .ref b11, .ref b12, .ref b13, .ref b14, .ref b15, .ref b16, .ref b17, .ref b18, .int z_10, .int z_32, .int z_38, .ref b19, .ref b20, .ref b21, .int nca, .ref b22, .ref b23, .int ntm, .ref b24, .ref b25], aI b5 d5 200 (f5), aI b8 d8 200 (f8)] H_39 := hP
              have hD : va_D A [oC h0 9 [.int now, .int na, .int nsi, .int nti, .int vc, .int vn, .int vt, .ref b1, .ref b2, .ref b3, .ref b4, .ref b5, .ref b6, .ref b7, .ref b8, .ref b9, .ref b10, .ref b11, .ref b12, .ref b13, .ref b14, .ref b15, .ref b16, .ref b17, .ref b18, .int z_10, .int z_32, .int z_38, .ref b19, .ref b20, .ref b21, .int nca, .ref b22, .ref b23, .int ntm, .ref b24, .ref b25], aI b5 d5 200 (f5), aI b8 d8 200 (f8)] := hD
              obtain ⟨x_40, ex_40⟩ : ∃ z : Int32, z = k + 1 := ⟨_, rfl⟩
              have tx_40 := ad_toInt (x := k) (y := 1) (z := x_40) (zx := (k).toInt) (zy := 1) ex_40 rfl (by decide)
              refine lv_iinc (v := x_40) (lv' := [(4, .int x_40), (3, .int off), (0, .ref h0), (1, .int p0), (2, .int p1)]) hx hb dX9_counts_133 hl (k := 0) rfl (by rw [ex_40]; rfl) (by decide) rfl (fun ls hl => ?_)
              refine lv_goto (tgt := 24) hx hb dX9_counts_136 (by decide) ?_
              exact ih _ _ _ _ _ _ _ (by first | omega | assumption) (by first | omega | assumption) (by first | omega | assumption) (by omega) hP hD hS (lv_sub hl [0, 1, 2, 3, 4] rfl)
            · refine lv_iconst (v := 1) hx hb dX9_counts_121 (by decide) ?_
              refine lv_goto (tgt := 126) hx hb dX9_counts_122 (by decide) ?_
              refine vp_callSi (zrS (As := [.int 1]) (rest := [.int x3, .ref h0]) (wc := []) ⟨hx, hb, hml, hown, hts⟩ hN hK hP hD (m_one1 l D  ) (va_cwS 1 hts gX9_counts_X9_one rfl rfl rfl (by decide +kernel) ⟨Nat.le_trans (m := 1) (Nat.le_of_ble_eq_true rfl) hR.1, Nat.le_trans (m := 20) (Nat.le_of_ble_eq_true rfl) hR.2⟩) [] [] rfl rfl (by decide) rfl hl.1 rfl (Nat.le_of_ble_eq_true rfl) dX9_counts_126 ⟨hcs.1, hcs.2⟩) (fun r_41 h_42 => ?_)
              subst h_42
              refine lv_iadd hx hb dX9_counts_129 ?_
              refine lv_topi (fun z_43 ez_43 => ?_)
              have tz_43 := ad_toInt (zx := (x3).toInt) (zy := 1) ez_43 rfl (by decide)
              refine va_put (D := D) (ci := 9) (v := .int z_43) (ty := .int) (C := RX9) (T := TX9) (N := 37) hx hb hts hin_X9 tyX9 tyX9_ok nmX9 hown hK hP hD hS 0 rfl rfl 27 (by decide) (hts (.fieldLink RX9 137 "CryOrderModel" "opens" "I") (List.mem_cons_of_mem _ (List.mem_append_left _ (List.mem_of_getElem? (i := 2) rfl)))) (fun _ h9 => h9) rfl (by decide +kernel) rfl rfl (Nat.le_of_ble_eq_true rfl) dX9_counts_130 (fun H_44 locs hP hD hS => ?_)
              have hP : va_P D vwCl [oC h0 9 [.int now, .int na, .int nsi, .int nti, .int vc, .int vn, .int vt, .ref b1, .ref b2, .ref b3, .ref b4, .ref b5, .ref b6, .ref b7, .ref b8, .ref b9, .ref b10, .ref b11, .ref b12, .ref b13, .ref b14, .ref b15, .ref b16, .ref b17, .ref b18, .int z_10, .int z_32, .int z_43, .ref b19, .ref b20, .ref b21, .int nca, .ref b22, .ref b23, .int ntm, .ref b24, .ref b25], aI b5 d5 200 (f5), aI b8 d8 200 (f8)] H_44 := hP
              have hD : va_D A [oC h0 9 [.int now, .int na, .int nsi, .int nti, .int vc, .int vn, .int vt, .ref b1, .ref b2, .ref b3, .ref b4, .ref b5, .ref b6, .ref b7, .ref b8, .ref b9, .ref b10, .ref b11, .ref b12, .ref b13, .ref b14, .ref b15, .ref b16, .ref b17, .ref b18, .int z_10, .int z_32, .int z_43, .ref b19, .ref b20, .ref b21, .int nca, .ref b22, .ref b23, .int ntm, .ref b24, .ref b25], aI b5 d5 200 (f5), aI b8 d8 200 (f8)] := hD
              obtain ⟨x_45, ex_45⟩ : ∃ z : Int32, z = k + 1 := ⟨_, rfl⟩
              have tx_45 := ad_toInt (x := k) (y := 1) (z := x_45) (zx := (k).toInt) (zy := 1) ex_45 rfl (by decide)
              refine lv_iinc (v := x_45) (lv' := [(4, .int x_45), (3, .int off), (0, .ref h0), (1, .int p0), (2, .int p1)]) hx hb dX9_counts_133 hl (k := 0) rfl (by rw [ex_45]; rfl) (by decide) rfl (fun ls hl => ?_)
              refine lv_goto (tgt := 24) hx hb dX9_counts_136 (by decide) ?_
              exact ih _ _ _ _ _ _ _ (by first | omega | assumption) (by first | omega | assumption) (by first | omega | assumption) (by omega) hP hD hS (lv_sub hl [0, 1, 2, 3, 4] rfl)
        · refine lv_iconst (v := 1) hx hb dX9_counts_67 (by decide) ?_
          refine lv_goto (tgt := 72) hx hb dX9_counts_68 (by decide) ?_
          refine vp_callSi (zrS (As := [.int 1]) (rest := [.int x1, .ref h0]) (wc := []) ⟨hx, hb, hml, hown, hts⟩ hN hK hP hD (m_one1 l D  ) (va_cwS 1 hts gX9_counts_X9_one rfl rfl rfl (by decide +kernel) ⟨Nat.le_trans (m := 1) (Nat.le_of_ble_eq_true rfl) hR.1, Nat.le_trans (m := 20) (Nat.le_of_ble_eq_true rfl) hR.2⟩) [] [] rfl rfl (by decide) rfl hl.1 rfl (Nat.le_of_ble_eq_true rfl) dX9_counts_72 ⟨hcs.1, hcs.2⟩) (fun r_46 h_47 => ?_)
          subst h_47
          refine lv_iadd hx hb dX9_counts_75 ?_
          refine lv_topi (fun z_48 ez_48 => ?_)
          have tz_48 := ad_toInt (zx := (x1).toInt) (zy := 1) ez_48 rfl (by decide)
          refine va_put (D := D) (ci := 9) (v := .int z_48) (ty := .int) (C := RX9) (T := TX9) (N := 37) hx hb hts hin_X9 tyX9 tyX9_ok nmX9 hown hK hP hD hS 0 rfl rfl 25 (by decide) (hts (.fieldLink RX9 131 "CryOrderModel" "trues" "I") (List.mem_cons_of_mem _ (List.mem_append_left _ (List.mem_of_getElem? (i := 0) rfl)))) (fun _ h9 => h9) rfl (by decide +kernel) rfl rfl (Nat.le_of_ble_eq_true rfl) dX9_counts_76 (fun H_49 locs hP hD hS => ?_)
          have hP : va_P D vwCl [oC h0 9 [.int now, .int na, .int nsi, .int nti, .int vc, .int vn, .int vt, .ref b1, .ref b2, .ref b3, .ref b4, .ref b5, .ref b6, .ref b7, .ref b8, .ref b9, .ref b10, .ref b11, .ref b12, .ref b13, .ref b14, .ref b15, .ref b16, .ref b17, .ref b18, .int z_48, .int x2, .int x3, .ref b19, .ref b20, .ref b21, .int nca, .ref b22, .ref b23, .int ntm, .ref b24, .ref b25], aI b5 d5 200 (f5), aI b8 d8 200 (f8)] H_49 := hP
          have hD : va_D A [oC h0 9 [.int now, .int na, .int nsi, .int nti, .int vc, .int vn, .int vt, .ref b1, .ref b2, .ref b3, .ref b4, .ref b5, .ref b6, .ref b7, .ref b8, .ref b9, .ref b10, .ref b11, .ref b12, .ref b13, .ref b14, .ref b15, .ref b16, .ref b17, .ref b18, .int z_48, .int x2, .int x3, .ref b19, .ref b20, .ref b21, .int nca, .ref b22, .ref b23, .int ntm, .ref b24, .ref b25], aI b5 d5 200 (f5), aI b8 d8 200 (f8)] := hD
          refine lv_aload_n hx hb dX9_counts_79 rfl (lv_at hl 2 rfl) ?_
          refine lv_dup hx hb dX9_counts_80 rfl ?_
          refine va_get (D := D) (ci := 9) (v := .int x2) (C := RX9) (T := TX9) (N := 37) hx hb hts hin_X9 hown hK hP 0 rfl rfl 26 (by decide) (hts (.fieldLink RX9 134 "CryOrderModel" "settled" "I") (List.mem_cons_of_mem _ (List.mem_append_left _ (List.mem_of_getElem? (i := 1) rfl)))) (fun _ h9 => h9) rfl dX9_counts_81 ?_
          refine lv_aload_n hx hb dX9_counts_84 rfl (lv_at hl 2 rfl) ?_
          refine va_get (D := D) (ci := 9) (v := .ref b8) (C := RX9) (T := TX9) (N := 37) hx hb hts hin_X9 hown hK hP 0 rfl rfl 14 (by decide) (hts (.fieldLink RX9 38 "CryOrderModel" "state" "[I") (List.mem_cons_of_mem _ (List.mem_append_left _ (List.mem_of_getElem? (i := 5) rfl)))) (fun _ h9 => h9) rfl dX9_counts_85 ?_
          refine lv_iload hx hb dX9_counts_88 (lv_at hl 0 rfl) ?_
          refine va_iald hx hb hK hP 2 1 rfl rfl (vp_in_iff.mpr (by omega)) dX9_counts_90 ?_
          refine lv_topi (fun z_50 ez_50 => ?_)
          have qz_50 : (z_50).toInt = (z_6).toInt := by rw [ez_50, ez_6]
          refine bz_eq (zx := (z_50).toInt) (tgt := 98) hx hb dX9_counts_91 (by decide) rfl (fun c_51 => ?_) (fun c_51 => ?_)
          · refine lv_iconst (v := 0) hx hb dX9_counts_98 (by decide) ?_
            refine vp_callSi (zrS (As := [.int 0]) (rest := [.int x2, .ref h0]) (wc := []) ⟨hx, hb, hml, hown, hts⟩ hN hK hP hD (m_one0 l D  ) (va_cwS 1 hts gX9_counts_X9_one rfl rfl rfl (by decide +kernel) ⟨Nat.le_trans (m := 1) (Nat.le_of_ble_eq_true rfl) hR.1, Nat.le_trans (m := 20) (Nat.le_of_ble_eq_true rfl) hR.2⟩) [] [] rfl rfl (by decide) rfl hl.1 rfl (Nat.le_of_ble_eq_true rfl) dX9_counts_99 ⟨hcs.1, hcs.2⟩) (fun r_52 h_53 => ?_)
            subst h_53
            refine lv_iadd hx hb dX9_counts_102 ?_
            refine lv_topi (fun z_54 ez_54 => ?_)
            have tz_54 := ad_toInt (zx := (x2).toInt) (zy := 0) ez_54 rfl (by decide)
            refine va_put (D := D) (ci := 9) (v := .int z_54) (ty := .int) (C := RX9) (T := TX9) (N := 37) hx hb hts hin_X9 tyX9 tyX9_ok nmX9 hown hK hP hD hS 0 rfl rfl 26 (by decide) (hts (.fieldLink RX9 134 "CryOrderModel" "settled" "I") (List.mem_cons_of_mem _ (List.mem_append_left _ (List.mem_of_getElem? (i := 1) rfl)))) (fun _ h9 => h9) rfl (by decide +kernel) rfl rfl (Nat.le_of_ble_eq_true rfl) dX9_counts_103 (fun H_55 locs hP hD hS => ?_)
            have hP : va_P D vwCl [oC h0 9 [.int now, .int na, .int nsi, .int nti, .int vc, .int vn, .int vt, .ref b1, .ref b2, .ref b3, .ref b4, .ref b5, .ref b6, .ref b7, .ref b8, .ref b9, .ref b10, .ref b11, .ref b12, .ref b13, .ref b14, .ref b15, .ref b16, .ref b17, .ref b18, .int z_48, .int z_54, .int x3, .ref b19, .ref b20, .ref b21, .int nca, .ref b22, .ref b23, .int ntm, .ref b24, .ref b25], aI b5 d5 200 (f5), aI b8 d8 200 (f8)] H_55 := hP
            have hD : va_D A [oC h0 9 [.int now, .int na, .int nsi, .int nti, .int vc, .int vn, .int vt, .ref b1, .ref b2, .ref b3, .ref b4, .ref b5, .ref b6, .ref b7, .ref b8, .ref b9, .ref b10, .ref b11, .ref b12, .ref b13, .ref b14, .ref b15, .ref b16, .ref b17, .ref b18, .int z_48, .int z_54, .int x3, .ref b19, .ref b20, .ref b21, .int nca, .ref b22, .ref b23, .int ntm, .ref b24, .ref b25], aI b5 d5 200 (f5), aI b8 d8 200 (f8)] := hD
            refine lv_aload_n hx hb dX9_counts_106 rfl (lv_at hl 2 rfl) ?_
            refine lv_dup hx hb dX9_counts_107 rfl ?_
            refine va_get (D := D) (ci := 9) (v := .int x3) (C := RX9) (T := TX9) (N := 37) hx hb hts hin_X9 hown hK hP 0 rfl rfl 27 (by decide) (hts (.fieldLink RX9 137 "CryOrderModel" "opens" "I") (List.mem_cons_of_mem _ (List.mem_append_left _ (List.mem_of_getElem? (i := 2) rfl)))) (fun _ h9 => h9) rfl dX9_counts_108 ?_
            refine lv_aload_n hx hb dX9_counts_111 rfl (lv_at hl 2 rfl) ?_
            refine va_get (D := D) (ci := 9) (v := .ref b8) (C := RX9) (T := TX9) (N := 37) hx hb hts hin_X9 hown hK hP 0 rfl rfl 14 (by decide) (hts (.fieldLink RX9 38 "CryOrderModel" "state" "[I") (List.mem_cons_of_mem _ (List.mem_append_left _ (List.mem_of_getElem? (i := 5) rfl)))) (fun _ h9 => h9) rfl dX9_counts_112 ?_
            refine lv_iload hx hb dX9_counts_115 (lv_at hl 0 rfl) ?_
            refine va_iald hx hb hK hP 2 1 rfl rfl (vp_in_iff.mpr (by omega)) dX9_counts_117 ?_
            refine lv_topi (fun z_56 ez_56 => ?_)
            have qz_56 : (z_56).toInt = (z_6).toInt := by rw [ez_56, ez_6]
            refine bz_ne (zx := (z_56).toInt) (tgt := 125) hx hb dX9_counts_118 (by decide) rfl (fun c_57 => ?_) (fun c_57 => ?_)
            · refine lv_iconst (v := 0) hx hb dX9_counts_125 (by decide) ?_
              refine vp_callSi (zrS (As := [.int 0]) (rest := [.int x3, .ref h0]) (wc := []) ⟨hx, hb, hml, hown, hts⟩ hN hK hP hD (m_one0 l D  ) (va_cwS 1 hts gX9_counts_X9_one rfl rfl rfl (by decide +kernel) ⟨Nat.le_trans (m := 1) (Nat.le_of_ble_eq_true rfl) hR.1, Nat.le_trans (m := 20) (Nat.le_of_ble_eq_true rfl) hR.2⟩) [] [] rfl rfl (by decide) rfl hl.1 rfl (Nat.le_of_ble_eq_true rfl) dX9_counts_126 ⟨hcs.1, hcs.2⟩) (fun r_58 h_59 => ?_)
              subst h_59
              refine lv_iadd hx hb dX9_counts_129 ?_
              refine lv_topi (fun z_60 ez_60 => ?_)
              have tz_60 := ad_toInt (zx := (x3).toInt) (zy := 0) ez_60 rfl (by decide)
              refine va_put (D := D) (ci := 9) (v := .int z_60) (ty := .int) (C := RX9) (T := TX9) (N := 37) hx hb hts hin_X9 tyX9 tyX9_ok nmX9 hown hK hP hD hS 0 rfl rfl 27 (by decide) (hts (.fieldLink RX9 137 "CryOrderModel" "opens" "I") (List.mem_cons_of_mem _ (List.mem_append_left _ (List.mem_of_getElem? (i := 2) rfl)))) (fun _ h9 => h9) rfl (by decide +kernel) rfl rfl (Nat.le_of_ble_eq_true rfl) dX9_counts_130 (fun H_61 locs hP hD hS => ?_)
              have hP : va_P D vwCl [oC h0 9 [.int now, .int na, .int nsi, .int nti, .int vc, .int vn, .int vt, .ref b1, .ref b2, .ref b3, .ref b4, .ref b5, .ref b6, .ref b7, .ref b8, .ref b9, .ref b10, .ref b11, .ref b12, .ref b13, .ref b14, .ref b15, .ref b16, .ref b17, .ref b18, .int z_48, .int z_54, .int z_60, .ref b19, .ref b20, .ref b21, .int nca, .ref b22, .ref b23, .int ntm, .ref b24, .ref b25], aI b5 d5 200 (f5), aI b8 d8 200 (f8)] H_61 := hP
              have hD : va_D A [oC h0 9 [.int now, .int na, .int nsi, .int nti, .int vc, .int vn, .int vt, .ref b1, .ref b2, .ref b3, .ref b4, .ref b5, .ref b6, .ref b7, .ref b8, .ref b9, .ref b10, .ref b11, .ref b12, .ref b13, .ref b14, .ref b15, .ref b16, .ref b17, .ref b18, .int z_48, .int z_54, .int z_60, .ref b19, .ref b20, .ref b21, .int nca, .ref b22, .ref b23, .int ntm, .ref b24, .ref b25], aI b5 d5 200 (f5), aI b8 d8 200 (f8)] := hD
              obtain ⟨x_62, ex_62⟩ : ∃ z : Int32, z = k + 1 := ⟨_, rfl⟩
              have tx_62 := ad_toInt (x := k) (y := 1) (z := x_62) (zx := (k).toInt) (zy := 1) ex_62 rfl (by decide)
              refine lv_iinc (v := x_62) (lv' := [(4, .int x_62), (3, .int off), (0, .ref h0), (1, .int p0), (2, .int p1)]) hx hb dX9_counts_133 hl (k := 0) rfl (by rw [ex_62]; rfl) (by decide) rfl (fun ls hl => ?_)
              refine lv_goto (tgt := 24) hx hb dX9_counts_136 (by decide) ?_
              exact ih _ _ _ _ _ _ _ (by first | omega | assumption) (by first | omega | assumption) (by first | omega | assumption) (by omega) hP hD hS (lv_sub hl [0, 1, 2, 3, 4] rfl)
            · refine lv_iconst (v := 1) hx hb dX9_counts_121 (by decide) ?_
              refine lv_goto (tgt := 126) hx hb dX9_counts_122 (by decide) ?_
              refine vp_callSi (zrS (As := [.int 1]) (rest := [.int x3, .ref h0]) (wc := []) ⟨hx, hb, hml, hown, hts⟩ hN hK hP hD (m_one1 l D  ) (va_cwS 1 hts gX9_counts_X9_one rfl rfl rfl (by decide +kernel) ⟨Nat.le_trans (m := 1) (Nat.le_of_ble_eq_true rfl) hR.1, Nat.le_trans (m := 20) (Nat.le_of_ble_eq_true rfl) hR.2⟩) [] [] rfl rfl (by decide) rfl hl.1 rfl (Nat.le_of_ble_eq_true rfl) dX9_counts_126 ⟨hcs.1, hcs.2⟩) (fun r_63 h_64 => ?_)
              subst h_64
              refine lv_iadd hx hb dX9_counts_129 ?_
              refine lv_topi (fun z_65 ez_65 => ?_)
              have tz_65 := ad_toInt (zx := (x3).toInt) (zy := 1) ez_65 rfl (by decide)
              refine va_put (D := D) (ci := 9) (v := .int z_65) (ty := .int) (C := RX9) (T := TX9) (N := 37) hx hb hts hin_X9 tyX9 tyX9_ok nmX9 hown hK hP hD hS 0 rfl rfl 27 (by decide) (hts (.fieldLink RX9 137 "CryOrderModel" "opens" "I") (List.mem_cons_of_mem _ (List.mem_append_left _ (List.mem_of_getElem? (i := 2) rfl)))) (fun _ h9 => h9) rfl (by decide +kernel) rfl rfl (Nat.le_of_ble_eq_true rfl) dX9_counts_130 (fun H_66 locs hP hD hS => ?_)
              have hP : va_P D vwCl [oC h0 9 [.int now, .int na, .int nsi, .int nti, .int vc, .int vn, .int vt, .ref b1, .ref b2, .ref b3, .ref b4, .ref b5, .ref b6, .ref b7, .ref b8, .ref b9, .ref b10, .ref b11, .ref b12, .ref b13, .ref b14, .ref b15, .ref b16, .ref b17, .ref b18, .int z_48, .int z_54, .int z_65, .ref b19, .ref b20, .ref b21, .int nca, .ref b22, .ref b23, .int ntm, .ref b24, .ref b25], aI b5 d5 200 (f5), aI b8 d8 200 (f8)] H_66 := hP
              have hD : va_D A [oC h0 9 [.int now, .int na, .int nsi, .int nti, .int vc, .int vn, .int vt, .ref b1, .ref b2, .ref b3, .ref b4, .ref b5, .ref b6, .ref b7, .ref b8, .ref b9, .ref b10, .ref b11, .ref b12, .ref b13, .ref b14, .ref b15, .ref b16, .ref b17, .ref b18, .int z_48, .int z_54, .int z_65, .ref b19, .ref b20, .ref b21, .int nca, .ref b22, .ref b23, .int ntm, .ref b24, .ref b25], aI b5 d5 200 (f5), aI b8 d8 200 (f8)] := hD
              obtain ⟨x_67, ex_67⟩ : ∃ z : Int32, z = k + 1 := ⟨_, rfl⟩
              have tx_67 := ad_toInt (x := k) (y := 1) (z := x_67) (zx := (k).toInt) (zy := 1) ex_67 rfl (by decide)
              refine lv_iinc (v := x_67) (lv' := [(4, .int x_67), (3, .int off), (0, .ref h0), (1, .int p0), (2, .int p1)]) hx hb dX9_counts_133 hl (k := 0) rfl (by rw [ex_67]; rfl) (by decide) rfl (fun ls hl => ?_)
              refine lv_goto (tgt := 24) hx hb dX9_counts_136 (by decide) ?_
              exact ih _ _ _ _ _ _ _ (by first | omega | assumption) (by first | omega | assumption) (by first | omega | assumption) (by omega) hP hD hS (lv_sub hl [0, 1, 2, 3, 4] rfl)
          · refine lv_iconst (v := 1) hx hb dX9_counts_94 (by decide) ?_
            refine lv_goto (tgt := 99) hx hb dX9_counts_95 (by decide) ?_
            refine vp_callSi (zrS (As := [.int 1]) (rest := [.int x2, .ref h0]) (wc := []) ⟨hx, hb, hml, hown, hts⟩ hN hK hP hD (m_one1 l D  ) (va_cwS 1 hts gX9_counts_X9_one rfl rfl rfl (by decide +kernel) ⟨Nat.le_trans (m := 1) (Nat.le_of_ble_eq_true rfl) hR.1, Nat.le_trans (m := 20) (Nat.le_of_ble_eq_true rfl) hR.2⟩) [] [] rfl rfl (by decide) rfl hl.1 rfl (Nat.le_of_ble_eq_true rfl) dX9_counts_99 ⟨hcs.1, hcs.2⟩) (fun r_68 h_69 => ?_)
            subst h_69
            refine lv_iadd hx hb dX9_counts_102 ?_
            refine lv_topi (fun z_70 ez_70 => ?_)
            have tz_70 := ad_toInt (zx := (x2).toInt) (zy := 1) ez_70 rfl (by decide)
            refine va_put (D := D) (ci := 9) (v := .int z_70) (ty := .int) (C := RX9) (T := TX9) (N := 37) hx hb hts hin_X9 tyX9 tyX9_ok nmX9 hown hK hP hD hS 0 rfl rfl 26 (by decide) (hts (.fieldLink RX9 134 "CryOrderModel" "settled" "I") (List.mem_cons_of_mem _ (List.mem_append_left _ (List.mem_of_getElem? (i := 1) rfl)))) (fun _ h9 => h9) rfl (by decide +kernel) rfl rfl (Nat.le_of_ble_eq_true rfl) dX9_counts_103 (fun H_71 locs hP hD hS => ?_)
            have hP : va_P D vwCl [oC h0 9 [.int now, .int na, .int nsi, .int nti, .int vc, .int vn, .int vt, .ref b1, .ref b2, .ref b3, .ref b4, .ref b5, .ref b6, .ref b7, .ref b8, .ref b9, .ref b10, .ref b11, .ref b12, .ref b13, .ref b14, .ref b15, .ref b16, .ref b17, .ref b18, .int z_48, .int z_70, .int x3, .ref b19, .ref b20, .ref b21, .int nca, .ref b22, .ref b23, .int ntm, .ref b24, .ref b25], aI b5 d5 200 (f5), aI b8 d8 200 (f8)] H_71 := hP
            have hD : va_D A [oC h0 9 [.int now, .int na, .int nsi, .int nti, .int vc, .int vn, .int vt, .ref b1, .ref b2, .ref b3, .ref b4, .ref b5, .ref b6, .ref b7, .ref b8, .ref b9, .ref b10, .ref b11, .ref b12, .ref b13, .ref b14, .ref b15, .ref b16, .ref b17, .ref b18, .int z_48, .int z_70, .int x3, .ref b19, .ref b20, .ref b21, .int nca, .ref b22, .ref b23, .int ntm, .ref b24, .ref b25], aI b5 d5 200 (f5), aI b8 d8 200 (f8)] := hD
            refine lv_aload_n hx hb dX9_counts_106 rfl (lv_at hl 2 rfl) ?_
            refine lv_dup hx hb dX9_counts_107 rfl ?_
            refine va_get (D := D) (ci := 9) (v := .int x3) (C := RX9) (T := TX9) (N := 37) hx hb hts hin_X9 hown hK hP 0 rfl rfl 27 (by decide) (hts (.fieldLink RX9 137 "CryOrderModel" "opens" "I") (List.mem_cons_of_mem _ (List.mem_append_left _ (List.mem_of_getElem? (i := 2) rfl)))) (fun _ h9 => h9) rfl dX9_counts_108 ?_
            refine lv_aload_n hx hb dX9_counts_111 rfl (lv_at hl 2 rfl) ?_
            refine va_get (D := D) (ci := 9) (v := .ref b8) (C := RX9) (T := TX9) (N := 37) hx hb hts hin_X9 hown hK hP 0 rfl rfl 14 (by decide) (hts (.fieldLink RX9 38 "CryOrderModel" "state" "[I") (List.mem_cons_of_mem _ (List.mem_append_left _ (List.mem_of_getElem? (i := 5) rfl)))) (fun _ h9 => h9) rfl dX9_counts_112 ?_
            refine lv_iload hx hb dX9_counts_115 (lv_at hl 0 rfl) ?_
            refine va_iald hx hb hK hP 2 1 rfl rfl (vp_in_iff.mpr (by omega)) dX9_counts_117 ?_
            refine lv_topi (fun z_72 ez_72 => ?_)
            have qz_72 : (z_72).toInt = (z_6).toInt := by rw [ez_72, ez_6]
            refine bz_ne (zx := (z_72).toInt) (tgt := 125) hx hb dX9_counts_118 (by decide) rfl (fun c_73 => ?_) (fun c_73 => ?_)
            · refine lv_iconst (v := 0) hx hb dX9_counts_125 (by decide) ?_
              refine vp_callSi (zrS (As := [.int 0]) (rest := [.int x3, .ref h0]) (wc := []) ⟨hx, hb, hml, hown, hts⟩ hN hK hP hD (m_one0 l D  ) (va_cwS 1 hts gX9_counts_X9_one rfl rfl rfl (by decide +kernel) ⟨Nat.le_trans (m := 1) (Nat.le_of_ble_eq_true rfl) hR.1, Nat.le_trans (m := 20) (Nat.le_of_ble_eq_true rfl) hR.2⟩) [] [] rfl rfl (by decide) rfl hl.1 rfl (Nat.le_of_ble_eq_true rfl) dX9_counts_126 ⟨hcs.1, hcs.2⟩) (fun r_74 h_75 => ?_)
              subst h_75
              refine lv_iadd hx hb dX9_counts_129 ?_
              refine lv_topi (fun z_76 ez_76 => ?_)
              have tz_76 := ad_toInt (zx := (x3).toInt) (zy := 0) ez_76 rfl (by decide)
              refine va_put (D := D) (ci := 9) (v := .int z_76) (ty := .int) (C := RX9) (T := TX9) (N := 37) hx hb hts hin_X9 tyX9 tyX9_ok nmX9 hown hK hP hD hS 0 rfl rfl 27 (by decide) (hts (.fieldLink RX9 137 "CryOrderModel" "opens" "I") (List.mem_cons_of_mem _ (List.mem_append_left _ (List.mem_of_getElem? (i := 2) rfl)))) (fun _ h9 => h9) rfl (by decide +kernel) rfl rfl (Nat.le_of_ble_eq_true rfl) dX9_counts_130 (fun H_77 locs hP hD hS => ?_)
              have hP : va_P D vwCl [oC h0 9 [.int now, .int na, .int nsi, .int nti, .int vc, .int vn, .int vt, .ref b1, .ref b2, .ref b3, .ref b4, .ref b5, .ref b6, .ref b7, .ref b8, .ref b9, .ref b10, .ref b11, .ref b12, .ref b13, .ref b14, .ref b15, .ref b16, .ref b17, .ref b18, .int z_48, .int z_70, .int z_76, .ref b19, .ref b20, .ref b21, .int nca, .ref b22, .ref b23, .int ntm, .ref b24, .ref b25], aI b5 d5 200 (f5), aI b8 d8 200 (f8)] H_77 := hP
              have hD : va_D A [oC h0 9 [.int now, .int na, .int nsi, .int nti, .int vc, .int vn, .int vt, .ref b1, .ref b2, .ref b3, .ref b4, .ref b5, .ref b6, .ref b7, .ref b8, .ref b9, .ref b10, .ref b11, .ref b12, .ref b13, .ref b14, .ref b15, .ref b16, .ref b17, .ref b18, .int z_48, .int z_70, .int z_76, .ref b19, .ref b20, .ref b21, .int nca, .ref b22, .ref b23, .int ntm, .ref b24, .ref b25], aI b5 d5 200 (f5), aI b8 d8 200 (f8)] := hD
              obtain ⟨x_78, ex_78⟩ : ∃ z : Int32, z = k + 1 := ⟨_, rfl⟩
              have tx_78 := ad_toInt (x := k) (y := 1) (z := x_78) (zx := (k).toInt) (zy := 1) ex_78 rfl (by decide)
              refine lv_iinc (v := x_78) (lv' := [(4, .int x_78), (3, .int off), (0, .ref h0), (1, .int p0), (2, .int p1)]) hx hb dX9_counts_133 hl (k := 0) rfl (by rw [ex_78]; rfl) (by decide) rfl (fun ls hl => ?_)
              refine lv_goto (tgt := 24) hx hb dX9_counts_136 (by decide) ?_
              exact ih _ _ _ _ _ _ _ (by first | omega | assumption) (by first | omega | assumption) (by first | omega | assumption) (by omega) hP hD hS (lv_sub hl [0, 1, 2, 3, 4] rfl)
            · refine lv_iconst (v := 1) hx hb dX9_counts_121 (by decide) ?_
              refine lv_goto (tgt := 126) hx hb dX9_counts_122 (by decide) ?_
              refine vp_callSi (zrS (As := [.int 1]) (rest := [.int x3, .ref h0]) (wc := []) ⟨hx, hb, hml, hown, hts⟩ hN hK hP hD (m_one1 l D  ) (va_cwS 1 hts gX9_counts_X9_one rfl rfl rfl (by decide +kernel) ⟨Nat.le_trans (m := 1) (Nat.le_of_ble_eq_true rfl) hR.1, Nat.le_trans (m := 20) (Nat.le_of_ble_eq_true rfl) hR.2⟩) [] [] rfl rfl (by decide) rfl hl.1 rfl (Nat.le_of_ble_eq_true rfl) dX9_counts_126 ⟨hcs.1, hcs.2⟩) (fun r_79 h_80 => ?_)
              subst h_80
              refine lv_iadd hx hb dX9_counts_129 ?_
              refine lv_topi (fun z_81 ez_81 => ?_)
              have tz_81 := ad_toInt (zx := (x3).toInt) (zy := 1) ez_81 rfl (by decide)
              refine va_put (D := D) (ci := 9) (v := .int z_81) (ty := .int) (C := RX9) (T := TX9) (N := 37) hx hb hts hin_X9 tyX9 tyX9_ok nmX9 hown hK hP hD hS 0 rfl rfl 27 (by decide) (hts (.fieldLink RX9 137 "CryOrderModel" "opens" "I") (List.mem_cons_of_mem _ (List.mem_append_left _ (List.mem_of_getElem? (i := 2) rfl)))) (fun _ h9 => h9) rfl (by decide +kernel) rfl rfl (Nat.le_of_ble_eq_true rfl) dX9_counts_130 (fun H_82 locs hP hD hS => ?_)
              have hP : va_P D vwCl [oC h0 9 [.int now, .int na, .int nsi, .int nti, .int vc, .int vn, .int vt, .ref b1, .ref b2, .ref b3, .ref b4, .ref b5, .ref b6, .ref b7, .ref b8, .ref b9, .ref b10, .ref b11, .ref b12, .ref b13, .ref b14, .ref b15, .ref b16, .ref b17, .ref b18, .int z_48, .int z_70, .int z_81, .ref b19, .ref b20, .ref b21, .int nca, .ref b22, .ref b23, .int ntm, .ref b24, .ref b25], aI b5 d5 200 (f5), aI b8 d8 200 (f8)] H_82 := hP
              have hD : va_D A [oC h0 9 [.int now, .int na, .int nsi, .int nti, .int vc, .int vn, .int vt, .ref b1, .ref b2, .ref b3, .ref b4, .ref b5, .ref b6, .ref b7, .ref b8, .ref b9, .ref b10, .ref b11, .ref b12, .ref b13, .ref b14, .ref b15, .ref b16, .ref b17, .ref b18, .int z_48, .int z_70, .int z_81, .ref b19, .ref b20, .ref b21, .int nca, .ref b22, .ref b23, .int ntm, .ref b24, .ref b25], aI b5 d5 200 (f5), aI b8 d8 200 (f8)] := hD
              obtain ⟨x_83, ex_83⟩ : ∃ z : Int32, z = k + 1 := ⟨_, rfl⟩
              have tx_83 := ad_toInt (x := k) (y := 1) (z := x_83) (zx := (k).toInt) (zy := 1) ex_83 rfl (by decide)
              refine lv_iinc (v := x_83) (lv' := [(4, .int x_83), (3, .int off), (0, .ref h0), (1, .int p0), (2, .int p1)]) hx hb dX9_counts_133 hl (k := 0) rfl (by rw [ex_83]; rfl) (by decide) rfl (fun ls hl => ?_)
              refine lv_goto (tgt := 24) hx hb dX9_counts_136 (by decide) ?_
              exact ih _ _ _ _ _ _ _ (by first | omega | assumption) (by first | omega | assumption) (by first | omega | assumption) (by omega) hP hD hS (lv_sub hl [0, 1, 2, 3, 4] rfl)
      · refine lv_goto (tgt := 133) hx hb dX9_counts_48 (by decide) ?_
        obtain ⟨x_84, ex_84⟩ : ∃ z : Int32, z = k + 1 := ⟨_, rfl⟩
        have tx_84 := ad_toInt (x := k) (y := 1) (z := x_84) (zx := (k).toInt) (zy := 1) ex_84 rfl (by decide)
        refine lv_iinc (v := x_84) (lv' := [(4, .int x_84), (3, .int off), (0, .ref h0), (1, .int p0), (2, .int p1)]) hx hb dX9_counts_133 hl (k := 0) rfl (by rw [ex_84]; rfl) (by decide) rfl (fun ls hl => ?_)
        refine lv_goto (tgt := 24) hx hb dX9_counts_136 (by decide) ?_
        exact ih _ _ _ _ _ _ _ (by first | omega | assumption) (by first | omega | assumption) (by first | omega | assumption) (by omega) hP hD hS (lv_sub hl [0, 1, 2, 3, 4] rfl)
