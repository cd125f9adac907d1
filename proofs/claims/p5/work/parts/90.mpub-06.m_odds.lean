set_option maxHeartbeats 4000000 in
set_option maxRecDepth 100000 in
theorem m_odds (l : Launch) (D : va_G) (sz : Nat) (h0 : Nat) (b1 : Nat) (b2 : Nat) (b3 : Nat) (b4 : Nat) (b5 : Nat) (b6 : Nat) (b7 : Nat) (b8 : Nat) (b9 : Nat) (b10 : Nat) (b11 : Nat) (b12 : Nat) (b13 : Nat) (b14 : Nat) (b15 : Nat) (b16 : Nat) (b17 : Nat) (b18 : Nat) (b19 : Nat) (b20 : Nat) (b21 : Nat) (b22 : Nat) (b23 : Nat) (b24 : Nat) (b25 : Nat) (now : Int32) (na : Int32) (nsi : Int32) (nti : Int32) (vc : Int32) (vn : Int32) (vt : Int32) (ct : Int32) (cs : Int32) (co : Int32) (nca : Int32) (ntm : Int32) (d5 : ClassId) (d8 : ClassId) (f5 : Nat → Int32) (f8 : Nat → Int32) (p0 : Int32) (p1 : Int32) (hna : 0 ≤ (na).toInt ∧ (na).toInt ≤ 200) : Met l yX9_odds wsX9_odds ({ frames := 3, cells := 0, slots := 0, locals := 66 }) (va_Pc [.ref h0, .int p0, .int p1] (wz sz D [(d5, .int), (d8, .int)] [oC h0 9 [.int now, .int na, .int nsi, .int nti, .int vc, .int vn, .int vt, .ref b1, .ref b2, .ref b3, .ref b4, .ref b5, .ref b6, .ref b7, .ref b8, .ref b9, .ref b10, .ref b11, .ref b12, .ref b13, .ref b14, .ref b15, .ref b16, .ref b17, .ref b18, .int ct, .int cs, .int co, .ref b19, .ref b20, .ref b21, .int nca, .ref b22, .ref b23, .int ntm, .ref b24, .ref b25], aI b5 d5 200 (f5), aI b8 d8 200 (f8)])) (va_Qi (fun (r : Int32) (_ : Unit) => True) (fun _ t => ∃ (x1 : Int32), ∃ (x2 : Int32), ∃ (x3 : Int32), wp D [] (va_A [oC h0 9 [.int now, .int na, .int nsi, .int nti, .int vc, .int vn, .int vt, .ref b1, .ref b2, .ref b3, .ref b4, .ref b5, .ref b6, .ref b7, .ref b8, .ref b9, .ref b10, .ref b11, .ref b12, .ref b13, .ref b14, .ref b15, .ref b16, .ref b17, .ref b18, .int ct, .int cs, .int co, .ref b19, .ref b20, .ref b21, .int nca, .ref b22, .ref b23, .int ntm, .ref b24, .ref b25], aI b5 d5 200 (f5), aI b8 d8 200 (f8)] sz) [oC h0 9 [.int now, .int na, .int nsi, .int nti, .int vc, .int vn, .int vt, .ref b1, .ref b2, .ref b3, .ref b4, .ref b5, .ref b6, .ref b7, .ref b8, .ref b9, .ref b10, .ref b11, .ref b12, .ref b13, .ref b14, .ref b15, .ref b16, .ref b17, .ref b18, .int x1, .int x2, .int x3, .ref b19, .ref b20, .ref b21, .int nca, .ref b22, .ref b23, .int ntm, .ref b24, .ref b25], aI b5 d5 200 (f5), aI b8 d8 200 (f8)] t) (va_A [oC h0 9 [.int now, .int na, .int nsi, .int nti, .int vc, .int vn, .int vt, .ref b1, .ref b2, .ref b3, .ref b4, .ref b5, .ref b6, .ref b7, .ref b8, .ref b9, .ref b10, .ref b11, .ref b12, .ref b13, .ref b14, .ref b15, .ref b16, .ref b17, .ref b18, .int ct, .int cs, .int co, .ref b19, .ref b20, .ref b21, .int nca, .ref b22, .ref b23, .int ntm, .ref b24, .ref b25], aI b5 d5 200 (f5), aI b8 d8 200 (f8)] sz)) 0 0 (va_A [oC h0 9 [.int now, .int na, .int nsi, .int nti, .int vc, .int vn, .int vt, .ref b1, .ref b2, .ref b3, .ref b4, .ref b5, .ref b6, .ref b7, .ref b8, .ref b9, .ref b10, .ref b11, .ref b12, .ref b13, .ref b14, .ref b15, .ref b16, .ref b17, .ref b18, .int ct, .int cs, .int co, .ref b19, .ref b20, .ref b21, .int nca, .ref b22, .ref b23, .int ntm, .ref b24, .ref b25], aI b5 d5 200 (f5), aI b8 d8 200 (f8)] sz) := by
  refine Met.ofW (cc := cX9_odds) (maxL := 8) (ret := (some .int)) (by decide) rfl ?_
  intro p e s m args below meth c s₁ B hml hv
  obtain ⟨rfl, hsz, hP, hK, hD0, hN⟩ := hv
  have hx := B.exec
  have hb := B.bytes
  have hr := B.returns
  have hts := atoms_spec (ws := wsX9_odds) B.pre
  have hown : s.vm.findClass RX9 = some m.cls := findClass_of_methodNamed B.named
  have hlocks := B.notSynchronized
  subst hsz
  have hD := hD0.self (sz := s.heap.size)
  generalize hAe : va_A [oC h0 9 [.int now, .int na, .int nsi, .int nti, .int vc, .int vn, .int vt, .ref b1, .ref b2, .ref b3, .ref b4, .ref b5, .ref b6, .ref b7, .ref b8, .ref b9, .ref b10, .ref b11, .ref b12, .ref b13, .ref b14, .ref b15, .ref b16, .ref b17, .ref b18, .int ct, .int cs, .int co, .ref b19, .ref b20, .ref b21, .int nca, .ref b22, .ref b23, .int ntm, .ref b24, .ref b25], aI b5 d5 200 (f5), aI b8 d8 200 (f8)] s.heap.size = A at hD ⊢
  have hA : ∀ q : Nat, s.heap.size ≤ q → A q := fun q h => by rw [← hAe]; exact Or.inr h
  have hS : va_S A s.heap s.heap [] := va_S.rf
  have hin_X9 : ∀ w ∈ u_ws RX9 TX9 37, w ∈ wsX9_odds := fun w h => List.mem_cons_of_mem _ (List.mem_append_right _ (h))
  have hl := lv_entry ([.ref h0, .int p0, .int p1]) (n := 8) (Nat.le_of_ble_eq_true rfl)
  rw [lg_entry_eq]
  generalize (lg_sl ([.ref h0, .int p0, .int p1]) ++ List.replicate (8 - (lg_sl ([.ref h0, .int p0, .int p1])).length) Slot.unset).toArray = ls at hl ⊢
  have hl : lv_has ls 8 [(0, .ref h0), (1, .int p0), (2, .int p1)] := hl
  refine lv_aload_n hx hb dX9_odds_0 rfl (lv_at hl 0 rfl) ?_
  refine lv_iload_n hx hb dX9_odds_1 rfl (lv_at hl 1 rfl) ?_
  refine vp_callSi (zrV (As := [.int p0]) (rest := []) (wc := [oC h0 9 [.int now, .int na, .int nsi, .int nti, .int vc, .int vn, .int vt, .ref b1, .ref b2, .ref b3, .ref b4, .ref b5, .ref b6, .ref b7, .ref b8, .ref b9, .ref b10, .ref b11, .ref b12, .ref b13, .ref b14, .ref b15, .ref b16, .ref b17, .ref b18, .int ct, .int cs, .int co, .ref b19, .ref b20, .ref b21, .int nca, .ref b22, .ref b23, .int ntm, .ref b24, .ref b25]]) ⟨hx, hb, hml, hown, hts⟩ hN hK hP hD (m_isAlarm l D h0 b1 b2 b3 b4 b5 b6 b7 b8 b9 b10 b11 b12 b13 b14 b15 b16 b17 b18 b19 b20 b21 b22 b23 b24 b25 now na nsi nti vc vn vt ct cs co nca ntm p0 (by first | omega | assumption)) (cwV 1 hts gX9_odds_X9_isAlarm rfl rfl rfl (by decide +kernel) ⟨(Nat.le_of_ble_eq_true rfl), (Nat.le_of_ble_eq_true rfl)⟩) [] [0] rfl rfl (by decide) 9 0 rfl rfl rfl hl.1 rfl (Nat.le_of_ble_eq_true rfl) dX9_odds_2 ⟨(Nat.le_of_ble_eq_true rfl), (Nat.le_of_ble_eq_true rfl)⟩) (fun r_1 h_2 => ?_)
  rcases h_2 with ⟨h_2, rfl⟩ | ⟨h_2, rfl⟩
  · have h_2 : 0 ≤ (p0).toInt ∧ (p0).toInt < (na).toInt := h_2
    refine lv_if_eq (tgt := 17) hx hb dX9_odds_5 (by decide) (fun c_ => absurd c_ (by decide)) (fun _ => ?_)
    refine lv_iload_n hx hb dX9_odds_8 rfl (lv_at hl 2 rfl) ?_
    refine lv_iconst (v := 0) hx hb dX9_odds_9 (by decide) ?_
    refine lv_iconst (v := 5) hx hb dX9_odds_10 (by decide) ?_
    refine vp_callSi (zrS (As := [.int p1, .int 0, .int 5]) (rest := []) (wc := []) ⟨hx, hb, hml, hown, hts⟩ hN hK hP hD (m_isIn l D p1 0 5 ) (va_cwS 3 hts gX9_odds_X9_isIn rfl rfl rfl (by decide +kernel) ⟨(Nat.le_of_ble_eq_true rfl), (Nat.le_of_ble_eq_true rfl)⟩) [] [] rfl rfl (by decide) rfl hl.1 rfl (Nat.le_of_ble_eq_true rfl) dX9_odds_11 ⟨(Nat.le_of_ble_eq_true rfl), (Nat.le_of_ble_eq_true rfl)⟩) (fun r_3 h_4 => ?_)
    rcases h_4 with ⟨h_4, rfl⟩ | ⟨h_4, rfl⟩
    · have h_4 : 0 ≤ (p1).toInt ∧ (p1).toInt ≤ 5 := h_4
      refine lv_if_ne (tgt := 19) hx hb dX9_odds_14 (by decide) (fun _ => ?_) (fun c_ => absurd c_ (by decide))
      refine lv_aload_n hx hb dX9_odds_19 rfl (lv_at hl 0 rfl) ?_
      refine lv_iload_n hx hb dX9_odds_20 rfl (lv_at hl 1 rfl) ?_
      refine va_calli (zwV (mc := 0) (ms := 0) (As := [.int p0]) (rest := []) (wc := [oC h0 9 [.int now, .int na, .int nsi, .int nti, .int vc, .int vn, .int vt, .ref b1, .ref b2, .ref b3, .ref b4, .ref b5, .ref b6, .ref b7, .ref b8, .ref b9, .ref b10, .ref b11, .ref b12, .ref b13, .ref b14, .ref b15, .ref b16, .ref b17, .ref b18, .int ct, .int cs, .int co, .ref b19, .ref b20, .ref b21, .int nca, .ref b22, .ref b23, .int ntm, .ref b24, .ref b25], aI b5 d5 200 (f5), aI b8 d8 200 (f8)]) ⟨hx, hb, hml, hown, hts⟩ hN hK hP hD (m_depth l D s.heap.size h0 b1 b2 b3 b4 b5 b6 b7 b8 b9 b10 b11 b12 b13 b14 b15 b16 b17 b18 b19 b20 b21 b22 b23 b24 b25 now na nsi nti vc vn vt ct cs co nca ntm d5 d8 ((f5)) ((f8)) p0 (by first | omega | assumption) (by first | omega | assumption)) (cwV 1 hts gX9_odds_X9_depth rfl rfl rfl (by decide +kernel) ⟨(Nat.le_of_ble_eq_true rfl), (Nat.le_of_ble_eq_true rfl)⟩) [0, 1] [0, 1, 2] rfl rfl (by decide) 9 0 rfl rfl rfl hl.1 rfl (Nat.le_of_ble_eq_true rfl) dX9_odds_21 ⟨(Nat.le_of_ble_eq_true rfl), (Nat.le_of_ble_eq_true rfl)⟩) hS (fun q _ h => va_free (wc := [oC h0 9 [.int now, .int na, .int nsi, .int nti, .int vc, .int vn, .int vt, .ref b1, .ref b2, .ref b3, .ref b4, .ref b5, .ref b6, .ref b7, .ref b8, .ref b9, .ref b10, .ref b11, .ref b12, .ref b13, .ref b14, .ref b15, .ref b16, .ref b17, .ref b18, .int ct, .int cs, .int co, .ref b19, .ref b20, .ref b21, .int nca, .ref b22, .ref b23, .int ntm, .ref b24, .ref b25], aI b5 d5 200 (f5), aI b8 d8 200 (f8)]) hD hS hA [0, 1, 2] rfl q h) (va_free (wc := [oC h0 9 [.int now, .int na, .int nsi, .int nti, .int vc, .int vn, .int vt, .ref b1, .ref b2, .ref b3, .ref b4, .ref b5, .ref b6, .ref b7, .ref b8, .ref b9, .ref b10, .ref b11, .ref b12, .ref b13, .ref b14, .ref b15, .ref b16, .ref b17, .ref b18, .int ct, .int cs, .int co, .ref b19, .ref b20, .ref b21, .int nca, .ref b22, .ref b23, .int ntm, .ref b24, .ref b25], aI b5 d5 200 (f5), aI b8 d8 200 (f8)]) hD hS hA [0, 1, 2] rfl) (fun r_6 u t H_5 locs1 ht hvm hw hB hz1 hk1 hS1 => ?_)
      obtain ⟨x_7, x_8, x_9, hB, h_10a, h_10b⟩ := hB
      have h_10a : (0 ≤ (x_7).toInt ∧ (x_7).toInt ≤ 200) ∧ (0 ≤ (x_8).toInt ∧ (x_8).toInt ≤ 200) ∧ (0 ≤ (x_9).toInt ∧ (x_9).toInt ≤ 200) := h_10a
      have h_10b : 1 ≤ (x_8).toInt + (x_9).toInt := h_10b
      obtain ⟨hP, hD, hK⟩ := zj (wc := [oC h0 9 [.int now, .int na, .int nsi, .int nti, .int vc, .int vn, .int vt, .ref b1, .ref b2, .ref b3, .ref b4, .ref b5, .ref b6, .ref b7, .ref b8, .ref b9, .ref b10, .ref b11, .ref b12, .ref b13, .ref b14, .ref b15, .ref b16, .ref b17, .ref b18, .int ct, .int cs, .int co, .ref b19, .ref b20, .ref b21, .int nca, .ref b22, .ref b23, .int ntm, .ref b24, .ref b25], aI b5 d5 200 (f5), aI b8 d8 200 (f8)]) (wr := []) (w1 := [oC h0 9 [.int now, .int na, .int nsi, .int nti, .int vc, .int vn, .int vt, .ref b1, .ref b2, .ref b3, .ref b4, .ref b5, .ref b6, .ref b7, .ref b8, .ref b9, .ref b10, .ref b11, .ref b12, .ref b13, .ref b14, .ref b15, .ref b16, .ref b17, .ref b18, .int x_7, .int x_8, .int x_9, .ref b19, .ref b20, .ref b21, .int nca, .ref b22, .ref b23, .int ntm, .ref b24, .ref b25], aI b5 d5 200 ((f5)), aI b8 d8 200 ((f8))]) hK hP hD hS hA [0, 1, 2] [] rfl rfl (by decide) (by decide) hk1 ht hvm hB
      have hS := hS1
      have hP : va_P D vwCl [oC h0 9 [.int now, .int na, .int nsi, .int nti, .int vc, .int vn, .int vt, .ref b1, .ref b2, .ref b3, .ref b4, .ref b5, .ref b6, .ref b7, .ref b8, .ref b9, .ref b10, .ref b11, .ref b12, .ref b13, .ref b14, .ref b15, .ref b16, .ref b17, .ref b18, .int x_7, .int x_8, .int x_9, .ref b19, .ref b20, .ref b21, .int nca, .ref b22, .ref b23, .int ntm, .ref b24, .ref b25], aI b5 d5 200 ((f5)), aI b8 d8 200 ((f8))] H_5 := hP
      have hD : va_D A [oC h0 9 [.int now, .int na, .int nsi, .int nti, .int vc, .int vn, .int vt, .ref b1, .ref b2, .ref b3, .ref b4, .ref b5, .ref b6, .ref b7, .ref b8, .ref b9, .ref b10, .ref b11, .ref b12, .ref b13, .ref b14, .ref b15, .ref b16, .ref b17, .ref b18, .int x_7, .int x_8, .int x_9, .ref b19, .ref b20, .ref b21, .int nca, .ref b22, .ref b23, .int ntm, .ref b24, .ref b25], aI b5 d5 200 ((f5)), aI b8 d8 200 ((f8))] := hD
      have hK : va_K D vwCl [(d5, .int), (d8, .int)] s := hK
      have hr_6 : 0 ≤ (r_6).toInt ∧ (r_6).toInt ≤ 4 := hw
      refine lv_pop hx hb dX9_odds_24 rfl ?_
      refine lv_iload_n hx hb dX9_odds_25 rfl (lv_at hl 2 rfl) ?_
      refine lv_iconst (v := 4) hx hb dX9_odds_26 (by decide) ?_
      refine bi_ge (zx := (p1).toInt) (zy := 4) (tgt := 37) hx hb dX9_odds_27 (by decide) rfl (by decide) (fun c_11 => ?_) (fun c_11 => ?_)
      · refine lv_aload_n hx hb dX9_odds_37 rfl (lv_at hl 0 rfl) ?_
        refine va_get (D := D) (ci := 9) (v := .int x_7) (C := RX9) (T := TX9) (N := 37) hx hb hts hin_X9 hown hK hP 0 rfl rfl 25 (by decide) (hts (.fieldLink RX9 131 "CryOrderModel" "trues" "I") (List.mem_cons_of_mem _ (List.mem_append_left _ (List.mem_append_left _ (List.mem_of_getElem? (i := 0) rfl))))) (fun _ h9 => h9) rfl dX9_odds_38 ?_
        refine lv_aload_n hx hb dX9_odds_41 rfl (lv_at hl 0 rfl) ?_
        refine va_get (D := D) (ci := 9) (v := .int x_9) (C := RX9) (T := TX9) (N := 37) hx hb hts hin_X9 hown hK hP 0 rfl rfl 27 (by decide) (hts (.fieldLink RX9 137 "CryOrderModel" "opens" "I") (List.mem_cons_of_mem _ (List.mem_append_left _ (List.mem_append_left _ (List.mem_of_getElem? (i := 1) rfl))))) (fun _ h9 => h9) rfl dX9_odds_42 ?_
        refine lv_iadd hx hb dX9_odds_45 ?_
        refine lv_topi (fun z_12 ez_12 => ?_)
        have tz_12 := ad_toInt (zx := (x_7).toInt) (zy := (x_9).toInt) ez_12 rfl rfl
        refine lv_istore_n (lv' := [(3, .int z_12), (0, .ref h0), (1, .int p0), (2, .int p1)]) hx hb dX9_odds_46 rfl hl (by decide) rfl (fun ls hl => ?_)
        refine lv_iload_n hx hb dX9_odds_47 rfl (lv_at hl 3 rfl) ?_
        refine lv_iconst (v := 2) hx hb dX9_odds_48 (by decide) ?_
        refine bi_ge (zx := (p1).toInt) (zy := 2) (tgt := 59) hx hb dX9_odds_49 (by decide) rfl (by decide) (fun c_13 => ?_) (fun c_13 => ?_)
        · refine lv_aload_n hx hb dX9_odds_59 rfl (lv_at hl 1 rfl) ?_
          refine va_get (D := D) (ci := 9) (v := .int x_8) (C := RX9) (T := TX9) (N := 37) hx hb hts hin_X9 hown hK hP 0 rfl rfl 26 (by decide) (hts (.fieldLink RX9 134 "CryOrderModel" "settled" "I") (List.mem_cons_of_mem _ (List.mem_append_left _ (List.mem_append_left _ (List.mem_of_getElem? (i := 2) rfl))))) (fun _ h9 => h9) rfl dX9_odds_60 ?_
          refine lv_aload_n hx hb dX9_odds_63 rfl (lv_at hl 1 rfl) ?_
          refine va_get (D := D) (ci := 9) (v := .int x_9) (C := RX9) (T := TX9) (N := 37) hx hb hts hin_X9 hown hK hP 0 rfl rfl 27 (by decide) (hts (.fieldLink RX9 137 "CryOrderModel" "opens" "I") (List.mem_cons_of_mem _ (List.mem_append_left _ (List.mem_append_left _ (List.mem_of_getElem? (i := 1) rfl))))) (fun _ h9 => h9) rfl dX9_odds_64 ?_
          refine lv_iadd hx hb dX9_odds_67 ?_
          refine lv_topi (fun z_14 ez_14 => ?_)
          have tz_14 := ad_toInt (zx := (x_8).toInt) (zy := (x_9).toInt) ez_14 rfl rfl
          refine lv_istore (lv' := [(4, .int z_14), (3, .int z_12), (0, .ref h0), (1, .int p0), (2, .int p1)]) hx hb dX9_odds_68 hl (by decide) rfl (fun ls hl => ?_)
          refine lv_iload_n hx hb dX9_odds_70 rfl (lv_at hl 4 rfl) ?_
          refine lv_iconst (v := 2) hx hb dX9_odds_71 (by decide) ?_
          refine bi_ge (zx := (p1).toInt) (zy := 2) (tgt := 87) hx hb dX9_odds_72 (by decide) rfl (by decide) (fun c_15 => ?_) (fun c_15 => ?_)
          · refine lv_iload_n hx hb dX9_odds_87 rfl (lv_at hl 1 rfl) ?_
            refine lv_istore (lv' := [(5, .int z_12), (4, .int z_14), (3, .int z_12), (0, .ref h0), (1, .int p0), (2, .int p1)]) hx hb dX9_odds_88 hl (by decide) rfl (fun ls hl => ?_)
            refine lv_iload hx hb dX9_odds_90 (lv_at hl 1 rfl) ?_
            refine lv_istore (lv' := [(6, .int z_14), (5, .int z_12), (4, .int z_14), (3, .int z_12), (0, .ref h0), (1, .int p0), (2, .int p1)]) hx hb dX9_odds_92 hl (by decide) rfl (fun ls hl => ?_)
            refine ml_odds hx hb hts hml hown hN hK hA ⟨(Nat.le_of_ble_eq_true rfl), (Nat.le_of_ble_eq_true rfl)⟩ ⟨(Nat.le_of_ble_eq_true rfl), (Nat.le_of_ble_eq_true rfl)⟩  (fun bb_16 aa_17 H_18 locs ls h_19 hP hD hS hl => ?_) _ _ _ _ _ _ (by have h3 : (1 : Int32).toInt = 1 := rfl; have h4 : (2 : Int32).toInt = 2 := rfl; omega) (Nat.lt_succ_self _) hP hD hS (lv_sub hl [0, 1, 2, 3, 6, 4, 5] rfl)
            have h_19 : 1 ≤ (aa_17).toInt := h_19
            refine lv_iload_n hx hb dX9_odds_117 rfl (lv_at hl 4 rfl) ?_
            refine lv_iconst (v := 2) hx hb dX9_odds_118 (by decide) ?_
            refine lv_irem hx hb dX9_odds_119 (ne0_of (zy := 2) (by omega) (by decide)) ?_
            refine lv_topi (fun z_20 ez_20 => ?_)
            refine bz_ne (zx := (z_20).toInt) (tgt := 130) hx hb dX9_odds_120 (by decide) rfl (fun c_21 => ?_) (fun c_21 => ?_)
            · refine lv_iload hx hb dX9_odds_130 (lv_at hl 2 rfl) ?_
              refine lv_iload hx hb dX9_odds_132 (lv_at hl 1 rfl) ?_
              refine lv_idiv hx hb dX9_odds_134 (ne0_of (zy := (aa_17).toInt) (by omega) rfl) ?_
              refine lv_topi (fun z_22 ez_22 => ?_)
              refine W.widen (k := 0) (n := 0) (Nat.le_of_ble_eq_true rfl) (Nat.le_of_ble_eq_true rfl) ?_
              have hP9 := hP.sub (ws' := [oC h0 9 [.int now, .int na, .int nsi, .int nti, .int vc, .int vn, .int vt, .ref b1, .ref b2, .ref b3, .ref b4, .ref b5, .ref b6, .ref b7, .ref b8, .ref b9, .ref b10, .ref b11, .ref b12, .ref b13, .ref b14, .ref b15, .ref b16, .ref b17, .ref b18, .int x_7, .int x_8, .int x_9, .ref b19, .ref b20, .ref b21, .int nca, .ref b22, .ref b23, .int ntm, .ref b24, .ref b25], aI b5 d5 200 ((f5)), aI b8 d8 200 ((f8))]) [0, 1, 2] rfl
              have hD9 := hD.sub (ws' := [oC h0 9 [.int now, .int na, .int nsi, .int nti, .int vc, .int vn, .int vt, .ref b1, .ref b2, .ref b3, .ref b4, .ref b5, .ref b6, .ref b7, .ref b8, .ref b9, .ref b10, .ref b11, .ref b12, .ref b13, .ref b14, .ref b15, .ref b16, .ref b17, .ref b18, .int x_7, .int x_8, .int x_9, .ref b19, .ref b20, .ref b21, .int nca, .ref b22, .ref b23, .int ntm, .ref b24, .ref b25], aI b5 d5 200 ((f5)), aI b8 d8 200 ((f8))]) [0, 1, 2] (by decide) rfl
              have hK9 := hK.sub (tys' := []) [] rfl
              exact W.iret (v := z_22) hx hb hr (fun t ht hW => ⟨⟨z_22, (), rfl, trivial, x_7, x_8, x_9, by rw [ht]; exact hP9, va_K.moved hW.alike hK9, hD9⟩, hS.F ht⟩) hS.2.2 dX9_odds_135
            · refine lv_iload_n hx hb dX9_odds_123 rfl (lv_at hl 3 rfl) ?_
              refine lv_iload hx hb dX9_odds_124 (lv_at hl 1 rfl) ?_
              refine lv_idiv hx hb dX9_odds_126 (ne0_of (zy := (aa_17).toInt) (by omega) rfl) ?_
              refine lv_topi (fun z_23 ez_23 => ?_)
              refine lv_goto (tgt := 135) hx hb dX9_odds_127 (by decide) ?_
              refine W.widen (k := 0) (n := 0) (Nat.le_of_ble_eq_true rfl) (Nat.le_of_ble_eq_true rfl) ?_
              have hP9 := hP.sub (ws' := [oC h0 9 [.int now, .int na, .int nsi, .int nti, .int vc, .int vn, .int vt, .ref b1, .ref b2, .ref b3, .ref b4, .ref b5, .ref b6, .ref b7, .ref b8, .ref b9, .ref b10, .ref b11, .ref b12, .ref b13, .ref b14, .ref b15, .ref b16, .ref b17, .ref b18, .int x_7, .int x_8, .int x_9, .ref b19, .ref b20, .ref b21, .int nca, .ref b22, .ref b23, .int ntm, .ref b24, .ref b25], aI b5 d5 200 ((f5)), aI b8 d8 200 ((f8))]) [0, 1, 2] rfl
              have hD9 := hD.sub (ws' := [oC h0 9 [.int now, .int na, .int nsi, .int nti, .int vc, .int vn, .int vt, .ref b1, .ref b2, .ref b3, .ref b4, .ref b5, .ref b6, .ref b7, .ref b8, .ref b9, .ref b10, .ref b11, .ref b12, .ref b13, .ref b14, .ref b15, .ref b16, .ref b17, .ref b18, .int x_7, .int x_8, .int x_9, .ref b19, .ref b20, .ref b21, .int nca, .ref b22, .ref b23, .int ntm, .ref b24, .ref b25], aI b5 d5 200 ((f5)), aI b8 d8 200 ((f8))]) [0, 1, 2] (by decide) rfl
              have hK9 := hK.sub (tys' := []) [] rfl
              exact W.iret (v := z_23) hx hb hr (fun t ht hW => ⟨⟨z_23, (), rfl, trivial, x_7, x_8, x_9, by rw [ht]; exact hP9, va_K.moved hW.alike hK9, hD9⟩, hS.F ht⟩) hS.2.2 dX9_odds_135
          · refine lv_aload_n hx hb dX9_odds_75 rfl (lv_at hl 2 rfl) ?_
            refine va_get (D := D) (ci := 9) (v := .int x_8) (C := RX9) (T := TX9) (N := 37) hx hb hts hin_X9 hown hK hP 0 rfl rfl 26 (by decide) (hts (.fieldLink RX9 134 "CryOrderModel" "settled" "I") (List.mem_cons_of_mem _ (List.mem_append_left _ (List.mem_append_left _ (List.mem_of_getElem? (i := 2) rfl))))) (fun _ h9 => h9) rfl dX9_odds_76 ?_
            refine bz_ne (zx := (x_8).toInt) (tgt := 87) hx hb dX9_odds_79 (by decide) rfl (fun c_24 => ?_) (fun c_24 => ?_)
            · refine lv_iload_n hx hb dX9_odds_87 rfl (lv_at hl 1 rfl) ?_
              refine lv_istore (lv' := [(5, .int z_12), (4, .int z_14), (3, .int z_12), (0, .ref h0), (1, .int p0), (2, .int p1)]) hx hb dX9_odds_88 hl (by decide) rfl (fun ls hl => ?_)
              refine lv_iload hx hb dX9_odds_90 (lv_at hl 1 rfl) ?_
              refine lv_istore (lv' := [(6, .int z_14), (5, .int z_12), (4, .int z_14), (3, .int z_12), (0, .ref h0), (1, .int p0), (2, .int p1)]) hx hb dX9_odds_92 hl (by decide) rfl (fun ls hl => ?_)
              refine ml_odds hx hb hts hml hown hN hK hA ⟨(Nat.le_of_ble_eq_true rfl), (Nat.le_of_ble_eq_true rfl)⟩ ⟨(Nat.le_of_ble_eq_true rfl), (Nat.le_of_ble_eq_true rfl)⟩  (fun bb_25 aa_26 H_27 locs ls h_28 hP hD hS hl => ?_) _ _ _ _ _ _ (by have h3 : (1 : Int32).toInt = 1 := rfl; have h4 : (2 : Int32).toInt = 2 := rfl; omega) (Nat.lt_succ_self _) hP hD hS (lv_sub hl [0, 1, 2, 3, 6, 4, 5] rfl)
              have h_28 : 1 ≤ (aa_26).toInt := h_28
              refine lv_iload_n hx hb dX9_odds_117 rfl (lv_at hl 4 rfl) ?_
              refine lv_iconst (v := 2) hx hb dX9_odds_118 (by decide) ?_
              refine lv_irem hx hb dX9_odds_119 (ne0_of (zy := 2) (by omega) (by decide)) ?_
              refine lv_topi (fun z_29 ez_29 => ?_)
              refine bz_ne (zx := (z_29).toInt) (tgt := 130) hx hb dX9_odds_120 (by decide) rfl (fun c_30 => ?_) (fun c_30 => ?_)
              · refine lv_iload hx hb dX9_odds_130 (lv_at hl 2 rfl) ?_
                refine lv_iload hx hb dX9_odds_132 (lv_at hl 1 rfl) ?_
                refine lv_idiv hx hb dX9_odds_134 (ne0_of (zy := (aa_26).toInt) (by omega) rfl) ?_
                refine lv_topi (fun z_31 ez_31 => ?_)
                refine W.widen (k := 0) (n := 0) (Nat.le_of_ble_eq_true rfl) (Nat.le_of_ble_eq_true rfl) ?_
                have hP9 := hP.sub (ws' := [oC h0 9 [.int now, .int na, .int nsi, .int nti, .int vc, .int vn, .int vt, .ref b1, .ref b2, .ref b3, .ref b4, .ref b5, .ref b6, .ref b7, .ref b8, .ref b9, .ref b10, .ref b11, .ref b12, .ref b13, .ref b14, .ref b15, .ref b16, .ref b17, .ref b18, .int x_7, .int x_8, .int x_9, .ref b19, .ref b20, .ref b21, .int nca, .ref b22, .ref b23, .int ntm, .ref b24, .ref b25], aI b5 d5 200 ((f5)), aI b8 d8 200 ((f8))]) [0, 1, 2] rfl
                have hD9 := hD.sub (ws' := [oC h0 9 [.int now, .int na, .int nsi, .int nti, .int vc, .int vn, .int vt, .ref b1, .ref b2, .ref b3, .ref b4, .ref b5, .ref b6, .ref b7, .ref b8, .ref b9, .ref b10, .ref b11, .ref b12, .ref b13, .ref b14, .ref b15, .ref b16, .ref b17, .ref b18, .int x_7, .int x_8, .int x_9, .ref b19, .ref b20, .ref b21, .int nca, .ref b22, .ref b23, .int ntm, .ref b24, .ref b25], aI b5 d5 200 ((f5)), aI b8 d8 200 ((f8))]) [0, 1, 2] (by decide) rfl
                have hK9 := hK.sub (tys' := []) [] rfl
                exact W.iret (v := z_31) hx hb hr (fun t ht hW => ⟨⟨z_31, (), rfl, trivial, x_7, x_8, x_9, by rw [ht]; exact hP9, va_K.moved hW.alike hK9, hD9⟩, hS.F ht⟩) hS.2.2 dX9_odds_135
              · refine lv_iload_n hx hb dX9_odds_123 rfl (lv_at hl 3 rfl) ?_
                refine lv_iload hx hb dX9_odds_124 (lv_at hl 1 rfl) ?_
                refine lv_idiv hx hb dX9_odds_126 (ne0_of (zy := (aa_26).toInt) (by omega) rfl) ?_
                refine lv_topi (fun z_32 ez_32 => ?_)
                refine lv_goto (tgt := 135) hx hb dX9_odds_127 (by decide) ?_
                refine W.widen (k := 0) (n := 0) (Nat.le_of_ble_eq_true rfl) (Nat.le_of_ble_eq_true rfl) ?_
                have hP9 := hP.sub (ws' := [oC h0 9 [.int now, .int na, .int nsi, .int nti, .int vc, .int vn, .int vt, .ref b1, .ref b2, .ref b3, .ref b4, .ref b5, .ref b6, .ref b7, .ref b8, .ref b9, .ref b10, .ref b11, .ref b12, .ref b13, .ref b14, .ref b15, .ref b16, .ref b17, .ref b18, .int x_7, .int x_8, .int x_9, .ref b19, .ref b20, .ref b21, .int nca, .ref b22, .ref b23, .int ntm, .ref b24, .ref b25], aI b5 d5 200 ((f5)), aI b8 d8 200 ((f8))]) [0, 1, 2] rfl
                have hD9 := hD.sub (ws' := [oC h0 9 [.int now, .int na, .int nsi, .int nti, .int vc, .int vn, .int vt, .ref b1, .ref b2, .ref b3, .ref b4, .ref b5, .ref b6, .ref b7, .ref b8, .ref b9, .ref b10, .ref b11, .ref b12, .ref b13, .ref b14, .ref b15, .ref b16, .ref b17, .ref b18, .int x_7, .int x_8, .int x_9, .ref b19, .ref b20, .ref b21, .int nca, .ref b22, .ref b23, .int ntm, .ref b24, .ref b25], aI b5 d5 200 ((f5)), aI b8 d8 200 ((f8))]) [0, 1, 2] (by decide) rfl
                have hK9 := hK.sub (tys' := []) [] rfl
                exact W.iret (v := z_32) hx hb hr (fun t ht hW => ⟨⟨z_32, (), rfl, trivial, x_7, x_8, x_9, by rw [ht]; exact hP9, va_K.moved hW.alike hK9, hD9⟩, hS.F ht⟩) hS.2.2 dX9_odds_135
            · refine lv_iconst (v := 1) hx hb dX9_odds_82 (by decide) ?_
              refine lv_istore_n (lv' := [(3, .int 1), (4, .int z_14), (0, .ref h0), (1, .int p0), (2, .int p1)]) hx hb dX9_odds_83 rfl hl (by decide) rfl (fun ls hl => ?_)
              refine lv_iconst (v := 2) hx hb dX9_odds_84 (by decide) ?_
              refine lv_istore (lv' := [(4, .int 2), (3, .int 1), (0, .ref h0), (1, .int p0), (2, .int p1)]) hx hb dX9_odds_85 hl (by decide) rfl (fun ls hl => ?_)
              refine lv_iload_n hx hb dX9_odds_87 rfl (lv_at hl 1 rfl) ?_
              refine lv_istore (lv' := [(5, .int 1), (4, .int 2), (3, .int 1), (0, .ref h0), (1, .int p0), (2, .int p1)]) hx hb dX9_odds_88 hl (by decide) rfl (fun ls hl => ?_)
              refine lv_iload hx hb dX9_odds_90 (lv_at hl 1 rfl) ?_
              refine lv_istore (lv' := [(6, .int 2), (5, .int 1), (4, .int 2), (3, .int 1), (0, .ref h0), (1, .int p0), (2, .int p1)]) hx hb dX9_odds_92 hl (by decide) rfl (fun ls hl => ?_)
              refine ml_odds hx hb hts hml hown hN hK hA ⟨(Nat.le_of_ble_eq_true rfl), (Nat.le_of_ble_eq_true rfl)⟩ ⟨(Nat.le_of_ble_eq_true rfl), (Nat.le_of_ble_eq_true rfl)⟩  (fun bb_33 aa_34 H_35 locs ls h_36 hP hD hS hl => ?_) _ _ _ _ _ _ (by have h3 : (1 : Int32).toInt = 1 := rfl; have h4 : (2 : Int32).toInt = 2 := rfl; omega) (Nat.lt_succ_self _) hP hD hS (lv_sub hl [0, 1, 2, 3, 6, 4, 5] rfl)
              have h_36 : 1 ≤ (aa_34).toInt := h_36
              refine lv_iload_n hx hb dX9_odds_117 rfl (lv_at hl 4 rfl) ?_
              refine lv_iconst (v := 2) hx hb dX9_odds_118 (by decide) ?_
              refine lv_irem hx hb dX9_odds_119 (ne0_of (zy := 2) (by omega) (by decide)) ?_
              refine lv_topi (fun z_37 ez_37 => ?_)
              refine bz_ne (zx := (z_37).toInt) (tgt := 130) hx hb dX9_odds_120 (by decide) rfl (fun c_38 => ?_) (fun c_38 => ?_)
              · refine lv_iload hx hb dX9_odds_130 (lv_at hl 2 rfl) ?_
                refine lv_iload hx hb dX9_odds_132 (lv_at hl 1 rfl) ?_
                refine lv_idiv hx hb dX9_odds_134 (ne0_of (zy := (aa_34).toInt) (by omega) rfl) ?_
                refine lv_topi (fun z_39 ez_39 => ?_)
                refine W.widen (k := 0) (n := 0) (Nat.le_of_ble_eq_true rfl) (Nat.le_of_ble_eq_true rfl) ?_
                have hP9 := hP.sub (ws' := [oC h0 9 [.int now, .int na, .int nsi, .int nti, .int vc, .int vn, .int vt, .ref b1, .ref b2, .ref b3, .ref b4, .ref b5, .ref b6, .ref b7, .ref b8, .ref b9, .ref b10, .ref b11, .ref b12, .ref b13, .ref b14, .ref b15, .ref b16, .ref b17, .ref b18, .int x_7, .int x_8, .int x_9, .ref b19, .ref b20, .ref b21, .int nca, .ref b22, .ref b23, .int ntm, .ref b24, .ref b25], aI b5 d5 200 ((f5)), aI b8 d8 200 ((f8))]) [0, 1, 2] rfl
                have hD9 := hD.sub (ws' := [oC h0 9 [.int now, .int na, .int nsi, .int nti, .int vc, .int vn, .int vt, .ref b1, .ref b2, .ref b3, .ref b4, .ref b5, .ref b6, .ref b7, .ref b8, .ref b9, .ref b10, .ref b11, .ref b12, .ref b13, .ref b14, .ref b15, .ref b16, .ref b17, .ref b18, .int x_7, .int x_8, .int x_9, .ref b19, .ref b20, .ref b21, .int nca, .ref b22, .ref b23, .int ntm, .ref b24, .ref b25], aI b5 d5 200 ((f5)), aI b8 d8 200 ((f8))]) [0, 1, 2] (by decide) rfl
                have hK9 := hK.sub (tys' := []) [] rfl
                exact W.iret (v := z_39) hx hb hr (fun t ht hW => ⟨⟨z_39, (), rfl, trivial, x_7, x_8, x_9, by rw [ht]; exact hP9, va_K.moved hW.alike hK9, hD9⟩, hS.F ht⟩) hS.2.2 dX9_odds_135
              · refine lv_iload_n hx hb dX9_odds_123 rfl (lv_at hl 3 rfl) ?_
                refine lv_iload hx hb dX9_odds_124 (lv_at hl 1 rfl) ?_
                refine lv_idiv hx hb dX9_odds_126 (ne0_of (zy := (aa_34).toInt) (by omega) rfl) ?_
                refine lv_topi (fun z_40 ez_40 => ?_)
                refine lv_goto (tgt := 135) hx hb dX9_odds_127 (by decide) ?_
                refine W.widen (k := 0) (n := 0) (Nat.le_of_ble_eq_true rfl) (Nat.le_of_ble_eq_true rfl) ?_
                have hP9 := hP.sub (ws' := [oC h0 9 [.int now, .int na, .int nsi, .int nti, .int vc, .int vn, .int vt, .ref b1, .ref b2, .ref b3, .ref b4, .ref b5, .ref b6, .ref b7, .ref b8, .ref b9, .ref b10, .ref b11, .ref b12, .ref b13, .ref b14, .ref b15, .ref b16, .ref b17, .ref b18, .int x_7, .int x_8, .int x_9, .ref b19, .ref b20, .ref b21, .int nca, .ref b22, .ref b23, .int ntm, .ref b24, .ref b25], aI b5 d5 200 ((f5)), aI b8 d8 200 ((f8))]) [0, 1, 2] rfl
                have hD9 := hD.sub (ws' := [oC h0 9 [.int now, .int na, .int nsi, .int nti, .int vc, .int vn, .int vt, .ref b1, .ref b2, .ref b3, .ref b4, .ref b5, .ref b6, .ref b7, .ref b8, .ref b9, .ref b10, .ref b11, .ref b12, .ref b13, .ref b14, .ref b15, .ref b16, .ref b17, .ref b18, .int x_7, .int x_8, .int x_9, .ref b19, .ref b20, .ref b21, .int nca, .ref b22, .ref b23, .int ntm, .ref b24, .ref b25], aI b5 d5 200 ((f5)), aI b8 d8 200 ((f8))]) [0, 1, 2] (by decide) rfl
                have hK9 := hK.sub (tys' := []) [] rfl
                exact W.iret (v := z_40) hx hb hr (fun t ht hW => ⟨⟨z_40, (), rfl, trivial, x_7, x_8, x_9, by rw [ht]; exact hP9, va_K.moved hW.alike hK9, hD9⟩, hS.F ht⟩) hS.2.2 dX9_odds_135
        · refine lv_aload_n hx hb dX9_odds_52 rfl (lv_at hl 1 rfl) ?_
          refine va_get (D := D) (ci := 9) (v := .int x_8) (C := RX9) (T := TX9) (N := 37) hx hb hts hin_X9 hown hK hP 0 rfl rfl 26 (by decide) (hts (.fieldLink RX9 134 "CryOrderModel" "settled" "I") (List.mem_cons_of_mem _ (List.mem_append_left _ (List.mem_append_left _ (List.mem_of_getElem? (i := 2) rfl))))) (fun _ h9 => h9) rfl dX9_odds_53 ?_
          refine lv_goto (tgt := 68) hx hb dX9_odds_56 (by decide) ?_
          refine lv_istore (lv' := [(4, .int x_8), (3, .int z_12), (0, .ref h0), (1, .int p0), (2, .int p1)]) hx hb dX9_odds_68 hl (by decide) rfl (fun ls hl => ?_)
          refine lv_iload_n hx hb dX9_odds_70 rfl (lv_at hl 4 rfl) ?_
          refine lv_iconst (v := 2) hx hb dX9_odds_71 (by decide) ?_
          refine bi_ge (zx := (p1).toInt) (zy := 2) (tgt := 87) hx hb dX9_odds_72 (by decide) rfl (by decide) (fun c_41 => ?_) (fun c_41 => ?_)
          · refine lv_iload_n hx hb dX9_odds_87 rfl (lv_at hl 1 rfl) ?_
            refine lv_istore (lv' := [(5, .int z_12), (4, .int x_8), (3, .int z_12), (0, .ref h0), (1, .int p0), (2, .int p1)]) hx hb dX9_odds_88 hl (by decide) rfl (fun ls hl => ?_)
            refine lv_iload hx hb dX9_odds_90 (lv_at hl 1 rfl) ?_
            refine lv_istore (lv' := [(6, .int x_8), (5, .int z_12), (4, .int x_8), (3, .int z_12), (0, .ref h0), (1, .int p0), (2, .int p1)]) hx hb dX9_odds_92 hl (by decide) rfl (fun ls hl => ?_)
            refine ml_odds hx hb hts hml hown hN hK hA ⟨(Nat.le_of_ble_eq_true rfl), (Nat.le_of_ble_eq_true rfl)⟩ ⟨(Nat.le_of_ble_eq_true rfl), (Nat.le_of_ble_eq_true rfl)⟩  (fun bb_42 aa_43 H_44 locs ls h_45 hP hD hS hl => ?_) _ _ _ _ _ _ (by have h3 : (1 : Int32).toInt = 1 := rfl; have h4 : (2 : Int32).toInt = 2 := rfl; omega) (Nat.lt_succ_self _) hP hD hS (lv_sub hl [0, 1, 2, 3, 6, 4, 5] rfl)
            have h_45 : 1 ≤ (aa_43).toInt := h_45
            refine lv_iload_n hx hb dX9_odds_117 rfl (lv_at hl 4 rfl) ?_
            refine lv_iconst (v := 2) hx hb dX9_odds_118 (by decide) ?_
            refine lv_irem hx hb dX9_odds_119 (ne0_of (zy := 2) (by omega) (by decide)) ?_
            refine lv_topi (fun z_46 ez_46 => ?_)
            refine bz_ne (zx := (z_46).toInt) (tgt := 130) hx hb dX9_odds_120 (by decide) rfl (fun c_47 => ?_) (fun c_47 => ?_)
            · refine lv_iload hx hb dX9_odds_130 (lv_at hl 2 rfl) ?_
              refine lv_iload hx hb dX9_odds_132 (lv_at hl 1 rfl) ?_
              refine lv_idiv hx hb dX9_odds_134 (ne0_of (zy := (aa_43).toInt) (by omega) rfl) ?_
              refine lv_topi (fun z_48 ez_48 => ?_)
              refine W.widen (k := 0) (n := 0) (Nat.le_of_ble_eq_true rfl) (Nat.le_of_ble_eq_true rfl) ?_
              have hP9 := hP.sub (ws' := [oC h0 9 [.int now, .int na, .int nsi, .int nti, .int vc, .int vn, .int vt, .ref b1, .ref b2, .ref b3, .ref b4, .ref b5, .ref b6, .ref b7, .ref b8, .ref b9, .ref b10, .ref b11, .ref b12, .ref b13, .ref b14, .ref b15, .ref b16, .ref b17, .ref b18, .int x_7, .int x_8, .int x_9, .ref b19, .ref b20, .ref b21, .int nca, .ref b22, .ref b23, .int ntm, .ref b24, .ref b25], aI b5 d5 200 ((f5)), aI b8 d8 200 ((f8))]) [0, 1, 2] rfl
              have hD9 := hD.sub (ws' := [oC h0 9 [.int now, .int na, .int nsi, .int nti, .int vc, .int vn, .int vt, .ref b1, .ref b2, .ref b3, .ref b4, .ref b5, .ref b6, .ref b7, .ref b8, .ref b9, .ref b10, .ref b11, .ref b12, .ref b13, .ref b14, .ref b15, .ref b16, .ref b17, .ref b18, .int x_7, .int x_8, .int x_9, .ref b19, .ref b20, .ref b21, .int nca, .ref b22, .ref b23, .int ntm, .ref b24, .ref b25], aI b5 d5 200 ((f5)), aI b8 d8 200 ((f8))]) [0, 1, 2] (by decide) rfl
              have hK9 := hK.sub (tys' := []) [] rfl
              exact W.iret (v := z_48) hx hb hr (fun t ht hW => ⟨⟨z_48, (), rfl, trivial, x_7, x_8, x_9, by rw [ht]; exact hP9, va_K.moved hW.alike hK9, hD9⟩, hS.F ht⟩) hS.2.2 dX9_odds_135
            · refine lv_iload_n hx hb dX9_odds_123 rfl (lv_at hl 3 rfl) ?_
              refine lv_iload hx hb dX9_odds_124 (lv_at hl 1 rfl) ?_
              refine lv_idiv hx hb dX9_odds_126 (ne0_of (zy := (aa_43).toInt) (by omega) rfl) ?_
              refine lv_topi (fun z_49 ez_49 => ?_)
              refine lv_goto (tgt := 135) hx hb dX9_odds_127 (by decide) ?_
              refine W.widen (k := 0) (n := 0) (Nat.le_of_ble_eq_true rfl) (Nat.le_of_ble_eq_true rfl) ?_
              have hP9 := hP.sub (ws' := [oC h0 9 [.int now, .int na, .int nsi, .int nti, .int vc, .int vn, .int vt, .ref b1, .ref b2, .ref b3, .ref b4, .ref b5, .ref b6, .ref b7, .ref b8, .ref b9, .ref b10, .ref b11, .ref b12, .ref b13, .ref b14, .ref b15, .ref b16, .ref b17, .ref b18, .int x_7, .int x_8, .int x_9, .ref b19, .ref b20, .ref b21, .int nca, .ref b22, .ref b23, .int ntm, .ref b24, .ref b25], aI b5 d5 200 ((f5)), aI b8 d8 200 ((f8))]) [0, 1, 2] rfl
              have hD9 := hD.sub (ws' := [oC h0 9 [.int now, .int na, .int nsi, .int nti, .int vc, .int vn, .int vt, .ref b1, .ref b2, .ref b3, .ref b4, .ref b5, .ref b6, .ref b7, .ref b8, .ref b9, .ref b10, .ref b11, .ref b12, .ref b13, .ref b14, .ref b15, .ref b16, .ref b17, .ref b18, .int x_7, .int x_8, .int x_9, .ref b19, .ref b20, .ref b21, .int nca, .ref b22, .ref b23, .int ntm, .ref b24, .ref b25], aI b5 d5 200 ((f5)), aI b8 d8 200 ((f8))]) [0, 1, 2] (by decide) rfl
              have hK9 := hK.sub (tys' := []) [] rfl
              exact W.iret (v := z_49) hx hb hr (fun t ht hW => ⟨⟨z_49, (), rfl, trivial, x_7, x_8, x_9, by rw [ht]; exact hP9, va_K.moved hW.alike hK9, hD9⟩, hS.F ht⟩) hS.2.2 dX9_odds_135
          · refine lv_aload_n hx hb dX9_odds_75 rfl (lv_at hl 2 rfl) ?_
            refine va_get (D := D) (ci := 9) (v := .int x_8) (C := RX9) (T := TX9) (N := 37) hx hb hts hin_X9 hown hK hP 0 rfl rfl 26 (by decide) (hts (.fieldLink RX9 134 "CryOrderModel" "settled" "I") (List.mem_cons_of_mem _ (List.mem_append_left _ (List.mem_append_left _ (List.mem_of_getElem? (i := 2) rfl))))) (fun _ h9 => h9) rfl dX9_odds_76 ?_
            refine bz_ne (zx := (x_8).toInt) (tgt := 87) hx hb dX9_odds_79 (by decide) rfl (fun c_50 => ?_) (fun c_50 => ?_)
            · refine lv_iload_n hx hb dX9_odds_87 rfl (lv_at hl 1 rfl) ?_
              refine lv_istore (lv' := [(5, .int z_12), (4, .int x_8), (3, .int z_12), (0, .ref h0), (1, .int p0), (2, .int p1)]) hx hb dX9_odds_88 hl (by decide) rfl (fun ls hl => ?_)
              refine lv_iload hx hb dX9_odds_90 (lv_at hl 1 rfl) ?_
              refine lv_istore (lv' := [(6, .int x_8), (5, .int z_12), (4, .int x_8), (3, .int z_12), (0, .ref h0), (1, .int p0), (2, .int p1)]) hx hb dX9_odds_92 hl (by decide) rfl (fun ls hl => ?_)
              refine ml_odds hx hb hts hml hown hN hK hA ⟨(Nat.le_of_ble_eq_true rfl), (Nat.le_of_ble_eq_true rfl)⟩ ⟨(Nat.le_of_ble_eq_true rfl), (Nat.le_of_ble_eq_true rfl)⟩  (fun bb_51 aa_52 H_53 locs ls h_54 hP hD hS hl => ?_) _ _ _ _ _ _ (by have h3 : (1 : Int32).toInt = 1 := rfl; have h4 : (2 : Int32).toInt = 2 := rfl; omega) (Nat.lt_succ_self _) hP hD hS (lv_sub hl [0, 1, 2, 3, 6, 4, 5] rfl)
              have h_54 : 1 ≤ (aa_52).toInt := h_54
              refine lv_iload_n hx hb dX9_odds_117 rfl (lv_at hl 4 rfl) ?_
              refine lv_iconst (v := 2) hx hb dX9_odds_118 (by decide) ?_
              refine lv_irem hx hb dX9_odds_119 (ne0_of (zy := 2) (by omega) (by decide)) ?_
              refine lv_topi (fun z_55 ez_55 => ?_)
              refine bz_ne (zx := (z_55).toInt) (tgt := 130) hx hb dX9_odds_120 (by decide) rfl (fun c_56 => ?_) (fun c_56 => ?_)
              · refine lv_iload hx hb dX9_odds_130 (lv_at hl 2 rfl) ?_
                refine lv_iload hx hb dX9_odds_132 (lv_at hl 1 rfl) ?_
                refine lv_idiv hx hb dX9_odds_134 (ne0_of (zy := (aa_52).toInt) (by omega) rfl) ?_
                refine lv_topi (fun z_57 ez_57 => ?_)
                refine W.widen (k := 0) (n := 0) (Nat.le_of_ble_eq_true rfl) (Nat.le_of_ble_eq_true rfl) ?_
                have hP9 := hP.sub (ws' := [oC h0 9 [.int now, .int na, .int nsi, .int nti, .int vc, .int vn, .int vt, .ref b1, .ref b2, .ref b3, .ref b4, .ref b5, .ref b6, .ref b7, .ref b8, .ref b9, .ref b10, .ref b11, .ref b12, .ref b13, .ref b14, .ref b15, .ref b16, .ref b17, .ref b18, .int x_7, .int x_8, .int x_9, .ref b19, .ref b20, .ref b21, .int nca, .ref b22, .ref b23, .int ntm, .ref b24, .ref b25], aI b5 d5 200 ((f5)), aI b8 d8 200 ((f8))]) [0, 1, 2] rfl
                have hD9 := hD.sub (ws' := [oC h0 9 [.int now, .int na, .int nsi, .int nti, .int vc, .int vn, .int vt, .ref b1, .ref b2, .ref b3, .ref b4, .ref b5, .ref b6, .ref b7, .ref b8, .ref b9, .ref b10, .ref b11, .ref b12, .ref b13, .ref b14, .ref b15, .ref b16, .ref b17, .ref b18, .int x_7, .int x_8, .int x_9, .ref b19, .ref b20, .ref b21, .int nca, .ref b22, .ref b23, .int ntm, .ref b24, .ref b25], aI b5 d5 200 ((f5)), aI b8 d8 200 ((f8))]) [0, 1, 2] (by decide) rfl
                have hK9 := hK.sub (tys' := []) [] rfl
                exact W.iret (v := z_57) hx hb hr (fun t ht hW => ⟨⟨z_57, (), rfl, trivial, x_7, x_8, x_9, by rw [ht]; exact hP9, va_K.moved hW.alike hK9, hD9⟩, hS.F ht⟩) hS.2.2 dX9_odds_135
              · refine lv_iload_n hx hb dX9_odds_123 rfl (lv_at hl 3 rfl) ?_
                refine lv_iload hx hb dX9_odds_124 (lv_at hl 1 rfl) ?_
                refine lv_idiv hx hb dX9_odds_126 (ne0_of (zy := (aa_52).toInt) (by omega) rfl) ?_
                refine lv_topi (fun z_58 ez_58 => ?_)
                refine lv_goto (tgt := 135) hx hb dX9_odds_127 (by decide) ?_
                refine W.widen (k := 0) (n := 0) (Nat.le_of_ble_eq_true rfl) (Nat.le_of_ble_eq_true rfl) ?_
                have hP9 := hP.sub (ws' := [oC h0 9 [.int now, .int na, .int nsi, .int nti, .int vc, .int vn, .int vt, .ref b1, .ref b2, .ref b3, .ref b4, .ref b5, .ref b6, .ref b7, .ref b8, .ref b9, .ref b10, .ref b11, .ref b12, .ref b13, .ref b14, .ref b15, .ref b16, .ref b17, .ref b18, .int x_7, .int x_8, .int x_9, .ref b19, .ref b20, .ref b21, .int nca, .ref b22, .ref b23, .int ntm, .ref b24, .ref b25], aI b5 d5 200 ((f5)), aI b8 d8 200 ((f8))]) [0, 1, 2] rfl
                have hD9 := hD.sub (ws' := [oC h0 9 [.int now, .int na, .int nsi, .int nti, .int vc, .int vn, .int vt, .ref b1, .ref b2, .ref b3, .ref b4, .ref b5, .ref b6, .ref b7, .ref b8, .ref b9, .ref b10, .ref b11, .ref b12, .ref b13, .ref b14, .ref b15, .ref b16, .ref b17, .ref b18, .int x_7, .int x_8, .int x_9, .ref b19, .ref b20, .ref b21, .int nca, .ref b22, .ref b23, .int ntm, .ref b24, .ref b25], aI b5 d5 200 ((f5)), aI b8 d8 200 ((f8))]) [0, 1, 2] (by decide) rfl
                have hK9 := hK.sub (tys' := []) [] rfl
                exact W.iret (v := z_58) hx hb hr (fun t ht hW => ⟨⟨z_58, (), rfl, trivial, x_7, x_8, x_9, by rw [ht]; exact hP9, va_K.moved hW.alike hK9, hD9⟩, hS.F ht⟩) hS.2.2 dX9_odds_135
            · refine lv_iconst (v := 1) hx hb dX9_odds_82 (by decide) ?_
              refine lv_istore_n (lv' := [(3, .int 1), (4, .int x_8), (0, .ref h0), (1, .int p0), (2, .int p1)]) hx hb dX9_odds_83 rfl hl (by decide) rfl (fun ls hl => ?_)
              refine lv_iconst (v := 2) hx hb dX9_odds_84 (by decide) ?_
              refine lv_istore (lv' := [(4, .int 2), (3, .int 1), (0, .ref h0), (1, .int p0), (2, .int p1)]) hx hb dX9_odds_85 hl (by decide) rfl (fun ls hl => ?_)
              refine lv_iload_n hx hb dX9_odds_87 rfl (lv_at hl 1 rfl) ?_
              refine lv_istore (lv' := [(5, .int 1), (4, .int 2), (3, .int 1), (0, .ref h0), (1, .int p0), (2, .int p1)]) hx hb dX9_odds_88 hl (by decide) rfl (fun ls hl => ?_)
              refine lv_iload hx hb dX9_odds_90 (lv_at hl 1 rfl) ?_
              refine lv_istore (lv' := [(6, .int 2), (5, .int 1), (4, .int 2), (3, .int 1), (0, .ref h0), (1, .int p0), (2, .int p1)]) hx hb dX9_odds_92 hl (by decide) rfl (fun ls hl => ?_)
              refine ml_odds hx hb hts hml hown hN hK hA ⟨(Nat.le_of_ble_eq_true rfl), (Nat.le_of_ble_eq_true rfl)⟩ ⟨(Nat.le_of_ble_eq_true rfl), (Nat.le_of_ble_eq_true rfl)⟩  (fun bb_59 aa_60 H_61 locs ls h_62 hP hD hS hl => ?_) _ _ _ _ _ _ (by have h3 : (1 : Int32).toInt = 1 := rfl; have h4 : (2 : Int32).toInt = 2 := rfl; omega) (Nat.lt_succ_self _) hP hD hS (lv_sub hl [0, 1, 2, 3, 6, 4, 5] rfl)
              have h_62 : 1 ≤ (aa_60).toInt := h_62
              refine lv_iload_n hx hb dX9_odds_117 rfl (lv_at hl 4 rfl) ?_
              refine lv_iconst (v := 2) hx hb dX9_odds_118 (by decide) ?_
              refine lv_irem hx hb dX9_odds_119 (ne0_of (zy := 2) (by omega) (by decide)) ?_
              refine lv_topi (fun z_63 ez_63 => ?_)
              refine bz_ne (zx := (z_63).toInt) (tgt := 130) hx hb dX9_odds_120 (by decide) rfl (fun c_64 => ?_) (fun c_64 => ?_)
              · refine lv_iload hx hb dX9_odds_130 (lv_at hl 2 rfl) ?_
                refine lv_iload hx hb dX9_odds_132 (lv_at hl 1 rfl) ?_
                refine lv_idiv hx hb dX9_odds_134 (ne0_of (zy := (aa_60).toInt) (by omega) rfl) ?_
                refine lv_topi (fun z_65 ez_65 => ?_)
                refine W.widen (k := 0) (n := 0) (Nat.le_of_ble_eq_true rfl) (Nat.le_of_ble_eq_true rfl) ?_
                have hP9 := hP.sub (ws' := [oC h0 9 [.int now, .int na, .int nsi, .int nti, .int vc, .int vn, .int vt, .ref b1, .ref b2, .ref b3, .ref b4, .ref b5, .ref b6, .ref b7, .ref b8, .ref b9, .ref b10, .ref b11, .ref b12, .ref b13, .ref b14, .ref b15, .ref b16, .ref b17, .ref b18, .int x_7, .int x_8, .int x_9, .ref b19, .ref b20, .ref b21, .int nca, .ref b22, .ref b23, .int ntm, .ref b24, .ref b25], aI b5 d5 200 ((f5)), aI b8 d8 200 ((f8))]) [0, 1, 2] rfl
                have hD9 := hD.sub (ws' := [oC h0 9 [.int now, .int na, .int nsi, .int nti, .int vc, .int vn, .int vt, .ref b1, .ref b2, .ref b3, .ref b4, .ref b5, .ref b6, .ref b7, .ref b8, .ref b9, .ref b10, .ref b11, .ref b12, .ref b13, .ref b14, .ref b15, .ref b16, .ref b17, .ref b18, .int x_7, .int x_8, .int x_9, .ref b19, .ref b20, .ref b21, .int nca, .ref b22, .ref b23, .int ntm, .ref b24, .ref b25], aI b5 d5 200 ((f5)), aI b8 d8 200 ((f8))]) [0, 1, 2] (by decide) rfl
                have hK9 := hK.sub (tys' := []) [] rfl
                exact W.iret (v := z_65) hx hb hr (fun t ht hW => ⟨⟨z_65, (), rfl, trivial, x_7, x_8, x_9, by rw [ht]; exact hP9, va_K.moved hW.alike hK9, hD9⟩, hS.F ht⟩) hS.2.2 dX9_odds_135
              · refine lv_iload_n hx hb dX9_odds_123 rfl (lv_at hl 3 rfl) ?_
                refine lv_iload hx hb dX9_odds_124 (lv_at hl 1 rfl) ?_
                refine lv_idiv hx hb dX9_odds_126 (ne0_of (zy := (aa_60).toInt) (by omega) rfl) ?_
                refine lv_topi (fun z_66 ez_66 => ?_)
                refine lv_goto (tgt := 135) hx hb dX9_odds_127 (by decide) ?_
                refine W.widen (k := 0) (n := 0) (Nat.le_of_ble_eq_true rfl) (Nat.le_of_ble_eq_true rfl) ?_
                have hP9 := hP.sub (ws' := [oC h0 9 [.int now, .int na, .int nsi, .int nti, .int vc, .int vn, .int vt, .ref b1, .ref b2, .ref b3, .ref b4, .ref b5, .ref b6, .ref b7, .ref b8, .ref b9, .ref b10, .ref b11, .ref b12, .ref b13, .ref b14, .ref b15, .ref b16, .ref b17, .ref b18, .int x_7, .int x_8, .int x_9, .ref b19, .ref b20, .ref b21, .int nca, .ref b22, .ref b23, .int ntm, .ref b24, .ref b25], aI b5 d5 200 ((f5)), aI b8 d8 200 ((f8))]) [0, 1, 2] rfl
                have hD9 := hD.sub (ws' := [oC h0 9 [.int now, .int na, .int nsi, .int nti, .int vc, .int vn, .int vt, .ref b1, .ref b2, .ref b3, .ref b4, .ref b5, .ref b6, .ref b7, .ref b8, .ref b9, .ref b10, .ref b11, .ref b12, .ref b13, .ref b14, .ref b15, .ref b16, .ref b17, .ref b18, .int x_7, .int x_8, .int x_9, .ref b19, .ref b20, .ref b21, .int nca, .ref b22, .ref b23, .int ntm, .ref b24, .ref b25], aI b5 d5 200 ((f5)), aI b8 d8 200 ((f8))]) [0, 1, 2] (by decide) rfl
                have hK9 := hK.sub (tys' := []) [] rfl
                exact W.iret (v := z_66) hx hb hr (fun t ht hW => ⟨⟨z_66, (), rfl, trivial, x_7, x_8, x_9, by rw [ht]; exact hP9, va_K.moved hW.alike hK9, hD9⟩, hS.F ht⟩) hS.2.2 dX9_odds_135
      · refine lv_aload_n hx hb dX9_odds_30 rfl (lv_at hl 0 rfl) ?_
        refine va_get (D := D) (ci := 9) (v := .int x_7) (C := RX9) (T := TX9) (N := 37) hx hb hts hin_X9 hown hK hP 0 rfl rfl 25 (by decide) (hts (.fieldLink RX9 131 "CryOrderModel" "trues" "I") (List.mem_cons_of_mem _ (List.mem_append_left _ (List.mem_append_left _ (List.mem_of_getElem? (i := 0) rfl))))) (fun _ h9 => h9) rfl dX9_odds_31 ?_
        refine lv_goto (tgt := 46) hx hb dX9_odds_34 (by decide) ?_
        refine lv_istore_n (lv' := [(3, .int x_7), (0, .ref h0), (1, .int p0), (2, .int p1)]) hx hb dX9_odds_46 rfl hl (by decide) rfl (fun ls hl => ?_)
        refine lv_iload_n hx hb dX9_odds_47 rfl (lv_at hl 3 rfl) ?_
        refine lv_iconst (v := 2) hx hb dX9_odds_48 (by decide) ?_
        refine bi_ge (zx := (p1).toInt) (zy := 2) (tgt := 59) hx hb dX9_odds_49 (by decide) rfl (by decide) (fun c_67 => ?_) (fun c_67 => ?_)
        · refine lv_aload_n hx hb dX9_odds_59 rfl (lv_at hl 1 rfl) ?_
          refine va_get (D := D) (ci := 9) (v := .int x_8) (C := RX9) (T := TX9) (N := 37) hx hb hts hin_X9 hown hK hP 0 rfl rfl 26 (by decide) (hts (.fieldLink RX9 134 "CryOrderModel" "settled" "I") (List.mem_cons_of_mem _ (List.mem_append_left _ (List.mem_append_left _ (List.mem_of_getElem? (i := 2) rfl))))) (fun _ h9 => h9) rfl dX9_odds_60 ?_
          refine lv_aload_n hx hb dX9_odds_63 rfl (lv_at hl 1 rfl) ?_
          refine va_get (D := D) (ci := 9) (v := .int x_9) (C := RX9) (T := TX9) (N := 37) hx hb hts hin_X9 hown hK hP 0 rfl rfl 27 (by decide) (hts (.fieldLink RX9 137 "CryOrderModel" "opens" "I") (List.mem_cons_of_mem _ (List.mem_append_left _ (List.mem_append_left _ (List.mem_of_getElem? (i := 1) rfl))))) (fun _ h9 => h9) rfl dX9_odds_64 ?_
          refine lv_iadd hx hb dX9_odds_67 ?_
          refine lv_topi (fun z_68 ez_68 => ?_)
          have tz_68 := ad_toInt (zx := (x_8).toInt) (zy := (x_9).toInt) ez_68 rfl rfl
          refine lv_istore (lv' := [(4, .int z_68), (3, .int x_7), (0, .ref h0), (1, .int p0), (2, .int p1)]) hx hb dX9_odds_68 hl (by decide) rfl (fun ls hl => ?_)
          refine lv_iload_n hx hb dX9_odds_70 rfl (lv_at hl 4 rfl) ?_
          refine lv_iconst (v := 2) hx hb dX9_odds_71 (by decide) ?_
          refine bi_ge (zx := (p1).toInt) (zy := 2) (tgt := 87) hx hb dX9_odds_72 (by decide) rfl (by decide) (fun c_69 => ?_) (fun c_69 => ?_)
          · refine lv_iload_n hx hb dX9_odds_87 rfl (lv_at hl 1 rfl) ?_
            refine lv_istore (lv' := [(5, .int x_7), (4, .int z_68), (3, .int x_7), (0, .ref h0), (1, .int p0), (2, .int p1)]) hx hb dX9_odds_88 hl (by decide) rfl (fun ls hl => ?_)
            refine lv_iload hx hb dX9_odds_90 (lv_at hl 1 rfl) ?_
            refine lv_istore (lv' := [(6, .int z_68), (5, .int x_7), (4, .int z_68), (3, .int x_7), (0, .ref h0), (1, .int p0), (2, .int p1)]) hx hb dX9_odds_92 hl (by decide) rfl (fun ls hl => ?_)
            refine ml_odds hx hb hts hml hown hN hK hA ⟨(Nat.le_of_ble_eq_true rfl), (Nat.le_of_ble_eq_true rfl)⟩ ⟨(Nat.le_of_ble_eq_true rfl), (Nat.le_of_ble_eq_true rfl)⟩  (fun bb_70 aa_71 H_72 locs ls h_73 hP hD hS hl => ?_) _ _ _ _ _ _ (by have h3 : (1 : Int32).toInt = 1 := rfl; have h4 : (2 : Int32).toInt = 2 := rfl; omega) (Nat.lt_succ_self _) hP hD hS (lv_sub hl [0, 1, 2, 3, 6, 4, 5] rfl)
            have h_73 : 1 ≤ (aa_71).toInt := h_73
            refine lv_iload_n hx hb dX9_odds_117 rfl (lv_at hl 4 rfl) ?_
            refine lv_iconst (v := 2) hx hb dX9_odds_118 (by decide) ?_
            refine lv_irem hx hb dX9_odds_119 (ne0_of (zy := 2) (by omega) (by decide)) ?_
            refine lv_topi (fun z_74 ez_74 => ?_)
            refine bz_ne (zx := (z_74).toInt) (tgt := 130) hx hb dX9_odds_120 (by decide) rfl (fun c_75 => ?_) (fun c_75 => ?_)
            · refine lv_iload hx hb dX9_odds_130 (lv_at hl 2 rfl) ?_
              refine lv_iload hx hb dX9_odds_132 (lv_at hl 1 rfl) ?_
              refine lv_idiv hx hb dX9_odds_134 (ne0_of (zy := (aa_71).toInt) (by omega) rfl) ?_
              refine lv_topi (fun z_76 ez_76 => ?_)
              refine W.widen (k := 0) (n := 0) (Nat.le_of_ble_eq_true rfl) (Nat.le_of_ble_eq_true rfl) ?_
              have hP9 := hP.sub (ws' := [oC h0 9 [.int now, .int na, .int nsi, .int nti, .int vc, .int vn, .int vt, .ref b1, .ref b2, .ref b3, .ref b4, .ref b5, .ref b6, .ref b7, .ref b8, .ref b9, .ref b10, .ref b11, .ref b12, .ref b13, .ref b14, .ref b15, .ref b16, .ref b17, .ref b18, .int x_7, .int x_8, .int x_9, .ref b19, .ref b20, .ref b21, .int nca, .ref b22, .ref b23, .int ntm, .ref b24, .ref b25], aI b5 d5 200 ((f5)), aI b8 d8 200 ((f8))]) [0, 1, 2] rfl
              have hD9 := hD.sub (ws' := [oC h0 9 [.int now, .int na, .int nsi, .int nti, .int vc, .int vn, .int vt, .ref b1, .ref b2, .ref b3, .ref b4, .ref b5, .ref b6, .ref b7, .ref b8, .ref b9, .ref b10, .ref b11, .ref b12, .ref b13, .ref b14, .ref b15, .ref b16, .ref b17, .ref b18, .int x_7, .int x_8, .int x_9, .ref b19, .ref b20, .ref b21, .int nca, .ref b22, .ref b23, .int ntm, .ref b24, .ref b25], aI b5 d5 200 ((f5)), aI b8 d8 200 ((f8))]) [0, 1, 2] (by decide) rfl
              have hK9 := hK.sub (tys' := []) [] rfl
              exact W.iret (v := z_76) hx hb hr (fun t ht hW => ⟨⟨z_76, (), rfl, trivial, x_7, x_8, x_9, by rw [ht]; exact hP9, va_K.moved hW.alike hK9, hD9⟩, hS.F ht⟩) hS.2.2 dX9_odds_135
            · refine lv_iload_n hx hb dX9_odds_123 rfl (lv_at hl 3 rfl) ?_
              refine lv_iload hx hb dX9_odds_124 (lv_at hl 1 rfl) ?_
              refine lv_idiv hx hb dX9_odds_126 (ne0_of (zy := (aa_71).toInt) (by omega) rfl) ?_
              refine lv_topi (fun z_77 ez_77 => ?_)
              refine lv_goto (tgt := 135) hx hb dX9_odds_127 (by decide) ?_
              refine W.widen (k := 0) (n := 0) (Nat.le_of_ble_eq_true rfl) (Nat.le_of_ble_eq_true rfl) ?_
              have hP9 := hP.sub (ws' := [oC h0 9 [.int now, .int na, .int nsi, .int nti, .int vc, .int vn, .int vt, .ref b1, .ref b2, .ref b3, .ref b4, .ref b5, .ref b6, .ref b7, .ref b8, .ref b9, .ref b10, .ref b11, .ref b12, .ref b13, .ref b14, .ref b15, .ref b16, .ref b17, .ref b18, .int x_7, .int x_8, .int x_9, .ref b19, .ref b20, .ref b21, .int nca, .ref b22, .ref b23, .int ntm, .ref b24, .ref b25], aI b5 d5 200 ((f5)), aI b8 d8 200 ((f8))]) [0, 1, 2] rfl
              have hD9 := hD.sub (ws' := [oC h0 9 [.int now, .int na, .int nsi, .int nti, .int vc, .int vn, .int vt, .ref b1, .ref b2, .ref b3, .ref b4, .ref b5, .ref b6, .ref b7, .ref b8, .ref b9, .ref b10, .ref b11, .ref b12, .ref b13, .ref b14, .ref b15, .ref b16, .ref b17, .ref b18, .int x_7, .int x_8, .int x_9, .ref b19, .ref b20, .ref b21, .int nca, .ref b22, .ref b23, .int ntm, .ref b24, .ref b25], aI b5 d5 200 ((f5)), aI b8 d8 200 ((f8))]) [0, 1, 2] (by decide) rfl
              have hK9 := hK.sub (tys' := []) [] rfl
              exact W.iret (v := z_77) hx hb hr (fun t ht hW => ⟨⟨z_77, (), rfl, trivial, x_7, x_8, x_9, by rw [ht]; exact hP9, va_K.moved hW.alike hK9, hD9⟩, hS.F ht⟩) hS.2.2 dX9_odds_135
          · refine lv_aload_n hx hb dX9_odds_75 rfl (lv_at hl 2 rfl) ?_
            refine va_get (D := D) (ci := 9) (v := .int x_8) (C := RX9) (T := TX9) (N := 37) hx hb hts hin_X9 hown hK hP 0 rfl rfl 26 (by decide) (hts (.fieldLink RX9 134 "CryOrderModel" "settled" "I") (List.mem_cons_of_mem _ (List.mem_append_left _ (List.mem_append_left _ (List.mem_of_getElem? (i := 2) rfl))))) (fun _ h9 => h9) rfl dX9_odds_76 ?_
            refine bz_ne (zx := (x_8).toInt) (tgt := 87) hx hb dX9_odds_79 (by decide) rfl (fun c_78 => ?_) (fun c_78 => ?_)
            · refine lv_iload_n hx hb dX9_odds_87 rfl (lv_at hl 1 rfl) ?_
              refine lv_istore (lv' := [(5, .int x_7), (4, .int z_68), (3, .int x_7), (0, .ref h0), (1, .int p0), (2, .int p1)]) hx hb dX9_odds_88 hl (by decide) rfl (fun ls hl => ?_)
              refine lv_iload hx hb dX9_odds_90 (lv_at hl 1 rfl) ?_
              refine lv_istore (lv' := [(6, .int z_68), (5, .int x_7), (4, .int z_68), (3, .int x_7), (0, .ref h0), (1, .int p0), (2, .int p1)]) hx hb dX9_odds_92 hl (by decide) rfl (fun ls hl => ?_)
              refine ml_odds hx hb hts hml hown hN hK hA ⟨(Nat.le_of_ble_eq_true rfl), (Nat.le_of_ble_eq_true rfl)⟩ ⟨(Nat.le_of_ble_eq_true rfl), (Nat.le_of_ble_eq_true rfl)⟩  (fun bb_79 aa_80 H_81 locs ls h_82 hP hD hS hl => ?_) _ _ _ _ _ _ (by have h3 : (1 : Int32).toInt = 1 := rfl; have h4 : (2 : Int32).toInt = 2 := rfl; omega) (Nat.lt_succ_self _) hP hD hS (lv_sub hl [0, 1, 2, 3, 6, 4, 5] rfl)
              have h_82 : 1 ≤ (aa_80).toInt := h_82
              refine lv_iload_n hx hb dX9_odds_117 rfl (lv_at hl 4 rfl) ?_
              refine lv_iconst (v := 2) hx hb dX9_odds_118 (by decide) ?_
              refine lv_irem hx hb dX9_odds_119 (ne0_of (zy := 2) (by omega) (by decide)) ?_
              refine lv_topi (fun z_83 ez_83 => ?_)
              refine bz_ne (zx := (z_83).toInt) (tgt := 130) hx hb dX9_odds_120 (by decide) rfl (fun c_84 => ?_) (fun c_84 => ?_)
              · refine lv_iload hx hb dX9_odds_130 (lv_at hl 2 rfl) ?_
                refine lv_iload hx hb dX9_odds_132 (lv_at hl 1 rfl) ?_
                refine lv_idiv hx hb dX9_odds_134 (ne0_of (zy := (aa_80).toInt) (by omega) rfl) ?_
                refine lv_topi (fun z_85 ez_85 => ?_)
                refine W.widen (k := 0) (n := 0) (Nat.le_of_ble_eq_true rfl) (Nat.le_of_ble_eq_true rfl) ?_
                have hP9 := hP.sub (ws' := [oC h0 9 [.int now, .int na, .int nsi, .int nti, .int vc, .int vn, .int vt, .ref b1, .ref b2, .ref b3, .ref b4, .ref b5, .ref b6, .ref b7, .ref b8, .ref b9, .ref b10, .ref b11, .ref b12, .ref b13, .ref b14, .ref b15, .ref b16, .ref b17, .ref b18, .int x_7, .int x_8, .int x_9, .ref b19, .ref b20, .ref b21, .int nca, .ref b22, .ref b23, .int ntm, .ref b24, .ref b25], aI b5 d5 200 ((f5)), aI b8 d8 200 ((f8))]) [0, 1, 2] rfl
                have hD9 := hD.sub (ws' := [oC h0 9 [.int now, .int na, .int nsi, .int nti, .int vc, .int vn, .int vt, .ref b1, .ref b2, .ref b3, .ref b4, .ref b5, .ref b6, .ref b7, .ref b8, .ref b9, .ref b10, .ref b11, .ref b12, .ref b13, .ref b14, .ref b15, .ref b16, .ref b17, .ref b18, .int x_7, .int x_8, .int x_9, .ref b19, .ref b20, .ref b21, .int nca, .ref b22, .ref b23, .int ntm, .ref b24, .ref b25], aI b5 d5 200 ((f5)), aI b8 d8 200 ((f8))]) [0, 1, 2] (by decide) rfl
                have hK9 := hK.sub (tys' := []) [] rfl
                exact W.iret (v := z_85) hx hb hr (fun t ht hW => ⟨⟨z_85, (), rfl, trivial, x_7, x_8, x_9, by rw [ht]; exact hP9, va_K.moved hW.alike hK9, hD9⟩, hS.F ht⟩) hS.2.2 dX9_odds_135
              · refine lv_iload_n hx hb dX9_odds_123 rfl (lv_at hl 3 rfl) ?_
                refine lv_iload hx hb dX9_odds_124 (lv_at hl 1 rfl) ?_
                refine lv_idiv hx hb dX9_odds_126 (ne0_of (zy := (aa_80).toInt) (by omega) rfl) ?_
                refine lv_topi (fun z_86 ez_86 => ?_)
                refine lv_goto (tgt := 135) hx hb dX9_odds_127 (by decide) ?_
                refine W.widen (k := 0) (n := 0) (Nat.le_of_ble_eq_true rfl) (Nat.le_of_ble_eq_true rfl) ?_
                have hP9 := hP.sub (ws' := [oC h0 9 [.int now, .int na, .int nsi, .int nti, .int vc, .int vn, .int vt, .ref b1, .ref b2, .ref b3, .ref b4, .ref b5, .ref b6, .ref b7, .ref b8, .ref b9, .ref b10, .ref b11, .ref b12, .ref b13, .ref b14, .ref b15, .ref b16, .ref b17, .ref b18, .int x_7, .int x_8, .int x_9, .ref b19, .ref b20, .ref b21, .int nca, .ref b22, .ref b23, .int ntm, .ref b24, .ref b25], aI b5 d5 200 ((f5)), aI b8 d8 200 ((f8))]) [0, 1, 2] rfl
                have hD9 := hD.sub (ws' := [oC h0 9 [.int now, .int na, .int nsi, .int nti, .int vc, .int vn, .int vt, .ref b1, .ref b2, .ref b3, .ref b4, .ref b5, .ref b6, .ref b7, .ref b8, .ref b9, .ref b10, .ref b11, .ref b12, .ref b13, .ref b14, .ref b15, .ref b16, .ref b17, .ref b18, .int x_7, .int x_8, .int x_9, .ref b19, .ref b20, .ref b21, .int nca, .ref b22, .ref b23, .int ntm, .ref b24, .ref b25], aI b5 d5 200 ((f5)), aI b8 d8 200 ((f8))]) [0, 1, 2] (by decide) rfl
                have hK9 := hK.sub (tys' := []) [] rfl
                exact W.iret (v := z_86) hx hb hr (fun t ht hW => ⟨⟨z_86, (), rfl, trivial, x_7, x_8, x_9, by rw [ht]; exact hP9, va_K.moved hW.alike hK9, hD9⟩, hS.F ht⟩) hS.2.2 dX9_odds_135
            · refine lv_iconst (v := 1) hx hb dX9_odds_82 (by decide) ?_
              refine lv_istore_n (lv' := [(3, .int 1), (4, .int z_68), (0, .ref h0), (1, .int p0), (2, .int p1)]) hx hb dX9_odds_83 rfl hl (by decide) rfl (fun ls hl => ?_)
              refine lv_iconst (v := 2) hx hb dX9_odds_84 (by decide) ?_
              refine lv_istore (lv' := [(4, .int 2), (3, .int 1), (0, .ref h0), (1, .int p0), (2, .int p1)]) hx hb dX9_odds_85 hl (by decide) rfl (fun ls hl => ?_)
              refine lv_iload_n hx hb dX9_odds_87 rfl (lv_at hl 1 rfl) ?_
              refine lv_istore (lv' := [(5, .int 1), (4, .int 2), (3, .int 1), (0, .ref h0), (1, .int p0), (2, .int p1)]) hx hb dX9_odds_88 hl (by decide) rfl (fun ls hl => ?_)
              refine lv_iload hx hb dX9_odds_90 (lv_at hl 1 rfl) ?_
              refine lv_istore (lv' := [(6, .int 2), (5, .int 1), (4, .int 2), (3, .int 1), (0, .ref h0), (1, .int p0), (2, .int p1)]) hx hb dX9_odds_92 hl (by decide) rfl (fun ls hl => ?_)
              refine ml_odds hx hb hts hml hown hN hK hA ⟨(Nat.le_of_ble_eq_true rfl), (Nat.le_of_ble_eq_true rfl)⟩ ⟨(Nat.le_of_ble_eq_true rfl), (Nat.le_of_ble_eq_true rfl)⟩  (fun bb_87 aa_88 H_89 locs ls h_90 hP hD hS hl => ?_) _ _ _ _ _ _ (by have h3 : (1 : Int32).toInt = 1 := rfl; have h4 : (2 : Int32).toInt = 2 := rfl; omega) (Nat.lt_succ_self _) hP hD hS (lv_sub hl [0, 1, 2, 3, 6, 4, 5] rfl)
              have h_90 : 1 ≤ (aa_88).toInt := h_90
              refine lv_iload_n hx hb dX9_odds_117 rfl (lv_at hl 4 rfl) ?_
              refine lv_iconst (v := 2) hx hb dX9_odds_118 (by decide) ?_
              refine lv_irem hx hb dX9_odds_119 (ne0_of (zy := 2) (by omega) (by decide)) ?_
              refine lv_topi (fun z_91 ez_91 => ?_)
              refine bz_ne (zx := (z_91).toInt) (tgt := 130) hx hb dX9_odds_120 (by decide) rfl (fun c_92 => ?_) (fun c_92 => ?_)
              · refine lv_iload hx hb dX9_odds_130 (lv_at hl 2 rfl) ?_
                refine lv_iload hx hb dX9_odds_132 (lv_at hl 1 rfl) ?_
                refine lv_idiv hx hb dX9_odds_134 (ne0_of (zy := (aa_88).toInt) (by omega) rfl) ?_
                refine lv_topi (fun z_93 ez_93 => ?_)
                refine W.widen (k := 0) (n := 0) (Nat.le_of_ble_eq_true rfl) (Nat.le_of_ble_eq_true rfl) ?_
                have hP9 := hP.sub (ws' := [oC h0 9 [.int now, .int na, .int nsi, .int nti, .int vc, .int vn, .int vt, .ref b1, .ref b2, .ref b3, .ref b4, .ref b5, .ref b6, .ref b7, .ref b8, .ref b9, .ref b10, .ref b11, .ref b12, .ref b13, .ref b14, .ref b15, .ref b16, .ref b17, .ref b18, .int x_7, .int x_8, .int x_9, .ref b19, .ref b20, .ref b21, .int nca, .ref b22, .ref b23, .int ntm, .ref b24, .ref b25], aI b5 d5 200 ((f5)), aI b8 d8 200 ((f8))]) [0, 1, 2] rfl
                have hD9 := hD.sub (ws' := [oC h0 9 [.int now, .int na, .int nsi, .int nti, .int vc, .int vn, .int vt, .ref b1, .ref b2, .ref b3, .ref b4, .ref b5, .ref b6, .ref b7, .ref b8, .ref b9, .ref b10, .ref b11, .ref b12, .ref b13, .ref b14, .ref b15, .ref b16, .ref b17, .ref b18, .int x_7, .int x_8, .int x_9, .ref b19, .ref b20, .ref b21, .int nca, .ref b22, .ref b23, .int ntm, .ref b24, .ref b25], aI b5 d5 200 ((f5)), aI b8 d8 200 ((f8))]) [0, 1, 2] (by decide) rfl
                have hK9 := hK.sub (tys' := []) [] rfl
                exact W.iret (v := z_93) hx hb hr (fun t ht hW => ⟨⟨z_93, (), rfl, trivial, x_7, x_8, x_9, by rw [ht]; exact hP9, va_K.moved hW.alike hK9, hD9⟩, hS.F ht⟩) hS.2.2 dX9_odds_135
              · refine lv_iload_n hx hb dX9_odds_123 rfl (lv_at hl 3 rfl) ?_
                refine lv_iload hx hb dX9_odds_124 (lv_at hl 1 rfl) ?_
                refine lv_idiv hx hb dX9_odds_126 (ne0_of (zy := (aa_88).toInt) (by omega) rfl) ?_
                refine lv_topi (fun z_94 ez_94 => ?_)
                refine lv_goto (tgt := 135) hx hb dX9_odds_127 (by decide) ?_
                refine W.widen (k := 0) (n := 0) (Nat.le_of_ble_eq_true rfl) (Nat.le_of_ble_eq_true rfl) ?_
                have hP9 := hP.sub (ws' := [oC h0 9 [.int now, .int na, .int nsi, .int nti, .int vc, .int vn, .int vt, .ref b1, .ref b2, .ref b3, .ref b4, .ref b5, .ref b6, .ref b7, .ref b8, .ref b9, .ref b10, .ref b11, .ref b12, .ref b13, .ref b14, .ref b15, .ref b16, .ref b17, .ref b18, .int x_7, .int x_8, .int x_9, .ref b19, .ref b20, .ref b21, .int nca, .ref b22, .ref b23, .int ntm, .ref b24, .ref b25], aI b5 d5 200 ((f5)), aI b8 d8 200 ((f8))]) [0, 1, 2] rfl
                have hD9 := hD.sub (ws' := [oC h0 9 [.int now, .int na, .int nsi, .int nti, .int vc, .int vn, .int vt, .ref b1, .ref b2, .ref b3, .ref b4, .ref b5, .ref b6, .ref b7, .ref b8, .ref b9, .ref b10, .ref b11, .ref b12, .ref b13, .ref b14, .ref b15, .ref b16, .ref b17, .ref b18, .int x_7, .int x_8, .int x_9, .ref b19, .ref b20, .ref b21, .int nca, .ref b22, .ref b23, .int ntm, .ref b24, .ref b25], aI b5 d5 200 ((f5)), aI b8 d8 200 ((f8))]) [0, 1, 2] (by decide) rfl
                have hK9 := hK.sub (tys' := []) [] rfl
                exact W.iret (v := z_94) hx hb hr (fun t ht hW => ⟨⟨z_94, (), rfl, trivial, x_7, x_8, x_9, by rw [ht]; exact hP9, va_K.moved hW.alike hK9, hD9⟩, hS.F ht⟩) hS.2.2 dX9_odds_135
        · refine lv_aload_n hx hb dX9_odds_52 rfl (lv_at hl 1 rfl) ?_
          refine va_get (D := D) (ci := 9) (v := .int x_8) (C := RX9) (T := TX9) (N := 37) hx hb hts hin_X9 hown hK hP 0 rfl rfl 26 (by decide) (hts (.fieldLink RX9 134 "CryOrderModel" "settled" "I") (List.mem_cons_of_mem _ (List.mem_append_left _ (List.mem_append_left _ (List.mem_of_getElem? (i := 2) rfl))))) (fun _ h9 => h9) rfl dX9_odds_53 ?_
          refine lv_goto (tgt := 68) hx hb dX9_odds_56 (by decide) ?_
          refine lv_istore (lv' := [(4, .int x_8), (3, .int x_7), (0, .ref h0), (1, .int p0), (2, .int p1)]) hx hb dX9_odds_68 hl (by decide) rfl (fun ls hl => ?_)
          refine lv_iload_n hx hb dX9_odds_70 rfl (lv_at hl 4 rfl) ?_
          refine lv_iconst (v := 2) hx hb dX9_odds_71 (by decide) ?_
          refine bi_ge (zx := (p1).toInt) (zy := 2) (tgt := 87) hx hb dX9_odds_72 (by decide) rfl (by decide) (fun c_95 => ?_) (fun c_95 => ?_)
          · refine lv_iload_n hx hb dX9_odds_87 rfl (lv_at hl 1 rfl) ?_
            refine lv_istore (lv' := [(5, .int x_7), (4, .int x_8), (3, .int x_7), (0, .ref h0), (1, .int p0), (2, .int p1)]) hx hb dX9_odds_88 hl (by decide) rfl (fun ls hl => ?_)
            refine lv_iload hx hb dX9_odds_90 (lv_at hl 1 rfl) ?_
            refine lv_istore (lv' := [(6, .int x_8), (5, .int x_7), (4, .int x_8), (3, .int x_7), (0, .ref h0), (1, .int p0), (2, .int p1)]) hx hb dX9_odds_92 hl (by decide) rfl (fun ls hl => ?_)
            refine ml_odds hx hb hts hml hown hN hK hA ⟨(Nat.le_of_ble_eq_true rfl), (Nat.le_of_ble_eq_true rfl)⟩ ⟨(Nat.le_of_ble_eq_true rfl), (Nat.le_of_ble_eq_true rfl)⟩  (fun bb_96 aa_97 H_98 locs ls h_99 hP hD hS hl => ?_) _ _ _ _ _ _ (by have h3 : (1 : Int32).toInt = 1 := rfl; have h4 : (2 : Int32).toInt = 2 := rfl; omega) (Nat.lt_succ_self _) hP hD hS (lv_sub hl [0, 1, 2, 3, 6, 4, 5] rfl)
            have h_99 : 1 ≤ (aa_97).toInt := h_99
            refine lv_iload_n hx hb dX9_odds_117 rfl (lv_at hl 4 rfl) ?_
            refine lv_iconst (v := 2) hx hb dX9_odds_118 (by decide) ?_
            refine lv_irem hx hb dX9_odds_119 (ne0_of (zy := 2) (by omega) (by decide)) ?_
            refine lv_topi (fun z_100 ez_100 => ?_)
            refine bz_ne (zx := (z_100).toInt) (tgt := 130) hx hb dX9_odds_120 (by decide) rfl (fun c_101 => ?_) (fun c_101 => ?_)
            · refine lv_iload hx hb dX9_odds_130 (lv_at hl 2 rfl) ?_
              refine lv_iload hx hb dX9_odds_132 (lv_at hl 1 rfl) ?_
              refine lv_idiv hx hb dX9_odds_134 (ne0_of (zy := (aa_97).toInt) (by omega) rfl) ?_
              refine lv_topi (fun z_102 ez_102 => ?_)
              refine W.widen (k := 0) (n := 0) (Nat.le_of_ble_eq_true rfl) (Nat.le_of_ble_eq_true rfl) ?_
              have hP9 := hP.sub (ws' := [oC h0 9 [.int now, .int na, .int nsi, .int nti, .int vc, .int vn, .int vt, .ref b1, .ref b2, .ref b3, .ref b4, .ref b5, .ref b6, .ref b7, .ref b8, .ref b9, .ref b10, .ref b11, .ref b12, .ref b13, .ref b14, .ref b15, .ref b16, .ref b17, .ref b18, .int x_7, .int x_8, .int x_9, .ref b19, .ref b20, .ref b21, .int nca, .ref b22, .ref b23, .int ntm, .ref b24, .ref b25], aI b5 d5 200 ((f5)), aI b8 d8 200 ((f8))]) [0, 1, 2] rfl
              have hD9 := hD.sub (ws' := [oC h0 9 [.int now, .int na, .int nsi, .int nti, .int vc, .int vn, .int vt, .ref b1, .ref b2, .ref b3, .ref b4, .ref b5, .ref b6, .ref b7, .ref b8, .ref b9, .ref b10, .ref b11, .ref b12, .ref b13, .ref b14, .ref b15, .ref b16, .ref b17, .ref b18, .int x_7, .int x_8, .int x_9, .ref b19, .ref b20, .ref b21, .int nca, .ref b22, .ref b23, .int ntm, .ref b24, .ref b25], aI b5 d5 200 ((f5)), aI b8 d8 200 ((f8))]) [0, 1, 2] (by decide) rfl
              have hK9 := hK.sub (tys' := []) [] rfl
              exact W.iret (v := z_102) hx hb hr (fun t ht hW => ⟨⟨z_102, (), rfl, trivial, x_7, x_8, x_9, by rw [ht]; exact hP9, va_K.moved hW.alike hK9, hD9⟩, hS.F ht⟩) hS.2.2 dX9_odds_135
            · refine lv_iload_n hx hb dX9_odds_123 rfl (lv_at hl 3 rfl) ?_
              refine lv_iload hx hb dX9_odds_124 (lv_at hl 1 rfl) ?_
              refine lv_idiv hx hb dX9_odds_126 (ne0_of (zy := (aa_97).toInt) (by omega) rfl) ?_
              refine lv_topi (fun z_103 ez_103 => ?_)
              refine lv_goto (tgt := 135) hx hb dX9_odds_127 (by decide) ?_
              refine W.widen (k := 0) (n := 0) (Nat.le_of_ble_eq_true rfl) (Nat.le_of_ble_eq_true rfl) ?_
              have hP9 := hP.sub (ws' := [oC h0 9 [.int now, .int na, .int nsi, .int nti, .int vc, .int vn, .int vt, .ref b1, .ref b2, .ref b3, .ref b4, .ref b5, .ref b6, .ref b7, .ref b8, .ref b9, .ref b10, .ref b11, .ref b12, .ref b13, .ref b14, .ref b15, .ref b16, .ref b17, .ref b18, .int x_7, .int x_8, .int x_9, .ref b19, .ref b20, .ref b21, .int nca, .ref b22, .ref b23, .int ntm, .ref b24, .ref b25], aI b5 d5 200 ((f5)), aI b8 d8 200 ((f8))]) [0, 1, 2] rfl
              have hD9 := hD.sub (ws' := [oC h0 9 [.int now, .int na, .int nsi, .int nti, .int vc, .int vn, .int vt, .ref b1, .ref b2, .ref b3, .ref b4, .ref b5, .ref b6, .ref b7, .ref b8, .ref b9, .ref b10, .ref b11, .ref b12, .ref b13, .ref b14, .ref b15, .ref b16, .ref b17, .ref b18, .int x_7, .int x_8, .int x_9, .ref b19, .ref b20, .ref b21, .int nca, .ref b22, .ref b23, .int ntm, .ref b24, .ref b25], aI b5 d5 200 ((f5)), aI b8 d8 200 ((f8))]) [0, 1, 2] (by decide) rfl
              have hK9 := hK.sub (tys' := []) [] rfl
              exact W.iret (v := z_103) hx hb hr (fun t ht hW => ⟨⟨z_103, (), rfl, trivial, x_7, x_8, x_9, by rw [ht]; exact hP9, va_K.moved hW.alike hK9, hD9⟩, hS.F ht⟩) hS.2.2 dX9_odds_135
          · refine lv_aload_n hx hb dX9_odds_75 rfl (lv_at hl 2 rfl) ?_
            refine va_get (D := D) (ci := 9) (v := .int x_8) (C := RX9) (T := TX9) (N := 37) hx hb hts hin_X9 hown hK hP 0 rfl rfl 26 (by decide) (hts (.fieldLink RX9 134 "CryOrderModel" "settled" "I") (List.mem_cons_of_mem _ (List.mem_append_left _ (List.mem_append_left _ (List.mem_of_getElem? (i := 2) rfl))))) (fun _ h9 => h9) rfl dX9_odds_76 ?_
            refine bz_ne (zx := (x_8).toInt) (tgt := 87) hx hb dX9_odds_79 (by decide) rfl (fun c_104 => ?_) (fun c_104 => ?_)
            · refine lv_iload_n hx hb dX9_odds_87 rfl (lv_at hl 1 rfl) ?_
              refine lv_istore (lv' := [(5, .int x_7), (4, .int x_8), (3, .int x_7), (0, .ref h0), (1, .int p0), (2, .int p1)]) hx hb dX9_odds_88 hl (by decide) rfl (fun ls hl => ?_)
              refine lv_iload hx hb dX9_odds_90 (lv_at hl 1 rfl) ?_
              refine lv_istore (lv' := [(6, .int x_8), (5, .int x_7), (4, .int x_8), (3, .int x_7), (0, .ref h0), (1, .int p0), (2, .int p1)]) hx hb dX9_odds_92 hl (by decide) rfl (fun ls hl => ?_)
              refine ml_odds hx hb hts hml hown hN hK hA ⟨(Nat.le_of_ble_eq_true rfl), (Nat.le_of_ble_eq_true rfl)⟩ ⟨(Nat.le_of_ble_eq_true rfl), (Nat.le_of_ble_eq_true rfl)⟩  (fun bb_105 aa_106 H_107 locs ls h_108 hP hD hS hl => ?_) _ _ _ _ _ _ (by have h3 : (1 : Int32).toInt = 1 := rfl; have h4 : (2 : Int32).toInt = 2 := rfl; omega) (Nat.lt_succ_self _) hP hD hS (lv_sub hl [0, 1, 2, 3, 6, 4, 5] rfl)
              have h_108 : 1 ≤ (aa_106).toInt := h_108
              refine lv_iload_n hx hb dX9_odds_117 rfl (lv_at hl 4 rfl) ?_
              refine lv_iconst (v := 2) hx hb dX9_odds_118 (by decide) ?_
              refine lv_irem hx hb dX9_odds_119 (ne0_of (zy := 2) (by omega) (by decide)) ?_
              refine lv_topi (fun z_109 ez_109 => ?_)
              refine bz_ne (zx := (z_109).toInt) (tgt := 130) hx hb dX9_odds_120 (by decide) rfl (fun c_110 => ?_) (fun c_110 => ?_)
              · refine lv_iload hx hb dX9_odds_130 (lv_at hl 2 rfl) ?_
                refine lv_iload hx hb dX9_odds_132 (lv_at hl 1 rfl) ?_
                refine lv_idiv hx hb dX9_odds_134 (ne0_of (zy := (aa_106).toInt) (by omega) rfl) ?_
                refine lv_topi (fun z_111 ez_111 => ?_)
                refine W.widen (k := 0) (n := 0) (Nat.le_of_ble_eq_true rfl) (Nat.le_of_ble_eq_true rfl) ?_
                have hP9 := hP.sub (ws' := [oC h0 9 [.int now, .int na, .int nsi, .int nti, .int vc, .int vn, .int vt, .ref b1, .ref b2, .ref b3, .ref b4, .ref b5, .ref b6, .ref b7, .ref b8, .ref b9, .ref b10, .ref b11, .ref b12, .ref b13, .ref b14, .ref b15, .ref b16, .ref b17, .ref b18, .int x_7, .int x_8, .int x_9, .ref b19, .ref b20, .ref b21, .int nca, .ref b22, .ref b23, .int ntm, .ref b24, .ref b25], aI b5 d5 200 ((f5)), aI b8 d8 200 ((f8))]) [0, 1, 2] rfl
                have hD9 := hD.sub (ws' := [oC h0 9 [.int now, .int na, .int nsi, .int nti, .int vc, .int vn, .int vt, .ref b1, .ref b2, .ref b3, .ref b4, .ref b5, .ref b6, .ref b7, .ref b8, .ref b9, .ref b10, .ref b11, .ref b12, .ref b13, .ref b14, .ref b15, .ref b16, .ref b17, .ref b18, .int x_7, .int x_8, .int x_9, .ref b19, .ref b20, .ref b21, .int nca, .ref b22, .ref b23, .int ntm, .ref b24, .ref b25], aI b5 d5 200 ((f5)), aI b8 d8 200 ((f8))]) [0, 1, 2] (by decide) rfl
                have hK9 := hK.sub (tys' := []) [] rfl
                exact W.iret (v := z_111) hx hb hr (fun t ht hW => ⟨⟨z_111, (), rfl, trivial, x_7, x_8, x_9, by rw [ht]; exact hP9, va_K.moved hW.alike hK9, hD9⟩, hS.F ht⟩) hS.2.2 dX9_odds_135
              · refine lv_iload_n hx hb dX9_odds_123 rfl (lv_at hl 3 rfl) ?_
                refine lv_iload hx hb dX9_odds_124 (lv_at hl 1 rfl) ?_
                refine lv_idiv hx hb dX9_odds_126 (ne0_of (zy := (aa_106).toInt) (by omega) rfl) ?_
                refine lv_topi (fun z_112 ez_112 => ?_)
                refine lv_goto (tgt := 135) hx hb dX9_odds_127 (by decide) ?_
                refine W.widen (k := 0) (n := 0) (Nat.le_of_ble_eq_true rfl) (Nat.le_of_ble_eq_true rfl) ?_
                have hP9 := hP.sub (ws' := [oC h0 9 [.int now, .int na, .int nsi, .int nti, .int vc, .int vn, .int vt, .ref b1, .ref b2, .ref b3, .ref b4, .ref b5, .ref b6, .ref b7, .ref b8, .ref b9, .ref b10, .ref b11, .ref b12, .ref b13, .ref b14, .ref b15, .ref b16, .ref b17, .ref b18, .int x_7, .int x_8, .int x_9, .ref b19, .ref b20, .ref b21, .int nca, .ref b22, .ref b23, .int ntm, .ref b24, .ref b25], aI b5 d5 200 ((f5)), aI b8 d8 200 ((f8))]) [0, 1, 2] rfl
                have hD9 := hD.sub (ws' := [oC h0 9 [.int now, .int na, .int nsi, .int nti, .int vc, .int vn, .int vt, .ref b1, .ref b2, .ref b3, .ref b4, .ref b5, .ref b6, .ref b7, .ref b8, .ref b9, .ref b10, .ref b11, .ref b12, .ref b13, .ref b14, .ref b15, .ref b16, .ref b17, .ref b18, .int x_7, .int x_8, .int x_9, .ref b19, .ref b20, .ref b21, .int nca, .ref b22, .ref b23, .int ntm, .ref b24, .ref b25], aI b5 d5 200 ((f5)), aI b8 d8 200 ((f8))]) [0, 1, 2] (by decide) rfl
                have hK9 := hK.sub (tys' := []) [] rfl
                exact W.iret (v := z_112) hx hb hr (fun t ht hW => ⟨⟨z_112, (), rfl, trivial, x_7, x_8, x_9, by rw [ht]; exact hP9, va_K.moved hW.alike hK9, hD9⟩, hS.F ht⟩) hS.2.2 dX9_odds_135
            · refine lv_iconst (v := 1) hx hb dX9_odds_82 (by decide) ?_
              refine lv_istore_n (lv' := [(3, .int 1), (4, .int x_8), (0, .ref h0), (1, .int p0), (2, .int p1)]) hx hb dX9_odds_83 rfl hl (by decide) rfl (fun ls hl => ?_)
              refine lv_iconst (v := 2) hx hb dX9_odds_84 (by decide) ?_
              refine lv_istore (lv' := [(4, .int 2), (3, .int 1), (0, .ref h0), (1, .int p0), (2, .int p1)]) hx hb dX9_odds_85 hl (by decide) rfl (fun ls hl => ?_)
              refine lv_iload_n hx hb dX9_odds_87 rfl (lv_at hl 1 rfl) ?_
              refine lv_istore (lv' := [(5, .int 1), (4, .int 2), (3, .int 1), (0, .ref h0), (1, .int p0), (2, .int p1)]) hx hb dX9_odds_88 hl (by decide) rfl (fun ls hl => ?_)
              refine lv_iload hx hb dX9_odds_90 (lv_at hl 1 rfl) ?_
              refine lv_istore (lv' := [(6, .int 2), (5, .int 1), (4, .int 2), (3, .int 1), (0, .ref h0), (1, .int p0), (2, .int p1)]) hx hb dX9_odds_92 hl (by decide) rfl (fun ls hl => ?_)
              refine ml_odds hx hb hts hml hown hN hK hA ⟨(Nat.le_of_ble_eq_true rfl), (Nat.le_of_ble_eq_true rfl)⟩ ⟨(Nat.le_of_ble_eq_true rfl), (Nat.le_of_ble_eq_true rfl)⟩  (fun bb_113 aa_114 H_115 locs ls h_116 hP hD hS hl => ?_) _ _ _ _ _ _ (by have h3 : (1 : Int32).toInt = 1 := rfl; have h4 : (2 : Int32).toInt = 2 := rfl; omega) (Nat.lt_succ_self _) hP hD hS (lv_sub hl [0, 1, 2, 3, 6, 4, 5] rfl)
              have h_116 : 1 ≤ (aa_114).toInt := h_116
              refine lv_iload_n hx hb dX9_odds_117 rfl (lv_at hl 4 rfl) ?_
              refine lv_iconst (v := 2) hx hb dX9_odds_118 (by decide) ?_
              refine lv_irem hx hb dX9_odds_119 (ne0_of (zy := 2) (by omega) (by decide)) ?_
              refine lv_topi (fun z_117 ez_117 => ?_)
              refine bz_ne (zx := (z_117).toInt) (tgt := 130) hx hb dX9_odds_120 (by decide) rfl (fun c_118 => ?_) (fun c_118 => ?_)
              · refine lv_iload hx hb dX9_odds_130 (lv_at hl 2 rfl) ?_
                refine lv_iload hx hb dX9_odds_132 (lv_at hl 1 rfl) ?_
                refine lv_idiv hx hb dX9_odds_134 (ne0_of (zy := (aa_114).toInt) (by omega) rfl) ?_
                refine lv_topi (fun z_119 ez_119 => ?_)
                refine W.widen (k := 0) (n := 0) (Nat.le_of_ble_eq_true rfl) (Nat.le_of_ble_eq_true rfl) ?_
                have hP9 := hP.sub (ws' := [oC h0 9 [.int now, .int na, .int nsi, .int nti, .int vc, .int vn, .int vt, .ref b1, .ref b2, .ref b3, .ref b4, .ref b5, .ref b6, .ref b7, .ref b8, .ref b9, .ref b10, .ref b11, .ref b12, .ref b13, .ref b14, .ref b15, .ref b16, .ref b17, .ref b18, .int x_7, .int x_8, .int x_9, .ref b19, .ref b20, .ref b21, .int nca, .ref b22, .ref b23, .int ntm, .ref b24, .ref b25], aI b5 d5 200 ((f5)), aI b8 d8 200 ((f8))]) [0, 1, 2] rfl
                have hD9 := hD.sub (ws' := [oC h0 9 [.int now, .int na, .int nsi, .int nti, .int vc, .int vn, .int vt, .ref b1, .ref b2, .ref b3, .ref b4, .ref b5, .ref b6, .ref b7, .ref b8, .ref b9, .ref b10, .ref b11, .ref b12, .ref b13, .ref b14, .ref b15, .ref b16, .ref b17, .ref b18, .int x_7, .int x_8, .int x_9, .ref b19, .ref b20, .ref b21, .int nca, .ref b22, .ref b23, .int ntm, .ref b24, .ref b25], aI b5 d5 200 ((f5)), aI b8 d8 200 ((f8))]) [0, 1, 2] (by decide) rfl
                have hK9 := hK.sub (tys' := []) [] rfl
                exact W.iret (v := z_119) hx hb hr (fun t ht hW => ⟨⟨z_119, (), rfl, trivial, x_7, x_8, x_9, by rw [ht]; exact hP9, va_K.moved hW.alike hK9, hD9⟩, hS.F ht⟩) hS.2.2 dX9_odds_135
              · refine lv_iload_n hx hb dX9_odds_123 rfl (lv_at hl 3 rfl) ?_
                refine lv_iload hx hb dX9_odds_124 (lv_at hl 1 rfl) ?_
                refine lv_idiv hx hb dX9_odds_126 (ne0_of (zy := (aa_114).toInt) (by omega) rfl) ?_
                refine lv_topi (fun z_120 ez_120 => ?_)
                refine lv_goto (tgt := 135) hx hb dX9_odds_127 (by decide) ?_
                refine W.widen (k := 0) (n := 0) (Nat.le_of_ble_eq_true rfl) (Nat.le_of_ble_eq_true rfl) ?_
                have hP9 := hP.sub (ws' := [oC h0 9 [.int now, .int na, .int nsi, .int nti, .int vc, .int vn, .int vt, .ref b1, .ref b2, .ref b3, .ref b4, .ref b5, .ref b6, .ref b7, .ref b8, .ref b9, .ref b10, .ref b11, .ref b12, .ref b13, .ref b14, .ref b15, .ref b16, .ref b17, .ref b18, .int x_7, .int x_8, .int x_9, .ref b19, .ref b20, .ref b21, .int nca, .ref b22, .ref b23, .int ntm, .ref b24, .ref b25], aI b5 d5 200 ((f5)), aI b8 d8 200 ((f8))]) [0, 1, 2] rfl
                have hD9 := hD.sub (ws' := [oC h0 9 [.int now, .int na, .int nsi, .int nti, .int vc, .int vn, .int vt, .ref b1, .ref b2, .ref b3, .ref b4, .ref b5, .ref b6, .ref b7, .ref b8, .ref b9, .ref b10, .ref b11, .ref b12, .ref b13, .ref b14, .ref b15, .ref b16, .ref b17, .ref b18, .int x_7, .int x_8, .int x_9, .ref b19, .ref b20, .ref b21, .int nca, .ref b22, .ref b23, .int ntm, .ref b24, .ref b25], aI b5 d5 200 ((f5)), aI b8 d8 200 ((f8))]) [0, 1, 2] (by decide) rfl
                have hK9 := hK.sub (tys' := []) [] rfl
                exact W.iret (v := z_120) hx hb hr (fun t ht hW => ⟨⟨z_120, (), rfl, trivial, x_7, x_8, x_9, by rw [ht]; exact hP9, va_K.moved hW.alike hK9, hD9⟩, hS.F ht⟩) hS.2.2 dX9_odds_135
    · have h_4 : (p1).toInt < 0 ∨ 5 < (p1).toInt := h_4
      refine lv_if_ne (tgt := 19) hx hb dX9_odds_14 (by decide) (fun c_ => absurd c_ (by decide)) (fun _ => ?_)
      refine lv_iconst (v := (-1)) hx hb dX9_odds_17 (by decide) ?_
      refine W.widen (k := 0) (n := 0) (Nat.le_of_ble_eq_true rfl) (Nat.le_of_ble_eq_true rfl) ?_
      have hP9 := hP.sub (ws' := [oC h0 9 [.int now, .int na, .int nsi, .int nti, .int vc, .int vn, .int vt, .ref b1, .ref b2, .ref b3, .ref b4, .ref b5, .ref b6, .ref b7, .ref b8, .ref b9, .ref b10, .ref b11, .ref b12, .ref b13, .ref b14, .ref b15, .ref b16, .ref b17, .ref b18, .int ct, .int cs, .int co, .ref b19, .ref b20, .ref b21, .int nca, .ref b22, .ref b23, .int ntm, .ref b24, .ref b25], aI b5 d5 200 (f5), aI b8 d8 200 (f8)]) [0, 1, 2] rfl
      have hD9 := hD.sub (ws' := [oC h0 9 [.int now, .int na, .int nsi, .int nti, .int vc, .int vn, .int vt, .ref b1, .ref b2, .ref b3, .ref b4, .ref b5, .ref b6, .ref b7, .ref b8, .ref b9, .ref b10, .ref b11, .ref b12, .ref b13, .ref b14, .ref b15, .ref b16, .ref b17, .ref b18, .int ct, .int cs, .int co, .ref b19, .ref b20, .ref b21, .int nca, .ref b22, .ref b23, .int ntm, .ref b24, .ref b25], aI b5 d5 200 (f5), aI b8 d8 200 (f8)]) [0, 1, 2] (by decide) rfl
      have hK9 := hK.sub (tys' := []) [] rfl
      exact W.iret (v := (-1)) hx hb hr (fun t ht hW => ⟨⟨(-1), (), rfl, trivial, ct, cs, co, by rw [ht]; exact hP9, va_K.moved hW.alike hK9, hD9⟩, hS.F ht⟩) hS.2.2 dX9_odds_18
  · have h_2 : (p0).toInt < 0 ∨ (na).toInt ≤ (p0).toInt := h_2
    refine lv_if_eq (tgt := 17) hx hb dX9_odds_5 (by decide) (fun _ => ?_) (fun c_ => absurd c_ (by decide))
    refine lv_iconst (v := (-1)) hx hb dX9_odds_17 (by decide) ?_
    refine W.widen (k := 0) (n := 0) (Nat.le_of_ble_eq_true rfl) (Nat.le_of_ble_eq_true rfl) ?_
    have hP9 := hP.sub (ws' := [oC h0 9 [.int now, .int na, .int nsi, .int nti, .int vc, .int vn, .int vt, .ref b1, .ref b2, .ref b3, .ref b4, .ref b5, .ref b6, .ref b7, .ref b8, .ref b9, .ref b10, .ref b11, .ref b12, .ref b13, .ref b14, .ref b15, .ref b16, .ref b17, .ref b18, .int ct, .int cs, .int co, .ref b19, .ref b20, .ref b21, .int nca, .ref b22, .ref b23, .int ntm, .ref b24, .ref b25], aI b5 d5 200 (f5), aI b8 d8 200 (f8)]) [0, 1, 2] rfl
    have hD9 := hD.sub (ws' := [oC h0 9 [.int now, .int na, .int nsi, .int nti, .int vc, .int vn, .int vt, .ref b1, .ref b2, .ref b3, .ref b4, .ref b5, .ref b6, .ref b7, .ref b8, .ref b9, .ref b10, .ref b11, .ref b12, .ref b13, .ref b14, .ref b15, .ref b16, .ref b17, .ref b18, .int ct, .int cs, .int co, .ref b19, .ref b20, .ref b21, .int nca, .ref b22, .ref b23, .int ntm, .ref b24, .ref b25], aI b5 d5 200 (f5), aI b8 d8 200 (f8)]) [0, 1, 2] (by decide) rfl
    have hK9 := hK.sub (tys' := []) [] rfl
    exact W.iret (v := (-1)) hx hb hr (fun t ht hW => ⟨⟨(-1), (), rfl, trivial, ct, cs, co, by rw [ht]; exact hP9, va_K.moved hW.alike hK9, hD9⟩, hS.F ht⟩) hS.2.2 dX9_odds_18
