set_option maxHeartbeats 4000000 in
set_option maxRecDepth 100000 in
theorem c_X8_odds (l : Launch) (D : va_G) (xo : Nat) (ro : Nat) (tI : Nat) (cS : Nat) (pN : Nat) (a1 : Nat) (a2 : Nat) (a3 : Nat) (a4 : Nat) (a5 : Nat) (a6 : Nat) (a7 : Nat) (a8 : Nat) (a9 : Nat) (e1 : ClassId) (e2 : ClassId) (e3 : ClassId) (e4 : ClassId) (e5 : ClassId) (e6 : ClassId) (e7 : ClassId) (e8 : ClassId) (e9 : ClassId) (na : Int32) (ns : Int32) (nw : Int32) (cp : Int32) (le : Int32) (tr : Int32) (sl : Int32) (tz : Int32) (cz : Int32) (q1 : Int32) (q2 : Int32) (q3 : Int32) (q4 : Int32) (g1 : Nat → Option Nat) (g2 : Nat → Option Nat) (g3 : Nat → Option Nat) (g4 : Nat → Option Nat) (g5 : Nat → Option Nat) (g6 : Nat → Option Nat) (g7 : Nat → Option Nat) (y8 : Nat → Int32) (y9 : Nat → Int32) (L : List Nat) (K : Nat → Nat × Nat) (f : Nat → va_E) (S : Int) (v : Int32) (w : Int32) (hI : cqI S L K f) (hna : 0 ≤ (na).toInt ∧ (na).toInt ≤ 200) (hns : 0 ≤ (ns).toInt ∧ (ns).toInt ≤ 30) (htz : 0 ≤ (tz).toInt ∧ (tz).toInt ≤ 60) (hcz : 0 ≤ (cz).toInt ∧ (cz).toInt ≤ 200) (j1 : cqJA L K (na).toInt g1) (j2 : cqJL L K ((na).toInt.toNat) g2) (j3 : cqJ L K 6 (ns).toInt g3) (j4 : cqJ L K 4 (tz).toInt g4) (j5 : cqJ L K 1 (cz).toInt g5) (hro : cqIs L K 3 ro) (hSb : 0 ≤ S ∧ S ≤ 500000) : Met l yX8_odds wsX8_odds ({ frames := 2, cells := 0, slots := 0, locals := 42 }) (va_Pc [.ref xo, .int v, .int w] (wo D [(e1, .object RX0), (e2, .object RX0), (e3, .object RX6), (e4, .object RX4), (e5, .object RX1), (e6, .object RX1), (e7, .object RX1), (e8, .int), (e9, .int)] ([oC xo 8 [.ref a1, .ref a2, .ref a3, .ref ro, .ref tI, .ref cS, .ref pN, .int na, .int ns, .int nw, .int cp, .int le, .int tr, .int sl], aR a1 e1 200 (g1), aR a2 e2 40 (g2), aR a3 e3 30 (g3), oC tI 7 [.ref a4, .int tz], aR a4 e4 60 (g4), oC cS 2 [.ref a5, .int cz], aR a5 e5 200 (g5), oC pN 5 [.ref a6, .ref a7, .ref a8, .ref a9, .int q1, .int q2, .int q3, .int q4], aR a6 e6 17 (g6), aR a7 e7 12 (g7), aI a8 e8 301 (y8), aI a9 e9 301 (y9)] ++ va_pl L f))) (vp_Si (fun r => True)) 0 0 (fun _ => False) := by
  refine Met.ofW (cc := cX8_odds) (maxL := 7) (ret := (some .int)) (by decide) rfl ?_
  intro p e s m args below meth c s₁ B hml hv
  obtain ⟨rfl, hP, hK, hD, hN⟩ := hv
  have hx := B.exec
  have hb := B.bytes
  have hr := B.returns
  have hts := atoms_spec (ws := wsX8_odds) B.pre
  have hown : s.vm.findClass RX8 = some m.cls := findClass_of_methodNamed B.named
  have hlocks := B.notSynchronized
  have hin_X3 : ∀ w ∈ u_ws RX3 TX3 8, w ∈ wsX8_odds := fun w h => List.mem_cons_of_mem _ (List.mem_append_left _ (List.mem_append_right _ (h)))
  have hin_X8 : ∀ w ∈ u_ws RX8 TX8 14, w ∈ wsX8_odds := fun w h => List.mem_cons_of_mem _ (List.mem_append_left _ (List.mem_append_left _ (List.mem_append_right _ (h))))
  have hl := lv_entry ([.ref xo, .int v, .int w]) (n := 7) (Nat.le_of_ble_eq_true rfl)
  rw [lg_entry_eq]
  generalize (lg_sl ([.ref xo, .int v, .int w]) ++ List.replicate (7 - (lg_sl ([.ref xo, .int v, .int w])).length) Slot.unset).toArray = ls at hl ⊢
  have hl : lv_has ls 7 [(0, .ref xo), (1, .int v), (2, .int w)] := hl
  refine lv_aload_n hx hb dX8_odds_0 rfl (lv_at hl 0 rfl) ?_
  refine lv_iload_n hx hb dX8_odds_1 rfl (lv_at hl 1 rfl) ?_
  refine va_csq (wrV (As := [.int v]) (rest := []) ⟨hx, hb, hml, hown, hts⟩ hN hK hP hD (c_X8_alarmAtR l D xo ro tI cS pN a1 a2 a3 a4 a5 a6 a7 a8 a9 e1 e2 e3 e4 e5 e6 e7 e8 e9 na ns nw cp le tr sl tz cz q1 q2 q3 q4 g1 g2 g3 g4 g5 g6 g7 y8 y9 L K f S v hI (by first | omega | assumption | decide | (have h3 : (0 : Int32).toInt = 0 := rfl; omega) | (have h3 : (0 : Int32).toInt = 0 := rfl; have h4 : (1 : Int32).toInt = 1 := rfl; have h5 : (-1 : Int32).toInt = -1 := rfl; omega)) j1) (cwV 1 hts gX8_odds_X8_alarmAt rfl rfl rfl (by decide +kernel) ⟨(Nat.le_of_ble_eq_true rfl), (Nat.le_of_ble_eq_true rfl)⟩) 8 rfl ⟨0, _, rfl⟩ rfl hl.1 rfl (Nat.le_of_ble_eq_true rfl) dX8_odds_2 ⟨(Nat.le_of_ble_eq_true rfl), (Nat.le_of_ble_eq_true rfl)⟩) (fun r_1 h_2 => ?_)
  obtain ⟨h_2, xh_2⟩ := h_2
  have h_2 : cqOp L K 0 r_1 := h_2
  have xh_2 : atS (na).toInt (v).toInt (v).toInt.toNat g1 r_1 := xh_2
  refine q_astore_n (r := r_1) (lv' := [(3, va_rf r_1), (0, .ref xo), (1, .int v), (2, .int w)]) hx hb dX8_odds_5 rfl hl (by decide) rfl (fun ls hl => ?_)
  refine q_aload_n hx hb dX8_odds_6 rfl (lv_at hl 0 rfl) ?_
  rcases r_1 with _ | b_3
  · have hl : lv_has ls 7 [(3, .null), (0, .ref xo), (1, .int v), (2, .int w)] := hl
    refine lv_ifnullN (tgt := 19) hx hb dX8_odds_7 (by decide) ?_
    refine lv_iconst (v := (-1)) hx hb dX8_odds_19 (by decide) ?_
    exact W.iret (v := (-1)) hx hb hr (fun t ht hW => ⟨(-1), rfl, trivial, ht⟩) (fun q h => by cases h) dX8_odds_20
  · have hl : lv_has ls 7 [(3, .ref b_3), (0, .ref xo), (1, .int v), (2, .int w)] := hl
    have is_4 := h_2 b_3 rfl
    refine lv_ifnull hx hb dX8_odds_7 ?_
    refine lv_iload_n hx hb dX8_odds_10 rfl (lv_at hl 3 rfl) ?_
    refine bz_lt (zx := (w).toInt) (tgt := 19) hx hb dX8_odds_11 (by decide) rfl (fun c_5 => ?_) (fun c_5 => ?_)
    · refine lv_iconst (v := (-1)) hx hb dX8_odds_19 (by decide) ?_
      exact W.iret (v := (-1)) hx hb hr (fun t ht hW => ⟨(-1), rfl, trivial, ht⟩) (fun q h => by cases h) dX8_odds_20
    · refine lv_iload_n hx hb dX8_odds_14 rfl (lv_at hl 3 rfl) ?_
      refine lv_iconst (v := 5) hx hb dX8_odds_15 (by decide) ?_
      refine bi_le (zx := (w).toInt) (zy := 5) (tgt := 21) hx hb dX8_odds_16 (by decide) rfl (by decide) (fun c_6 => ?_) (fun c_6 => ?_)
      · refine lv_aload_n hx hb dX8_odds_21 rfl (lv_at hl 0 rfl) ?_
        refine lv_aload_n hx hb dX8_odds_22 rfl (lv_at hl 1 rfl) ?_
        refine va_get (D := D) (ci := 8) (v := .int le) (C := RX8) (T := TX8) (N := 14) hx hb hts hin_X8 hown hK hP 0 rfl rfl 11 (by decide) (hts (.fieldLink RX8 58 "CryOrder" "leastSettled" "I") (List.mem_cons_of_mem _ (List.mem_append_left _ (List.mem_append_left _ (List.mem_append_left _ (List.mem_append_left _ (List.mem_of_getElem? (i := 0) rfl))))))) (fun _ h9 => h9) rfl dX8_odds_23 ?_
        refine va_csq (wrV (As := [.int le]) (rest := []) ⟨hx, hb, hml, hown, hts⟩ hN hK hP hD (c_X0_nodeFor l D [oC xo 8 [.ref a1, .ref a2, .ref a3, .ref ro, .ref tI, .ref cS, .ref pN, .int na, .int ns, .int nw, .int cp, .int le, .int tr, .int sl], aR a1 e1 200 (g1), aR a2 e2 40 (g2), aR a3 e3 30 (g3), oC tI 7 [.ref a4, .int tz], aR a4 e4 60 (g4), oC cS 2 [.ref a5, .int cz], aR a5 e5 200 (g5), oC pN 5 [.ref a6, .ref a7, .ref a8, .ref a9, .int q1, .int q2, .int q3, .int q4], aR a6 e6 17 (g6), aR a7 e7 12 (g7), aI a8 e8 301 (y8), aI a9 e9 301 (y9)] L K f S [(e1, .object RX0), (e2, .object RX0), (e3, .object RX6), (e4, .object RX4), (e5, .object RX1), (e6, .object RX1), (e7, .object RX1), (e8, .int), (e9, .int)] b_3 le hI is_4) (cwV 1 hts gX8_odds_X0_nodeFor rfl rfl rfl (by decide +kernel) ⟨(Nat.le_of_ble_eq_true rfl), (Nat.le_of_ble_eq_true rfl)⟩) 0 rfl (cq_rcA (X := [oC xo 8 [.ref a1, .ref a2, .ref a3, .ref ro, .ref tI, .ref cS, .ref pN, .int na, .int ns, .int nw, .int cp, .int le, .int tr, .int sl], aR a1 e1 200 (g1), aR a2 e2 40 (g2), aR a3 e3 30 (g3), oC tI 7 [.ref a4, .int tz], aR a4 e4 60 (g4), oC cS 2 [.ref a5, .int cz], aR a5 e5 200 (g5), oC pN 5 [.ref a6, .ref a7, .ref a8, .ref a9, .int q1, .int q2, .int q3, .int q4], aR a6 e6 17 (g6), aR a7 e7 12 (g7), aI a8 e8 301 (y8), aI a9 e9 301 (y9)]) hI is_4) rfl hl.1 rfl (Nat.le_of_ble_eq_true rfl) dX8_odds_26 ⟨(Nat.le_of_ble_eq_true rfl), (Nat.le_of_ble_eq_true rfl)⟩) (fun r_7 h_8 => ?_)
        obtain ⟨b_9, rfl, is_10⟩ := h_8
        refine lv_topv (z := .ref b_9) rfl ?_
        refine lv_astore (lv' := [(4, .ref b_9), (3, .ref b_3), (0, .ref xo), (1, .int v), (2, .int w)]) hx hb dX8_odds_29 hl (by decide) rfl (fun ls hl => ?_)
        refine lv_iload_n hx hb dX8_odds_31 rfl (lv_at hl 4 rfl) ?_
        refine lv_iconst (v := 2) hx hb dX8_odds_32 (by decide) ?_
        refine lv_irem hx hb dX8_odds_33 (ne0_of (zy := 2) (by omega) (by decide)) ?_
        refine lv_topi (fun z_11 ez_11 => ?_)
        refine bz_ne (zx := (z_11).toInt) (tgt := 41) hx hb dX8_odds_34 (by decide) rfl (fun c_12 => ?_) (fun c_12 => ?_)
        · refine lv_iconst (v := 0) hx hb dX8_odds_41 (by decide) ?_
          refine lv_istore (lv' := [(5, .int 0), (4, .ref b_9), (3, .ref b_3), (0, .ref xo), (1, .int v), (2, .int w)]) hx hb dX8_odds_42 hl (by decide) rfl (fun ls hl => ?_)
          refine lv_iload_n hx hb dX8_odds_44 rfl (lv_at hl 5 rfl) ?_
          refine lv_iconst (v := 1) hx hb dX8_odds_45 (by decide) ?_
          refine bi_gt (zx := (w).toInt) (zy := 1) (tgt := 65) hx hb dX8_odds_46 (by decide) rfl (by decide) (fun c_13 => ?_) (fun c_13 => ?_)
          · refine lv_iload_n hx hb dX8_odds_65 rfl (lv_at hl 5 rfl) ?_
            refine lv_iconst (v := 3) hx hb dX8_odds_66 (by decide) ?_
            refine bi_gt (zx := (w).toInt) (zy := 3) (tgt := 78) hx hb dX8_odds_67 (by decide) rfl (by decide) (fun c_14 => ?_) (fun c_14 => ?_)
            · refine lv_aload hx hb dX8_odds_78 (lv_at hl 1 rfl) ?_
              obtain ⟨pa_15, de_15, ma_15, sb_15, fc_15, tu_15, sd_15, op_15, hf_15, hpa_15, hsb_15, hfc_15⟩ := hI.opN is_10
              refine pl_get (D := D) (ci := 3) (v := .int tu_15) (C := RX3) (T := TX3) (N := 8) hx hb hts hin_X3 hown hK hP is_10.1 hf_15 rfl 5 (by decide) (hts (.fieldLink RX8 195 "CryOrder$Node" "settledTrue" "I") (List.mem_cons_of_mem _ (List.mem_append_left _ (List.mem_append_left _ (List.mem_append_left _ (List.mem_append_left _ (List.mem_of_getElem? (i := 1) rfl))))))) (fun _ h9 => h9) rfl dX8_odds_80 ?_
              refine lv_aload hx hb dX8_odds_83 (lv_at hl 1 rfl) ?_
              refine pl_get (D := D) (ci := 3) (v := .int op_15) (C := RX3) (T := TX3) (N := 8) hx hb hts hin_X3 hown hK hP is_10.1 hf_15 rfl 7 (by decide) (hts (.fieldLink RX8 201 "CryOrder$Node" "open" "I") (List.mem_cons_of_mem _ (List.mem_append_left _ (List.mem_append_left _ (List.mem_append_left _ (List.mem_append_left _ (List.mem_of_getElem? (i := 2) rfl))))))) (fun _ h9 => h9) rfl dX8_odds_85 ?_
              refine lv_iadd hx hb dX8_odds_88 ?_
              refine lv_topi (fun z_16 ez_16 => ?_)
              have tz_16 := ad_toInt (zx := (tu_15).toInt) (zy := (op_15).toInt) ez_16 rfl rfl
              refine lv_istore (lv' := [(6, .int z_16), (5, .int 0), (4, .ref b_9), (3, .ref b_3), (0, .ref xo), (1, .int v), (2, .int w)]) hx hb dX8_odds_89 hl (by decide) rfl (fun ls hl => ?_)
              refine lv_iload hx hb dX8_odds_91 (lv_at hl 0 rfl) ?_
              refine lv_aload hx hb dX8_odds_93 (lv_at hl 2 rfl) ?_
              refine pl_get (D := D) (ci := 3) (v := .int sd_15) (C := RX3) (T := TX3) (N := 8) hx hb hts hin_X3 hown hK hP is_10.1 hf_15 rfl 6 (by decide) (hts (.fieldLink RX8 198 "CryOrder$Node" "settled" "I") (List.mem_cons_of_mem _ (List.mem_append_left _ (List.mem_append_left _ (List.mem_append_left _ (List.mem_append_left _ (List.mem_of_getElem? (i := 3) rfl))))))) (fun _ h9 => h9) rfl dX8_odds_95 ?_
              refine lv_aload hx hb dX8_odds_98 (lv_at hl 2 rfl) ?_
              refine pl_get (D := D) (ci := 3) (v := .int op_15) (C := RX3) (T := TX3) (N := 8) hx hb hts hin_X3 hown hK hP is_10.1 hf_15 rfl 7 (by decide) (hts (.fieldLink RX8 201 "CryOrder$Node" "open" "I") (List.mem_cons_of_mem _ (List.mem_append_left _ (List.mem_append_left _ (List.mem_append_left _ (List.mem_append_left _ (List.mem_of_getElem? (i := 2) rfl))))))) (fun _ h9 => h9) rfl dX8_odds_100 ?_
              refine lv_iadd hx hb dX8_odds_103 ?_
              refine lv_topi (fun z_17 ez_17 => ?_)
              have tz_17 := ad_toInt (zx := (sd_15).toInt) (zy := (op_15).toInt) ez_17 rfl rfl
              refine lv_iload hx hb dX8_odds_104 (lv_at hl 1 rfl) ?_
              refine vp_callSi (zrS (As := [.int z_16, .int z_17, .int 0]) (rest := []) (wc := []) ⟨hx, hb, hml, hown, hts⟩ hN hK hP hD (c_X8_inLowestTerms l D z_16 z_17 0 ) (va_cwS 3 hts gX8_odds_X8_inLowestTerms rfl rfl rfl (by decide +kernel) ⟨(Nat.le_of_ble_eq_true rfl), (Nat.le_of_ble_eq_true rfl)⟩) [] [] rfl rfl (by decide) rfl hl.1 rfl (Nat.le_of_ble_eq_true rfl) dX8_odds_106 ⟨(Nat.le_of_ble_eq_true rfl), (Nat.le_of_ble_eq_true rfl)⟩) (fun r_18 h_19 => ?_)
              exact W.iret (v := r_18) hx hb hr (fun t ht hW => ⟨r_18, rfl, trivial, ht⟩) (fun q h => by cases h) dX8_odds_109
            · refine lv_aload hx hb dX8_odds_70 (lv_at hl 1 rfl) ?_
              obtain ⟨pa_20, de_20, ma_20, sb_20, fc_20, tu_20, sd_20, op_20, hf_20, hpa_20, hsb_20, hfc_20⟩ := hI.opN is_10
              refine pl_get (D := D) (ci := 3) (v := .int tu_20) (C := RX3) (T := TX3) (N := 8) hx hb hts hin_X3 hown hK hP is_10.1 hf_20 rfl 5 (by decide) (hts (.fieldLink RX8 195 "CryOrder$Node" "settledTrue" "I") (List.mem_cons_of_mem _ (List.mem_append_left _ (List.mem_append_left _ (List.mem_append_left _ (List.mem_append_left _ (List.mem_of_getElem? (i := 1) rfl))))))) (fun _ h9 => h9) rfl dX8_odds_72 ?_
              refine lv_goto (tgt := 89) hx hb dX8_odds_75 (by decide) ?_
              refine lv_istore (lv' := [(6, .int tu_20), (5, .int 0), (4, .ref b_9), (3, .ref b_3), (0, .ref xo), (1, .int v), (2, .int w)]) hx hb dX8_odds_89 hl (by decide) rfl (fun ls hl => ?_)
              refine lv_iload hx hb dX8_odds_91 (lv_at hl 0 rfl) ?_
              refine lv_aload hx hb dX8_odds_93 (lv_at hl 2 rfl) ?_
              refine pl_get (D := D) (ci := 3) (v := .int sd_20) (C := RX3) (T := TX3) (N := 8) hx hb hts hin_X3 hown hK hP is_10.1 hf_20 rfl 6 (by decide) (hts (.fieldLink RX8 198 "CryOrder$Node" "settled" "I") (List.mem_cons_of_mem _ (List.mem_append_left _ (List.mem_append_left _ (List.mem_append_left _ (List.mem_append_left _ (List.mem_of_getElem? (i := 3) rfl))))))) (fun _ h9 => h9) rfl dX8_odds_95 ?_
              refine lv_aload hx hb dX8_odds_98 (lv_at hl 2 rfl) ?_
              refine pl_get (D := D) (ci := 3) (v := .int op_20) (C := RX3) (T := TX3) (N := 8) hx hb hts hin_X3 hown hK hP is_10.1 hf_20 rfl 7 (by decide) (hts (.fieldLink RX8 201 "CryOrder$Node" "open" "I") (List.mem_cons_of_mem _ (List.mem_append_left _ (List.mem_append_left _ (List.mem_append_left _ (List.mem_append_left _ (List.mem_of_getElem? (i := 2) rfl))))))) (fun _ h9 => h9) rfl dX8_odds_100 ?_
              refine lv_iadd hx hb dX8_odds_103 ?_
              refine lv_topi (fun z_21 ez_21 => ?_)
              have tz_21 := ad_toInt (zx := (sd_20).toInt) (zy := (op_20).toInt) ez_21 rfl rfl
              refine lv_iload hx hb dX8_odds_104 (lv_at hl 1 rfl) ?_
              refine vp_callSi (zrS (As := [.int tu_20, .int z_21, .int 0]) (rest := []) (wc := []) ⟨hx, hb, hml, hown, hts⟩ hN hK hP hD (c_X8_inLowestTerms l D tu_20 z_21 0 ) (va_cwS 3 hts gX8_odds_X8_inLowestTerms rfl rfl rfl (by decide +kernel) ⟨(Nat.le_of_ble_eq_true rfl), (Nat.le_of_ble_eq_true rfl)⟩) [] [] rfl rfl (by decide) rfl hl.1 rfl (Nat.le_of_ble_eq_true rfl) dX8_odds_106 ⟨(Nat.le_of_ble_eq_true rfl), (Nat.le_of_ble_eq_true rfl)⟩) (fun r_22 h_23 => ?_)
              exact W.iret (v := r_22) hx hb hr (fun t ht hW => ⟨r_22, rfl, trivial, ht⟩) (fun q h => by cases h) dX8_odds_109
          · refine lv_aload hx hb dX8_odds_49 (lv_at hl 1 rfl) ?_
            refine vp_callSi (wrV (As := []) (rest := []) ⟨hx, hb, hml, hown, hts⟩ hN hK hP hD (c_X3_oddsUpper l D [oC xo 8 [.ref a1, .ref a2, .ref a3, .ref ro, .ref tI, .ref cS, .ref pN, .int na, .int ns, .int nw, .int cp, .int le, .int tr, .int sl], aR a1 e1 200 (g1), aR a2 e2 40 (g2), aR a3 e3 30 (g3), oC tI 7 [.ref a4, .int tz], aR a4 e4 60 (g4), oC cS 2 [.ref a5, .int cz], aR a5 e5 200 (g5), oC pN 5 [.ref a6, .ref a7, .ref a8, .ref a9, .int q1, .int q2, .int q3, .int q4], aR a6 e6 17 (g6), aR a7 e7 12 (g7), aI a8 e8 301 (y8), aI a9 e9 301 (y9)] L K f S [(e1, .object RX0), (e2, .object RX0), (e3, .object RX6), (e4, .object RX4), (e5, .object RX1), (e6, .object RX1), (e7, .object RX1), (e8, .int), (e9, .int)] b_9 hI is_10) (cwV 0 hts gX8_odds_X3_oddsUpper rfl rfl rfl (by decide +kernel) ⟨(Nat.le_of_ble_eq_true rfl), (Nat.le_of_ble_eq_true rfl)⟩) 3 rfl (cq_rcN (X := [oC xo 8 [.ref a1, .ref a2, .ref a3, .ref ro, .ref tI, .ref cS, .ref pN, .int na, .int ns, .int nw, .int cp, .int le, .int tr, .int sl], aR a1 e1 200 (g1), aR a2 e2 40 (g2), aR a3 e3 30 (g3), oC tI 7 [.ref a4, .int tz], aR a4 e4 60 (g4), oC cS 2 [.ref a5, .int cz], aR a5 e5 200 (g5), oC pN 5 [.ref a6, .ref a7, .ref a8, .ref a9, .int q1, .int q2, .int q3, .int q4], aR a6 e6 17 (g6), aR a7 e7 12 (g7), aI a8 e8 301 (y8), aI a9 e9 301 (y9)]) hI is_10) rfl hl.1 rfl (Nat.le_of_ble_eq_true rfl) dX8_odds_51 ⟨(Nat.le_of_ble_eq_true rfl), (Nat.le_of_ble_eq_true rfl)⟩) (fun r_24 h_25 => ?_)
            refine lv_aload hx hb dX8_odds_54 (lv_at hl 1 rfl) ?_
            refine vp_callSi (wrV (As := []) (rest := [.int r_24]) ⟨hx, hb, hml, hown, hts⟩ hN hK hP hD (c_X3_oddsLower l D [oC xo 8 [.ref a1, .ref a2, .ref a3, .ref ro, .ref tI, .ref cS, .ref pN, .int na, .int ns, .int nw, .int cp, .int le, .int tr, .int sl], aR a1 e1 200 (g1), aR a2 e2 40 (g2), aR a3 e3 30 (g3), oC tI 7 [.ref a4, .int tz], aR a4 e4 60 (g4), oC cS 2 [.ref a5, .int cz], aR a5 e5 200 (g5), oC pN 5 [.ref a6, .ref a7, .ref a8, .ref a9, .int q1, .int q2, .int q3, .int q4], aR a6 e6 17 (g6), aR a7 e7 12 (g7), aI a8 e8 301 (y8), aI a9 e9 301 (y9)] L K f S [(e1, .object RX0), (e2, .object RX0), (e3, .object RX6), (e4, .object RX4), (e5, .object RX1), (e6, .object RX1), (e7, .object RX1), (e8, .int), (e9, .int)] b_9 hI is_10) (cwV 0 hts gX8_odds_X3_oddsLower rfl rfl rfl (by decide +kernel) ⟨(Nat.le_of_ble_eq_true rfl), (Nat.le_of_ble_eq_true rfl)⟩) 3 rfl (cq_rcN (X := [oC xo 8 [.ref a1, .ref a2, .ref a3, .ref ro, .ref tI, .ref cS, .ref pN, .int na, .int ns, .int nw, .int cp, .int le, .int tr, .int sl], aR a1 e1 200 (g1), aR a2 e2 40 (g2), aR a3 e3 30 (g3), oC tI 7 [.ref a4, .int tz], aR a4 e4 60 (g4), oC cS 2 [.ref a5, .int cz], aR a5 e5 200 (g5), oC pN 5 [.ref a6, .ref a7, .ref a8, .ref a9, .int q1, .int q2, .int q3, .int q4], aR a6 e6 17 (g6), aR a7 e7 12 (g7), aI a8 e8 301 (y8), aI a9 e9 301 (y9)]) hI is_10) rfl hl.1 rfl (Nat.le_of_ble_eq_true rfl) dX8_odds_56 ⟨(Nat.le_of_ble_eq_true rfl), (Nat.le_of_ble_eq_true rfl)⟩) (fun r_26 h_27 => ?_)
            refine lv_iload hx hb dX8_odds_59 (lv_at hl 0 rfl) ?_
            refine vp_callSi (zrS (As := [.int r_24, .int r_26, .int 0]) (rest := []) (wc := []) ⟨hx, hb, hml, hown, hts⟩ hN hK hP hD (c_X8_inLowestTerms l D r_24 r_26 0 ) (va_cwS 3 hts gX8_odds_X8_inLowestTerms rfl rfl rfl (by decide +kernel) ⟨(Nat.le_of_ble_eq_true rfl), (Nat.le_of_ble_eq_true rfl)⟩) [] [] rfl rfl (by decide) rfl hl.1 rfl (Nat.le_of_ble_eq_true rfl) dX8_odds_61 ⟨(Nat.le_of_ble_eq_true rfl), (Nat.le_of_ble_eq_true rfl)⟩) (fun r_28 h_29 => ?_)
            exact W.iret (v := r_28) hx hb hr (fun t ht hW => ⟨r_28, rfl, trivial, ht⟩) (fun q h => by cases h) dX8_odds_64
        · refine lv_iconst (v := 1) hx hb dX8_odds_37 (by decide) ?_
          refine lv_goto (tgt := 42) hx hb dX8_odds_38 (by decide) ?_
          refine lv_istore (lv' := [(5, .int 1), (4, .ref b_9), (3, .ref b_3), (0, .ref xo), (1, .int v), (2, .int w)]) hx hb dX8_odds_42 hl (by decide) rfl (fun ls hl => ?_)
          refine lv_iload_n hx hb dX8_odds_44 rfl (lv_at hl 5 rfl) ?_
          refine lv_iconst (v := 1) hx hb dX8_odds_45 (by decide) ?_
          refine bi_gt (zx := (w).toInt) (zy := 1) (tgt := 65) hx hb dX8_odds_46 (by decide) rfl (by decide) (fun c_30 => ?_) (fun c_30 => ?_)
          · refine lv_iload_n hx hb dX8_odds_65 rfl (lv_at hl 5 rfl) ?_
            refine lv_iconst (v := 3) hx hb dX8_odds_66 (by decide) ?_
            refine bi_gt (zx := (w).toInt) (zy := 3) (tgt := 78) hx hb dX8_odds_67 (by decide) rfl (by decide) (fun c_31 => ?_) (fun c_31 => ?_)
            · refine lv_aload hx hb dX8_odds_78 (lv_at hl 1 rfl) ?_
              obtain ⟨pa_32, de_32, ma_32, sb_32, fc_32, tu_32, sd_32, op_32, hf_32, hpa_32, hsb_32, hfc_32⟩ := hI.opN is_10
              refine pl_get (D := D) (ci := 3) (v := .int tu_32) (C := RX3) (T := TX3) (N := 8) hx hb hts hin_X3 hown hK hP is_10.1 hf_32 rfl 5 (by decide) (hts (.fieldLink RX8 195 "CryOrder$Node" "settledTrue" "I") (List.mem_cons_of_mem _ (List.mem_append_left _ (List.mem_append_left _ (List.mem_append_left _ (List.mem_append_left _ (List.mem_of_getElem? (i := 1) rfl))))))) (fun _ h9 => h9) rfl dX8_odds_80 ?_
              refine lv_aload hx hb dX8_odds_83 (lv_at hl 1 rfl) ?_
              refine pl_get (D := D) (ci := 3) (v := .int op_32) (C := RX3) (T := TX3) (N := 8) hx hb hts hin_X3 hown hK hP is_10.1 hf_32 rfl 7 (by decide) (hts (.fieldLink RX8 201 "CryOrder$Node" "open" "I") (List.mem_cons_of_mem _ (List.mem_append_left _ (List.mem_append_left _ (List.mem_append_left _ (List.mem_append_left _ (List.mem_of_getElem? (i := 2) rfl))))))) (fun _ h9 => h9) rfl dX8_odds_85 ?_
              refine lv_iadd hx hb dX8_odds_88 ?_
              refine lv_topi (fun z_33 ez_33 => ?_)
              have tz_33 := ad_toInt (zx := (tu_32).toInt) (zy := (op_32).toInt) ez_33 rfl rfl
              refine lv_istore (lv' := [(6, .int z_33), (5, .int 1), (4, .ref b_9), (3, .ref b_3), (0, .ref xo), (1, .int v), (2, .int w)]) hx hb dX8_odds_89 hl (by decide) rfl (fun ls hl => ?_)
              refine lv_iload hx hb dX8_odds_91 (lv_at hl 0 rfl) ?_
              refine lv_aload hx hb dX8_odds_93 (lv_at hl 2 rfl) ?_
              refine pl_get (D := D) (ci := 3) (v := .int sd_32) (C := RX3) (T := TX3) (N := 8) hx hb hts hin_X3 hown hK hP is_10.1 hf_32 rfl 6 (by decide) (hts (.fieldLink RX8 198 "CryOrder$Node" "settled" "I") (List.mem_cons_of_mem _ (List.mem_append_left _ (List.mem_append_left _ (List.mem_append_left _ (List.mem_append_left _ (List.mem_of_getElem? (i := 3) rfl))))))) (fun _ h9 => h9) rfl dX8_odds_95 ?_
              refine lv_aload hx hb dX8_odds_98 (lv_at hl 2 rfl) ?_
              refine pl_get (D := D) (ci := 3) (v := .int op_32) (C := RX3) (T := TX3) (N := 8) hx hb hts hin_X3 hown hK hP is_10.1 hf_32 rfl 7 (by decide) (hts (.fieldLink RX8 201 "CryOrder$Node" "open" "I") (List.mem_cons_of_mem _ (List.mem_append_left _ (List.mem_append_left _ (List.mem_append_left _ (List.mem_append_left _ (List.mem_of_getElem? (i := 2) rfl))))))) (fun _ h9 => h9) rfl dX8_odds_100 ?_
              refine lv_iadd hx hb dX8_odds_103 ?_
              refine lv_topi (fun z_34 ez_34 => ?_)
              have tz_34 := ad_toInt (zx := (sd_32).toInt) (zy := (op_32).toInt) ez_34 rfl rfl
              refine lv_iload hx hb dX8_odds_104 (lv_at hl 1 rfl) ?_
              refine vp_callSi (zrS (As := [.int z_33, .int z_34, .int 1]) (rest := []) (wc := []) ⟨hx, hb, hml, hown, hts⟩ hN hK hP hD (c_X8_inLowestTerms l D z_33 z_34 1 ) (va_cwS 3 hts gX8_odds_X8_inLowestTerms rfl rfl rfl (by decide +kernel) ⟨(Nat.le_of_ble_eq_true rfl), (Nat.le_of_ble_eq_true rfl)⟩) [] [] rfl rfl (by decide) rfl hl.1 rfl (Nat.le_of_ble_eq_true rfl) dX8_odds_106 ⟨(Nat.le_of_ble_eq_true rfl), (Nat.le_of_ble_eq_true rfl)⟩) (fun r_35 h_36 => ?_)
              exact W.iret (v := r_35) hx hb hr (fun t ht hW => ⟨r_35, rfl, trivial, ht⟩) (fun q h => by cases h) dX8_odds_109
            · refine lv_aload hx hb dX8_odds_70 (lv_at hl 1 rfl) ?_
              obtain ⟨pa_37, de_37, ma_37, sb_37, fc_37, tu_37, sd_37, op_37, hf_37, hpa_37, hsb_37, hfc_37⟩ := hI.opN is_10
              refine pl_get (D := D) (ci := 3) (v := .int tu_37) (C := RX3) (T := TX3) (N := 8) hx hb hts hin_X3 hown hK hP is_10.1 hf_37 rfl 5 (by decide) (hts (.fieldLink RX8 195 "CryOrder$Node" "settledTrue" "I") (List.mem_cons_of_mem _ (List.mem_append_left _ (List.mem_append_left _ (List.mem_append_left _ (List.mem_append_left _ (List.mem_of_getElem? (i := 1) rfl))))))) (fun _ h9 => h9) rfl dX8_odds_72 ?_
              refine lv_goto (tgt := 89) hx hb dX8_odds_75 (by decide) ?_
              refine lv_istore (lv' := [(6, .int tu_37), (5, .int 1), (4, .ref b_9), (3, .ref b_3), (0, .ref xo), (1, .int v), (2, .int w)]) hx hb dX8_odds_89 hl (by decide) rfl (fun ls hl => ?_)
              refine lv_iload hx hb dX8_odds_91 (lv_at hl 0 rfl) ?_
              refine lv_aload hx hb dX8_odds_93 (lv_at hl 2 rfl) ?_
              refine pl_get (D := D) (ci := 3) (v := .int sd_37) (C := RX3) (T := TX3) (N := 8) hx hb hts hin_X3 hown hK hP is_10.1 hf_37 rfl 6 (by decide) (hts (.fieldLink RX8 198 "CryOrder$Node" "settled" "I") (List.mem_cons_of_mem _ (List.mem_append_left _ (List.mem_append_left _ (List.mem_append_left _ (List.mem_append_left _ (List.mem_of_getElem? (i := 3) rfl))))))) (fun _ h9 => h9) rfl dX8_odds_95 ?_
              refine lv_aload hx hb dX8_odds_98 (lv_at hl 2 rfl) ?_
              refine pl_get (D := D) (ci := 3) (v := .int op_37) (C := RX3) (T := TX3) (N := 8) hx hb hts hin_X3 hown hK hP is_10.1 hf_37 rfl 7 (by decide) (hts (.fieldLink RX8 201 "CryOrder$Node" "open" "I") (List.mem_cons_of_mem _ (List.mem_append_left _ (List.mem_append_left _ (List.mem_append_left _ (List.mem_append_left _ (List.mem_of_getElem? (i := 2) rfl))))))) (fun _ h9 => h9) rfl dX8_odds_100 ?_
              refine lv_iadd hx hb dX8_odds_103 ?_
              refine lv_topi (fun z_38 ez_38 => ?_)
              have tz_38 := ad_toInt (zx := (sd_37).toInt) (zy := (op_37).toInt) ez_38 rfl rfl
              refine lv_iload hx hb dX8_odds_104 (lv_at hl 1 rfl) ?_
              refine vp_callSi (zrS (As := [.int tu_37, .int z_38, .int 1]) (rest := []) (wc := []) ⟨hx, hb, hml, hown, hts⟩ hN hK hP hD (c_X8_inLowestTerms l D tu_37 z_38 1 ) (va_cwS 3 hts gX8_odds_X8_inLowestTerms rfl rfl rfl (by decide +kernel) ⟨(Nat.le_of_ble_eq_true rfl), (Nat.le_of_ble_eq_true rfl)⟩) [] [] rfl rfl (by decide) rfl hl.1 rfl (Nat.le_of_ble_eq_true rfl) dX8_odds_106 ⟨(Nat.le_of_ble_eq_true rfl), (Nat.le_of_ble_eq_true rfl)⟩) (fun r_39 h_40 => ?_)
              exact W.iret (v := r_39) hx hb hr (fun t ht hW => ⟨r_39, rfl, trivial, ht⟩) (fun q h => by cases h) dX8_odds_109
          · refine lv_aload hx hb dX8_odds_49 (lv_at hl 1 rfl) ?_
            refine vp_callSi (wrV (As := []) (rest := []) ⟨hx, hb, hml, hown, hts⟩ hN hK hP hD (c_X3_oddsUpper l D [oC xo 8 [.ref a1, .ref a2, .ref a3, .ref ro, .ref tI, .ref cS, .ref pN, .int na, .int ns, .int nw, .int cp, .int le, .int tr, .int sl], aR a1 e1 200 (g1), aR a2 e2 40 (g2), aR a3 e3 30 (g3), oC tI 7 [.ref a4, .int tz], aR a4 e4 60 (g4), oC cS 2 [.ref a5, .int cz], aR a5 e5 200 (g5), oC pN 5 [.ref a6, .ref a7, .ref a8, .ref a9, .int q1, .int q2, .int q3, .int q4], aR a6 e6 17 (g6), aR a7 e7 12 (g7), aI a8 e8 301 (y8), aI a9 e9 301 (y9)] L K f S [(e1, .object RX0), (e2, .object RX0), (e3, .object RX6), (e4, .object RX4), (e5, .object RX1), (e6, .object RX1), (e7, .object RX1), (e8, .int), (e9, .int)] b_9 hI is_10) (cwV 0 hts gX8_odds_X3_oddsUpper rfl rfl rfl (by decide +kernel) ⟨(Nat.le_of_ble_eq_true rfl), (Nat.le_of_ble_eq_true rfl)⟩) 3 rfl (cq_rcN (X := [oC xo 8 [.ref a1, .ref a2, .ref a3, .ref ro, .ref tI, .ref cS, .ref pN, .int na, .int ns, .int nw, .int cp, .int le, .int tr, .int sl], aR a1 e1 200 (g1), aR a2 e2 40 (g2), aR a3 e3 30 (g3), oC tI 7 [.ref a4, .int tz], aR a4 e4 60 (g4), oC cS 2 [.ref a5, .int cz], aR a5 e5 200 (g5), oC pN 5 [.ref a6, .ref a7, .ref a8, .ref a9, .int q1, .int q2, .int q3, .int q4], aR a6 e6 17 (g6), aR a7 e7 12 (g7), aI a8 e8 301 (y8), aI a9 e9 301 (y9)]) hI is_10) rfl hl.1 rfl (Nat.le_of_ble_eq_true rfl) dX8_odds_51 ⟨(Nat.le_of_ble_eq_true rfl), (Nat.le_of_ble_eq_true rfl)⟩) (fun r_41 h_42 => ?_)
            refine lv_aload hx hb dX8_odds_54 (lv_at hl 1 rfl) ?_
            refine vp_callSi (wrV (As := []) (rest := [.int r_41]) ⟨hx, hb, hml, hown, hts⟩ hN hK hP hD (c_X3_oddsLower l D [oC xo 8 [.ref a1, .ref a2, .ref a3, .ref ro, .ref tI, .ref cS, .ref pN, .int na, .int ns, .int nw, .int cp, .int le, .int tr, .int sl], aR a1 e1 200 (g1), aR a2 e2 40 (g2), aR a3 e3 30 (g3), oC tI 7 [.ref a4, .int tz], aR a4 e4 60 (g4), oC cS 2 [.ref a5, .int cz], aR a5 e5 200 (g5), oC pN 5 [.ref a6, .ref a7, .ref a8, .ref a9, .int q1, .int q2, .int q3, .int q4], aR a6 e6 17 (g6), aR a7 e7 12 (g7), aI a8 e8 301 (y8), aI a9 e9 301 (y9)] L K f S [(e1, .object RX0), (e2, .object RX0), (e3, .object RX6), (e4, .object RX4), (e5, .object RX1), (e6, .object RX1), (e7, .object RX1), (e8, .int), (e9, .int)] b_9 hI is_10) (cwV 0 hts gX8_odds_X3_oddsLower rfl rfl rfl (by decide +kernel) ⟨(Nat.le_of_ble_eq_true rfl), (Nat.le_of_ble_eq_true rfl)⟩) 3 rfl (cq_rcN (X := [oC xo 8 [.ref a1, .ref a2, .ref a3, .ref ro, .ref tI, .ref cS, .ref pN, .int na, .int ns, .int nw, .int cp, .int le, .int tr, .int sl], aR a1 e1 200 (g1), aR a2 e2 40 (g2), aR a3 e3 30 (g3), oC tI 7 [.ref a4, .int tz], aR a4 e4 60 (g4), oC cS 2 [.ref a5, .int cz], aR a5 e5 200 (g5), oC pN 5 [.ref a6, .ref a7, .ref a8, .ref a9, .int q1, .int q2, .int q3, .int q4], aR a6 e6 17 (g6), aR a7 e7 12 (g7), aI a8 e8 301 (y8), aI a9 e9 301 (y9)]) hI is_10) rfl hl.1 rfl (Nat.le_of_ble_eq_true rfl) dX8_odds_56 ⟨(Nat.le_of_ble_eq_true rfl), (Nat.le_of_ble_eq_true rfl)⟩) (fun r_43 h_44 => ?_)
            refine lv_iload hx hb dX8_odds_59 (lv_at hl 0 rfl) ?_
            refine vp_callSi (zrS (As := [.int r_41, .int r_43, .int 1]) (rest := []) (wc := []) ⟨hx, hb, hml, hown, hts⟩ hN hK hP hD (c_X8_inLowestTerms l D r_41 r_43 1 ) (va_cwS 3 hts gX8_odds_X8_inLowestTerms rfl rfl rfl (by decide +kernel) ⟨(Nat.le_of_ble_eq_true rfl), (Nat.le_of_ble_eq_true rfl)⟩) [] [] rfl rfl (by decide) rfl hl.1 rfl (Nat.le_of_ble_eq_true rfl) dX8_odds_61 ⟨(Nat.le_of_ble_eq_true rfl), (Nat.le_of_ble_eq_true rfl)⟩) (fun r_45 h_46 => ?_)
            exact W.iret (v := r_45) hx hb hr (fun t ht hW => ⟨r_45, rfl, trivial, ht⟩) (fun q h => by cases h) dX8_odds_64
      · refine lv_iconst (v := (-1)) hx hb dX8_odds_19 (by decide) ?_
        exact W.iret (v := (-1)) hx hb hr (fun t ht hW => ⟨(-1), rfl, trivial, ht⟩) (fun q h => by cases h) dX8_odds_20
