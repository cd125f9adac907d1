set_option maxHeartbeats 4000000 in
set_option maxRecDepth 100000 in
theorem c_X8_oddsT (l : Launch) (D : va_G) (xo : Nat) (ro : Nat) (tI : Nat) (cS : Nat) (pN : Nat) (a1 : Nat) (a2 : Nat) (a3 : Nat) (a4 : Nat) (a5 : Nat) (a6 : Nat) (a7 : Nat) (a8 : Nat) (a9 : Nat) (e1 : ClassId) (e2 : ClassId) (e3 : ClassId) (e4 : ClassId) (e5 : ClassId) (e6 : ClassId) (e7 : ClassId) (e8 : ClassId) (e9 : ClassId) (na : Int32) (ns : Int32) (nw : Int32) (cp : Int32) (le : Int32) (tr : Int32) (sl : Int32) (tz : Int32) (cz : Int32) (q1 : Int32) (q2 : Int32) (q3 : Int32) (q4 : Int32) (g1 : Nat → Option Nat) (g2 : Nat → Option Nat) (g3 : Nat → Option Nat) (g4 : Nat → Option Nat) (g5 : Nat → Option Nat) (g6 : Nat → Option Nat) (g7 : Nat → Option Nat) (y8 : Nat → Int32) (y9 : Nat → Int32) (L : List Nat) (K : Nat → Nat × Nat) (f : Nat → va_E) (S : Int) (v : Int32) (w : Int32) (Nd : Nat → Int → Option Nat) (V : Nat → Nat → Int) (hI : cqI S L K f) (hna : 0 ≤ (na).toInt ∧ (na).toInt ≤ 200) (hns : 0 ≤ (ns).toInt ∧ (ns).toInt ≤ 30) (htz : 0 ≤ (tz).toInt ∧ (tz).toInt ≤ 60) (hcz : 0 ≤ (cz).toInt ∧ (cz).toInt ≤ 200) (j1 : cqJA L K (na).toInt g1) (j2 : cqJL L K ((na).toInt.toNat) g2) (j3 : cqJ L K 6 (ns).toInt g3) (j4 : cqJ L K 4 (tz).toInt g4) (j5 : cqJ L K 1 (cz).toInt g5) (hro : cqIs L K 3 ro) (hSb : 0 ≤ S ∧ S ≤ 500000) (hTR : tR L K f ro Nd V (na).toInt.toNat) (hA9 : tA f g1 Nd V (na).toInt.toNat) (hV : cqV f g1 (na).toInt V) : Met l yX8_odds wsX8_odds ({ frames := 2, cells := 0, slots := 0, locals := 42 }) (va_Pc [.ref xo, .int v, .int w] (wo D [(e1, .object RX0), (e2, .object RX0), (e3, .object RX6), (e4, .object RX4), (e5, .object RX1), (e6, .object RX1), (e7, .object RX1), (e8, .int), (e9, .int)] ([oC xo 8 [.ref a1, .ref a2, .ref a3, .ref ro, .ref tI, .ref cS, .ref pN, .int na, .int ns, .int nw, .int cp, .int le, .int tr, .int sl], aR a1 e1 200 (g1), aR a2 e2 40 (g2), aR a3 e3 30 (g3), oC tI 7 [.ref a4, .int tz], aR a4 e4 60 (g4), oC cS 2 [.ref a5, .int cz], aR a5 e5 200 (g5), oC pN 5 [.ref a6, .ref a7, .ref a8, .ref a9, .int q1, .int q2, .int q3, .int q4], aR a6 e6 17 (g6), aR a7 e7 12 (g7), aI a8 e8 301 (y8), aI a9 e9 301 (y9)] ++ va_pl L f))) (vp_Si (fun r => (r).toInt = odX V (na).toInt (le).toInt (v).toInt (w).toInt)) 0 0 (fun _ => False) := by
  refine Met.ofW (cc := cX8_odds) (maxL := 7) (ret := (some .int)) (by decide) rfl ?_
  intro p e s m args below meth c s₁ B hml hv
  obtain ⟨rfl, hP, hK, hD, hN⟩ := hv
  have hx := B.exec
  have hb := B.bytes
  have hr := B.returns
  have hts := atoms_spec (ws := wsX8_odds) B.pre
  have hown : s.vm.findClass RX8 = some m.cls := findClass_of_methodNamed B.named
  have hlocks := B.notSynchronized
  have hin_X3 : ∀ w ∈ u_ws RX3 TX3 8, w ∈ wsX8_odds := fun w h => List.mem_cons_of_mem _ (List.mem_append_left _ (List.mem_append_right _ (h)))
  have hin_X8 : ∀ w ∈ u_ws RX8 TX8 14, w ∈ wsX8_odds := fun w h => List.mem_cons_of_mem _ (List.mem_append_left _ (List.mem_append_left _ (List.mem_append_right _ (h))))
  have hl := lv_entry ([.ref xo, .int v, .int w]) (n := 7) (Nat.le_of_ble_eq_true rfl)
  rw [lg_entry_eq]
  generalize (lg_sl ([.ref xo, .int v, .int w]) ++ List.replicate (7 - (lg_sl ([.ref xo, .int v, .int w])).length) Slot.unset).toArray = ls at hl ⊢
  have hl : lv_has ls 7 [(0, .ref xo), (1, .int v), (2, .int w)] := hl
  refine lv_aload_n hx hb dX8_odds_0 rfl (lv_at hl 0 rfl) ?_
  refine lv_iload_n hx hb dX8_odds_1 rfl (lv_at hl 1 rfl) ?_
  refine va_csq (wrV (As := [.int v]) (rest := []) ⟨hx, hb, hml, hown, hts⟩ hN hK hP hD (c_X8_alarmAtR l D xo ro tI cS pN a1 a2 a3 a4 a5 a6 a7 a8 a9 e1 e2 e3 e4 e5 e6 e7 e8 e9 na ns nw cp le tr sl tz cz q1 q2 q3 q4 g1 g2 g3 g4 g5 g6 g7 y8 y9 L K f S v hI (by first | omega | assumption | decide | (have h3 : (0 : Int32).toInt = 0 := rfl; omega) | (have h3 : (0 : Int32).toInt = 0 := rfl; have h4 : (1 : Int32).toInt = 1 := rfl; have h5 : (-1 : Int32).toInt = -1 := rfl; omega)) j1) (cwV 1 hts gX8_odds_X8_alarmAt rfl rfl rfl (by decide +kernel) ⟨(Nat.le_of_ble_eq_true rfl), (Nat.le_of_ble_eq_true rfl)⟩) 8 rfl ⟨0, _, rfl⟩ rfl hl.1 rfl (Nat.le_of_ble_eq_true rfl) dX8_odds_2 ⟨(Nat.le_of_ble_eq_true rfl), (Nat.le_of_ble_eq_true rfl)⟩) (fun r_1 h_2 => ?_)
  obtain ⟨h_2, xh_2⟩ := h_2
  have h_2 : cqOp L K 0 r_1 := h_2
  have xh_2 : atS (na).toInt (v).toInt (v).toInt.toNat g1 r_1 := xh_2
  refine q_astore_n (r := r_1) (lv' := [(3, va_rf r_1), (0, .ref xo), (1, .int v), (2, .int w)]) hx hb dX8_odds_5 rfl hl (by decide) rfl (fun ls hl => ?_)
  refine q_aload_n hx hb dX8_odds_6 rfl (lv_at hl 0 rfl) ?_
  rcases r_1 with _ | b_3
  · have hl : lv_has ls 7 [(3, .null), (0, .ref xo), (1, .int v), (2, .int w)] := hl
    refine lv_ifnullN (tgt := 19) hx hb dX8_odds_7 (by decide) ?_
    refine lv_iconst (v := (-1)) hx hb dX8_odds_19 (by decide) ?_
    exact W.iret (v := (-1)) hx hb hr (fun t ht hW => ⟨(-1), rfl, (by have h9 := xh_2.2 rfl; rw [odX_no (by unfold odOK; omega)]; rfl), ht⟩) (fun q h => by cases h) dX8_odds_20
  · have hl : lv_has ls 7 [(3, .ref b_3), (0, .ref xo), (1, .int v), (2, .int w)] := hl
    have is_4 := h_2 b_3 rfl
    refine lv_ifnull hx hb dX8_odds_7 ?_
    refine lv_iload_n hx hb dX8_odds_10 rfl (lv_at hl 3 rfl) ?_
    refine bz_lt (zx := (w).toInt) (tgt := 19) hx hb dX8_odds_11 (by decide) rfl (fun c_5 => ?_) (fun c_5 => ?_)
    · refine lv_iconst (v := (-1)) hx hb dX8_odds_19 (by decide) ?_
      exact W.iret (v := (-1)) hx hb hr (fun t ht hW => ⟨(-1), rfl, (by rw [odX_no (by unfold odOK; omega)]; rfl), ht⟩) (fun q h => by cases h) dX8_odds_20
    · refine lv_iload_n hx hb dX8_odds_14 rfl (lv_at hl 3 rfl) ?_
      refine lv_iconst (v := 5) hx hb dX8_odds_15 (by decide) ?_
      refine bi_le (zx := (w).toInt) (zy := 5) (tgt := 21) hx hb dX8_odds_16 (by decide) rfl (by decide) (fun c_6 => ?_) (fun c_6 => ?_)
      · refine lv_aload_n hx hb dX8_odds_21 rfl (lv_at hl 0 rfl) ?_
        refine lv_aload_n hx hb dX8_odds_22 rfl (lv_at hl 1 rfl) ?_
        refine va_get (D := D) (ci := 8) (v := .int le) (C := RX8) (T := TX8) (N := 14) hx hb hts hin_X8 hown hK hP 0 rfl rfl 11 (by decide) (hts (.fieldLink RX8 58 "CryOrder" "leastSettled" "I") (List.mem_cons_of_mem _ (List.mem_append_left _ (List.mem_append_left _ (List.mem_append_left _ (List.mem_append_left _ (List.mem_of_getElem? (i := 0) rfl))))))) (fun _ h9 => h9) rfl dX8_odds_23 ?_
        obtain ⟨hx9, hx8⟩ := xh_2.1 _ rfl
        have hlf0 := tA_lf hA9 hV (by omega) (by omega) hx8
        have V4 := hV _ (by omega) b_3 hx8 4 (by decide)
        refine va_csq (wrV (As := [.int le]) (rest := []) ⟨hx, hb, hml, hown, hts⟩ hN hK hP hD (c_X0_nodeForR l D [oC xo 8 [.ref a1, .ref a2, .ref a3, .ref ro, .ref tI, .ref cS, .ref pN, .int na, .int ns, .int nw, .int cp, .int le, .int tr, .int sl], aR a1 e1 200 (g1), aR a2 e2 40 (g2), aR a3 e3 30 (g3), oC tI 7 [.ref a4, .int tz], aR a4 e4 60 (g4), oC cS 2 [.ref a5, .int cz], aR a5 e5 200 (g5), oC pN 5 [.ref a6, .ref a7, .ref a8, .ref a9, .int q1, .int q2, .int q3, .int q4], aR a6 e6 17 (g6), aR a7 e7 12 (g7), aI a8 e8 301 (y8), aI a9 e9 301 (y9)] L K f S [(e1, .object RX0), (e2, .object RX0), (e3, .object RX6), (e4, .object RX4), (e5, .object RX1), (e6, .object RX1), (e7, .object RX1), (e8, .int), (e9, .int)] b_3 le ro Nd V ((na).toInt.toNat) hI is_4 (by first | omega | assumption | decide | (have h3 : (0 : Int32).toInt = 0 := rfl; omega) | (have h3 : (0 : Int32).toInt = 0 := rfl; have h4 : (1 : Int32).toInt = 1 := rfl; have h5 : (-1 : Int32).toInt = -1 := rfl; omega)) hlf0) (cwV 1 hts gX8_odds_X0_nodeFor rfl rfl rfl (by decide +kernel) ⟨(Nat.le_of_ble_eq_true rfl), (Nat.le_of_ble_eq_true rfl)⟩) 0 rfl (cq_rcA (X := [oC xo 8 [.ref a1, .ref a2, .ref a3, .ref ro, .ref tI, .ref cS, .ref pN, .int na, .int ns, .int nw, .int cp, .int le, .int tr, .int sl], aR a1 e1 200 (g1), aR a2 e2 40 (g2), aR a3 e3 30 (g3), oC tI 7 [.ref a4, .int tz], aR a4 e4 60 (g4), oC cS 2 [.ref a5, .int cz], aR a5 e5 200 (g5), oC pN 5 [.ref a6, .ref a7, .ref a8, .ref a9, .int q1, .int q2, .int q3, .int q4], aR a6 e6 17 (g6), aR a7 e7 12 (g7), aI a8 e8 301 (y8), aI a9 e9 301 (y9)]) hI is_4) rfl hl.1 rfl (Nat.le_of_ble_eq_true rfl) dX8_odds_26 ⟨(Nat.le_of_ble_eq_true rfl), (Nat.le_of_ble_eq_true rfl)⟩) (fun r_7 h_8 => ?_)
        obtain ⟨b_9, rfl, is_10, h_11⟩ := h_8
        have h_11 : Nd (dpF V (na).toInt.toNat (cqF (f b_3) 4) (le).toInt 4) (pfx (dpF V (na).toInt.toNat (cqF (f b_3) 4) (le).toInt 4) (cqF (f b_3) 4)) = some b_9 := h_11
        refine lv_topv (z := .ref b_9) rfl ?_
        have c5 : cqF (f b_9) 5 = odC V (na).toInt.toNat (le).toInt (V (v).toInt.toNat 4) 5 := by have h9 := (hTR.2.1 _ _ b_9 h_11).2.2.2 5 (by decide); rw [V4] at h9; exact h9
        have r5 := ctF_rng (C := kC V 5 (dpF V (na).toInt.toNat (V (v).toInt.toNat 4) (le).toInt 4) (pfx (dpF V (na).toInt.toNat (V (v).toInt.toNat 4) (le).toInt 4) (V (v).toInt.toNat 4))) (na).toInt.toNat
        have s5 : 0 ≤ odC V (na).toInt.toNat (le).toInt (V (v).toInt.toNat 4) 5 ∧ odC V (na).toInt.toNat (le).toInt (V (v).toInt.toNat 4) 5 ≤ 200 := by unfold odC; omega
        have c6 : cqF (f b_9) 6 = odC V (na).toInt.toNat (le).toInt (V (v).toInt.toNat 4) 6 := by have h9 := (hTR.2.1 _ _ b_9 h_11).2.2.2 6 (by decide); rw [V4] at h9; exact h9
        have r6 := ctF_rng (C := kC V 6 (dpF V (na).toInt.toNat (V (v).toInt.toNat 4) (le).toInt 4) (pfx (dpF V (na).toInt.toNat (V (v).toInt.toNat 4) (le).toInt 4) (V (v).toInt.toNat 4))) (na).toInt.toNat
        have s6 : 0 ≤ odC V (na).toInt.toNat (le).toInt (V (v).toInt.toNat 4) 6 ∧ odC V (na).toInt.toNat (le).toInt (V (v).toInt.toNat 4) 6 ≤ 200 := by unfold odC; omega
        have c7 : cqF (f b_9) 7 = odC V (na).toInt.toNat (le).toInt (V (v).toInt.toNat 4) 7 := by have h9 := (hTR.2.1 _ _ b_9 h_11).2.2.2 7 (by decide); rw [V4] at h9; exact h9
        have r7 := ctF_rng (C := kC V 7 (dpF V (na).toInt.toNat (V (v).toInt.toNat 4) (le).toInt 4) (pfx (dpF V (na).toInt.toNat (V (v).toInt.toNat 4) (le).toInt 4) (V (v).toInt.toNat 4))) (na).toInt.toNat
        have s7 : 0 ≤ odC V (na).toInt.toNat (le).toInt (V (v).toInt.toNat 4) 7 ∧ odC V (na).toInt.toNat (le).toInt (V (v).toInt.toNat 4) 7 ≤ 200 := by unfold odC; omega
        have s56 := odC_56 (V := V) (n := (na).toInt.toNat) (le := (le).toInt) (mk := V (v).toInt.toNat 4)
        have s67 := odC_67 (V := V) (n := (na).toInt.toNat) (i := (v).toInt.toNat) (le := (le).toInt) (by omega)
        refine lv_astore (lv' := [(4, .ref b_9), (3, .ref b_3), (0, .ref xo), (1, .int v), (2, .int w)]) hx hb dX8_odds_29 hl (by decide) rfl (fun ls hl => ?_)
        refine lv_iload_n hx hb dX8_odds_31 rfl (lv_at hl 4 rfl) ?_
        refine lv_iconst (v := 2) hx hb dX8_odds_32 (by decide) ?_
        refine lv_irem hx hb dX8_odds_33 (ne0_of (zy := 2) (by omega) (by decide)) ?_
        refine lv_topi (fun z_12 ez_12 => ?_)
        have hm2 : (z_12).toInt = (w).toInt % 2 := rm_eq ez_12 (by omega) (by decide)
        refine bz_ne (zx := (z_12).toInt) (tgt := 41) hx hb dX8_odds_34 (by decide) rfl (fun c_13 => ?_) (fun c_13 => ?_)
        · refine lv_iconst (v := 0) hx hb dX8_odds_41 (by decide) ?_
          refine lv_istore (lv' := [(5, .int 0), (4, .ref b_9), (3, .ref b_3), (0, .ref xo), (1, .int v), (2, .int w)]) hx hb dX8_odds_42 hl (by decide) rfl (fun ls hl => ?_)
          refine lv_iload_n hx hb dX8_odds_44 rfl (lv_at hl 5 rfl) ?_
          refine lv_iconst (v := 1) hx hb dX8_odds_45 (by decide) ?_
          refine bi_gt (zx := (w).toInt) (zy := 1) (tgt := 65) hx hb dX8_odds_46 (by decide) rfl (by decide) (fun c_14 => ?_) (fun c_14 => ?_)
          · refine lv_iload_n hx hb dX8_odds_65 rfl (lv_at hl 5 rfl) ?_
            refine lv_iconst (v := 3) hx hb dX8_odds_66 (by decide) ?_
            refine bi_gt (zx := (w).toInt) (zy := 3) (tgt := 78) hx hb dX8_odds_67 (by decide) rfl (by decide) (fun c_15 => ?_) (fun c_15 => ?_)
            · refine lv_aload hx hb dX8_odds_78 (lv_at hl 1 rfl) ?_
              obtain ⟨pa_16, de_16, ma_16, sb_16, fc_16, tu_16, sd_16, op_16, hf_16, hpa_16, hsb_16, hfc_16⟩ := hI.opN is_10
              have F1hf_16 : cqF (f b_9) 1 = (de_16).toInt := by rw [hf_16]; rfl
              have F2hf_16 : cqF (f b_9) 2 = (ma_16).toInt := by rw [hf_16]; rfl
              have F5hf_16 : cqF (f b_9) 5 = (tu_16).toInt := by rw [hf_16]; rfl
              have F6hf_16 : cqF (f b_9) 6 = (sd_16).toInt := by rw [hf_16]; rfl
              have F7hf_16 : cqF (f b_9) 7 = (op_16).toInt := by rw [hf_16]; rfl
              refine pl_get (D := D) (ci := 3) (v := .int tu_16) (C := RX3) (T := TX3) (N := 8) hx hb hts hin_X3 hown hK hP is_10.1 hf_16 rfl 5 (by decide) (hts (.fieldLink RX8 195 "CryOrder$Node" "settledTrue" "I") (List.mem_cons_of_mem _ (List.mem_append_left _ (List.mem_append_left _ (List.mem_append_left _ (List.mem_append_left _ (List.mem_of_getElem? (i := 1) rfl))))))) (fun _ h9 => h9) rfl dX8_odds_80 ?_
              refine lv_aload hx hb dX8_odds_83 (lv_at hl 1 rfl) ?_
              refine pl_get (D := D) (ci := 3) (v := .int op_16) (C := RX3) (T := TX3) (N := 8) hx hb hts hin_X3 hown hK hP is_10.1 hf_16 rfl 7 (by decide) (hts (.fieldLink RX8 201 "CryOrder$Node" "open" "I") (List.mem_cons_of_mem _ (List.mem_append_left _ (List.mem_append_left _ (List.mem_append_left _ (List.mem_append_left _ (List.mem_of_getElem? (i := 2) rfl))))))) (fun _ h9 => h9) rfl dX8_odds_85 ?_
              refine lv_iadd hx hb dX8_odds_88 ?_
              refine lv_topi (fun z_17 ez_17 => ?_)
              have tz_17 := ad_toInt (zx := (tu_16).toInt) (zy := (op_16).toInt) ez_17 rfl rfl
              refine lv_istore (lv' := [(6, .int z_17), (5, .int 0), (4, .ref b_9), (3, .ref b_3), (0, .ref xo), (1, .int v), (2, .int w)]) hx hb dX8_odds_89 hl (by decide) rfl (fun ls hl => ?_)
              refine lv_iload hx hb dX8_odds_91 (lv_at hl 0 rfl) ?_
              refine lv_aload hx hb dX8_odds_93 (lv_at hl 2 rfl) ?_
              refine pl_get (D := D) (ci := 3) (v := .int sd_16) (C := RX3) (T := TX3) (N := 8) hx hb hts hin_X3 hown hK hP is_10.1 hf_16 rfl 6 (by decide) (hts (.fieldLink RX8 198 "CryOrder$Node" "settled" "I") (List.mem_cons_of_mem _ (List.mem_append_left _ (List.mem_append_left _ (List.mem_append_left _ (List.mem_append_left _ (List.mem_of_getElem? (i := 3) rfl))))))) (fun _ h9 => h9) rfl dX8_odds_95 ?_
              refine lv_aload hx hb dX8_odds_98 (lv_at hl 2 rfl) ?_
              refine pl_get (D := D) (ci := 3) (v := .int op_16) (C := RX3) (T := TX3) (N := 8) hx hb hts hin_X3 hown hK hP is_10.1 hf_16 rfl 7 (by decide) (hts (.fieldLink RX8 201 "CryOrder$Node" "open" "I") (List.mem_cons_of_mem _ (List.mem_append_left _ (List.mem_append_left _ (List.mem_append_left _ (List.mem_append_left _ (List.mem_of_getElem? (i := 2) rfl))))))) (fun _ h9 => h9) rfl dX8_odds_100 ?_
              refine lv_iadd hx hb dX8_odds_103 ?_
              refine lv_topi (fun z_18 ez_18 => ?_)
              have tz_18 := ad_toInt (zx := (sd_16).toInt) (zy := (op_16).toInt) ez_18 rfl rfl
              refine lv_iload hx hb dX8_odds_104 (lv_at hl 1 rfl) ?_
              refine vp_callSi (zrS (As := [.int z_17, .int z_18, .int 0]) (rest := []) (wc := []) ⟨hx, hb, hml, hown, hts⟩ hN hK hP hD (c_lowestR l D z_17 z_18 0 ) (va_cwS 3 hts gX8_odds_X8_inLowestTerms rfl rfl rfl (by decide +kernel) ⟨(Nat.le_of_ble_eq_true rfl), (Nat.le_of_ble_eq_true rfl)⟩) [] [] rfl rfl (by decide) rfl hl.1 rfl (Nat.le_of_ble_eq_true rfl) dX8_odds_106 ⟨(Nat.le_of_ble_eq_true rfl), (Nat.le_of_ble_eq_true rfl)⟩) (fun r_19 h_20 => ?_)
              have h_20 : (0 ≤ (z_17).toInt ∧ (z_17).toInt ≤ (z_18).toInt ∧ 1 ≤ (z_18).toInt ∧ (z_18).toInt ≤ 400) → (r_19).toInt = (if 0 = 0 then (z_18).toInt else (z_17).toInt) / gcI (z_18).toInt (z_17).toInt := h_20
              exact W.iret (v := r_19) hx hb hr (fun t ht hW => ⟨r_19, rfl, (odX_yes (u := (z_17).toInt) (l := (z_18).toInt) (x := (z_18).toInt) (by unfold odOK; omega) c5 c6 c7 (by unfold odU; (repeat' split) <;> omega) (by unfold odL; (repeat' split) <;> omega) (by omega) (by have h9 := h_20 (by omega); rw [h9]; rw [if_pos (by decide)])), ht⟩) (fun q h => by cases h) dX8_odds_109
            · refine lv_aload hx hb dX8_odds_70 (lv_at hl 1 rfl) ?_
              obtain ⟨pa_21, de_21, ma_21, sb_21, fc_21, tu_21, sd_21, op_21, hf_21, hpa_21, hsb_21, hfc_21⟩ := hI.opN is_10
              have F1hf_21 : cqF (f b_9) 1 = (de_21).toInt := by rw [hf_21]; rfl
              have F2hf_21 : cqF (f b_9) 2 = (ma_21).toInt := by rw [hf_21]; rfl
              have F5hf_21 : cqF (f b_9) 5 = (tu_21).toInt := by rw [hf_21]; rfl
              have F6hf_21 : cqF (f b_9) 6 = (sd_21).toInt := by rw [hf_21]; rfl
              have F7hf_21 : cqF (f b_9) 7 = (op_21).toInt := by rw [hf_21]; rfl
              refine pl_get (D := D) (ci := 3) (v := .int tu_21) (C := RX3) (T := TX3) (N := 8) hx hb hts hin_X3 hown hK hP is_10.1 hf_21 rfl 5 (by decide) (hts (.fieldLink RX8 195 "CryOrder$Node" "settledTrue" "I") (List.mem_cons_of_mem _ (List.mem_append_left _ (List.mem_append_left _ (List.mem_append_left _ (List.mem_append_left _ (List.mem_of_getElem? (i := 1) rfl))))))) (fun _ h9 => h9) rfl dX8_odds_72 ?_
              refine lv_goto (tgt := 89) hx hb dX8_odds_75 (by decide) ?_
              refine lv_istore (lv' := [(6, .int tu_21), (5, .int 0), (4, .ref b_9), (3, .ref b_3), (0, .ref xo), (1, .int v), (2, .int w)]) hx hb dX8_odds_89 hl (by decide) rfl (fun ls hl => ?_)
              refine lv_iload hx hb dX8_odds_91 (lv_at hl 0 rfl) ?_
              refine lv_aload hx hb dX8_odds_93 (lv_at hl 2 rfl) ?_
              refine pl_get (D := D) (ci := 3) (v := .int sd_21) (C := RX3) (T := TX3) (N := 8) hx hb hts hin_X3 hown hK hP is_10.1 hf_21 rfl 6 (by decide) (hts (.fieldLink RX8 198 "CryOrder$Node" "settled" "I") (List.mem_cons_of_mem _ (List.mem_append_left _ (List.mem_append_left _ (List.mem_append_left _ (List.mem_append_left _ (List.mem_of_getElem? (i := 3) rfl))))))) (fun _ h9 => h9) rfl dX8_odds_95 ?_
              refine lv_aload hx hb dX8_odds_98 (lv_at hl 2 rfl) ?_
              refine pl_get (D := D) (ci := 3) (v := .int op_21) (C := RX3) (T := TX3) (N := 8) hx hb hts hin_X3 hown hK hP is_10.1 hf_21 rfl 7 (by decide) (hts (.fieldLink RX8 201 "CryOrder$Node" "open" "I") (List.mem_cons_of_mem _ (List.mem_append_left _ (List.mem_append_left _ (List.mem_append_left _ (List.mem_append_left _ (List.mem_of_getElem? (i := 2) rfl))))))) (fun _ h9 => h9) rfl dX8_odds_100 ?_
              refine lv_iadd hx hb dX8_odds_103 ?_
              refine lv_topi (fun z_22 ez_22 => ?_)
              have tz_22 := ad_toInt (zx := (sd_21).toInt) (zy := (op_21).toInt) ez_22 rfl rfl
              refine lv_iload hx hb dX8_odds_104 (lv_at hl 1 rfl) ?_
              refine vp_callSi (zrS (As := [.int tu_21, .int z_22, .int 0]) (rest := []) (wc := []) ⟨hx, hb, hml, hown, hts⟩ hN hK hP hD (c_lowestR l D tu_21 z_22 0 ) (va_cwS 3 hts gX8_odds_X8_inLowestTerms rfl rfl rfl (by decide +kernel) ⟨(Nat.le_of_ble_eq_true rfl), (Nat.le_of_ble_eq_true rfl)⟩) [] [] rfl rfl (by decide) rfl hl.1 rfl (Nat.le_of_ble_eq_true rfl) dX8_odds_106 ⟨(Nat.le_of_ble_eq_true rfl), (Nat.le_of_ble_eq_true rfl)⟩) (fun r_23 h_24 => ?_)
              have h_24 : (0 ≤ (tu_21).toInt ∧ (tu_21).toInt ≤ (z_22).toInt ∧ 1 ≤ (z_22).toInt ∧ (z_22).toInt ≤ 400) → (r_23).toInt = (if 0 = 0 then (z_22).toInt else (tu_21).toInt) / gcI (z_22).toInt (tu_21).toInt := h_24
              exact W.iret (v := r_23) hx hb hr (fun t ht hW => ⟨r_23, rfl, (odX_yes (u := (tu_21).toInt) (l := (z_22).toInt) (x := (z_22).toInt) (by unfold odOK; omega) c5 c6 c7 (by unfold odU; (repeat' split) <;> omega) (by unfold odL; (repeat' split) <;> omega) (by omega) (by have h9 := h_24 (by omega); rw [h9]; rw [if_pos (by decide)])), ht⟩) (fun q h => by cases h) dX8_odds_109
          · refine lv_aload hx hb dX8_odds_49 (lv_at hl 1 rfl) ?_
            refine vp_callSi (wrV (As := []) (rest := []) ⟨hx, hb, hml, hown, hts⟩ hN hK hP hD (c_X3_oddsUpperR l D [oC xo 8 [.ref a1, .ref a2, .ref a3, .ref ro, .ref tI, .ref cS, .ref pN, .int na, .int ns, .int nw, .int cp, .int le, .int tr, .int sl], aR a1 e1 200 (g1), aR a2 e2 40 (g2), aR a3 e3 30 (g3), oC tI 7 [.ref a4, .int tz], aR a4 e4 60 (g4), oC cS 2 [.ref a5, .int cz], aR a5 e5 200 (g5), oC pN 5 [.ref a6, .ref a7, .ref a8, .ref a9, .int q1, .int q2, .int q3, .int q4], aR a6 e6 17 (g6), aR a7 e7 12 (g7), aI a8 e8 301 (y8), aI a9 e9 301 (y9)] L K f S [(e1, .object RX0), (e2, .object RX0), (e3, .object RX6), (e4, .object RX4), (e5, .object RX1), (e6, .object RX1), (e7, .object RX1), (e8, .int), (e9, .int)] b_9 hI is_10) (cwV 0 hts gX8_odds_X3_oddsUpper rfl rfl rfl (by decide +kernel) ⟨(Nat.le_of_ble_eq_true rfl), (Nat.le_of_ble_eq_true rfl)⟩) 3 rfl (cq_rcN (X := [oC xo 8 [.ref a1, .ref a2, .ref a3, .ref ro, .ref tI, .ref cS, .ref pN, .int na, .int ns, .int nw, .int cp, .int le, .int tr, .int sl], aR a1 e1 200 (g1), aR a2 e2 40 (g2), aR a3 e3 30 (g3), oC tI 7 [.ref a4, .int tz], aR a4 e4 60 (g4), oC cS 2 [.ref a5, .int cz], aR a5 e5 200 (g5), oC pN 5 [.ref a6, .ref a7, .ref a8, .ref a9, .int q1, .int q2, .int q3, .int q4], aR a6 e6 17 (g6), aR a7 e7 12 (g7), aI a8 e8 301 (y8), aI a9 e9 301 (y9)]) hI is_10) rfl hl.1 rfl (Nat.le_of_ble_eq_true rfl) dX8_odds_51 ⟨(Nat.le_of_ble_eq_true rfl), (Nat.le_of_ble_eq_true rfl)⟩) (fun r_25 h_26 => ?_)
            have h_26 : (cqF (f b_9) 6 = 0 ∧ (r_25).toInt = 1) ∨ (¬ cqF (f b_9) 6 = 0 ∧ (r_25).toInt = cqF (f b_9) 5) := h_26
            refine lv_aload hx hb dX8_odds_54 (lv_at hl 1 rfl) ?_
            refine vp_callSi (wrV (As := []) (rest := [.int r_25]) ⟨hx, hb, hml, hown, hts⟩ hN hK hP hD (c_X3_oddsLowerR l D [oC xo 8 [.ref a1, .ref a2, .ref a3, .ref ro, .ref tI, .ref cS, .ref pN, .int na, .int ns, .int nw, .int cp, .int le, .int tr, .int sl], aR a1 e1 200 (g1), aR a2 e2 40 (g2), aR a3 e3 30 (g3), oC tI 7 [.ref a4, .int tz], aR a4 e4 60 (g4), oC cS 2 [.ref a5, .int cz], aR a5 e5 200 (g5), oC pN 5 [.ref a6, .ref a7, .ref a8, .ref a9, .int q1, .int q2, .int q3, .int q4], aR a6 e6 17 (g6), aR a7 e7 12 (g7), aI a8 e8 301 (y8), aI a9 e9 301 (y9)] L K f S [(e1, .object RX0), (e2, .object RX0), (e3, .object RX6), (e4, .object RX4), (e5, .object RX1), (e6, .object RX1), (e7, .object RX1), (e8, .int), (e9, .int)] b_9 hI is_10) (cwV 0 hts gX8_odds_X3_oddsLower rfl rfl rfl (by decide +kernel) ⟨(Nat.le_of_ble_eq_true rfl), (Nat.le_of_ble_eq_true rfl)⟩) 3 rfl (cq_rcN (X := [oC xo 8 [.ref a1, .ref a2, .ref a3, .ref ro, .ref tI, .ref cS, .ref pN, .int na, .int ns, .int nw, .int cp, .int le, .int tr, .int sl], aR a1 e1 200 (g1), aR a2 e2 40 (g2), aR a3 e3 30 (g3), oC tI 7 [.ref a4, .int tz], aR a4 e4 60 (g4), oC cS 2 [.ref a5, .int cz], aR a5 e5 200 (g5), oC pN 5 [.ref a6, .ref a7, .ref a8, .ref a9, .int q1, .int q2, .int q3, .int q4], aR a6 e6 17 (g6), aR a7 e7 12 (g7), aI a8 e8 301 (y8), aI a9 e9 301 (y9)]) hI is_10) rfl hl.1 rfl (Nat.le_of_ble_eq_true rfl) dX8_odds_56 ⟨(Nat.le_of_ble_eq_true rfl), (Nat.le_of_ble_eq_true rfl)⟩) (fun r_27 h_28 => ?_)
            have h_28 : (cqF (f b_9) 6 = 0 ∧ (r_27).toInt = 2) ∨ (¬ cqF (f b_9) 6 = 0 ∧ (r_27).toInt = cqF (f b_9) 6) := h_28
            refine lv_iload hx hb dX8_odds_59 (lv_at hl 0 rfl) ?_
            refine vp_callSi (zrS (As := [.int r_25, .int r_27, .int 0]) (rest := []) (wc := []) ⟨hx, hb, hml, hown, hts⟩ hN hK hP hD (c_lowestR l D r_25 r_27 0 ) (va_cwS 3 hts gX8_odds_X8_inLowestTerms rfl rfl rfl (by decide +kernel) ⟨(Nat.le_of_ble_eq_true rfl), (Nat.le_of_ble_eq_true rfl)⟩) [] [] rfl rfl (by decide) rfl hl.1 rfl (Nat.le_of_ble_eq_true rfl) dX8_odds_61 ⟨(Nat.le_of_ble_eq_true rfl), (Nat.le_of_ble_eq_true rfl)⟩) (fun r_29 h_30 => ?_)
            have h_30 : (0 ≤ (r_25).toInt ∧ (r_25).toInt ≤ (r_27).toInt ∧ 1 ≤ (r_27).toInt ∧ (r_27).toInt ≤ 400) → (r_29).toInt = (if 0 = 0 then (r_27).toInt else (r_25).toInt) / gcI (r_27).toInt (r_25).toInt := h_30
            exact W.iret (v := r_29) hx hb hr (fun t ht hW => ⟨r_29, rfl, (odX_yes (u := (r_25).toInt) (l := (r_27).toInt) (x := (r_27).toInt) (by unfold odOK; omega) c5 c6 c7 (by unfold odU; (repeat' split) <;> omega) (by unfold odL; (repeat' split) <;> omega) (by omega) (by have h9 := h_30 (by omega); rw [h9]; rw [if_pos (by decide)])), ht⟩) (fun q h => by cases h) dX8_odds_64
        · refine lv_iconst (v := 1) hx hb dX8_odds_37 (by decide) ?_
          refine lv_goto (tgt := 42) hx hb dX8_odds_38 (by decide) ?_
          refine lv_istore (lv' := [(5, .int 1), (4, .ref b_9), (3, .ref b_3), (0, .ref xo), (1, .int v), (2, .int w)]) hx hb dX8_odds_42 hl (by decide) rfl (fun ls hl => ?_)
          refine lv_iload_n hx hb dX8_odds_44 rfl (lv_at hl 5 rfl) ?_
          refine lv_iconst (v := 1) hx hb dX8_odds_45 (by decide) ?_
          refine bi_gt (zx := (w).toInt) (zy := 1) (tgt := 65) hx hb dX8_odds_46 (by decide) rfl (by decide) (fun c_31 => ?_) (fun c_31 => ?_)
          · refine lv_iload_n hx hb dX8_odds_65 rfl (lv_at hl 5 rfl) ?_
            refine lv_iconst (v := 3) hx hb dX8_odds_66 (by decide) ?_
            refine bi_gt (zx := (w).toInt) (zy := 3) (tgt := 78) hx hb dX8_odds_67 (by decide) rfl (by decide) (fun c_32 => ?_) (fun c_32 => ?_)
            · refine lv_aload hx hb dX8_odds_78 (lv_at hl 1 rfl) ?_
              obtain ⟨pa_33, de_33, ma_33, sb_33, fc_33, tu_33, sd_33, op_33, hf_33, hpa_33, hsb_33, hfc_33⟩ := hI.opN is_10
              have F1hf_33 : cqF (f b_9) 1 = (de_33).toInt := by rw [hf_33]; rfl
              have F2hf_33 : cqF (f b_9) 2 = (ma_33).toInt := by rw [hf_33]; rfl
              have F5hf_33 : cqF (f b_9) 5 = (tu_33).toInt := by rw [hf_33]; rfl
              have F6hf_33 : cqF (f b_9) 6 = (sd_33).toInt := by rw [hf_33]; rfl
              have F7hf_33 : cqF (f b_9) 7 = (op_33).toInt := by rw [hf_33]; rfl
              refine pl_get (D := D) (ci := 3) (v := .int tu_33) (C := RX3) (T := TX3) (N := 8) hx hb hts hin_X3 hown hK hP is_10.1 hf_33 rfl 5 (by decide) (hts (.fieldLink RX8 195 "CryOrder$Node" "settledTrue" "I") (List.mem_cons_of_mem _ (List.mem_append_left _ (List.mem_append_left _ (List.mem_append_left _ (List.mem_append_left _ (List.mem_of_getElem? (i := 1) rfl))))))) (fun _ h9 => h9) rfl dX8_odds_80 ?_
              refine lv_aload hx hb dX8_odds_83 (lv_at hl 1 rfl) ?_
              refine pl_get (D := D) (ci := 3) (v := .int op_33) (C := RX3) (T := TX3) (N := 8) hx hb hts hin_X3 hown hK hP is_10.1 hf_33 rfl 7 (by decide) (hts (.fieldLink RX8 201 "CryOrder$Node" "open" "I") (List.mem_cons_of_mem _ (List.mem_append_left _ (List.mem_append_left _ (List.mem_append_left _ (List.mem_append_left _ (List.mem_of_getElem? (i := 2) rfl))))))) (fun _ h9 => h9) rfl dX8_odds_85 ?_
              refine lv_iadd hx hb dX8_odds_88 ?_
              refine lv_topi (fun z_34 ez_34 => ?_)
              have tz_34 := ad_toInt (zx := (tu_33).toInt) (zy := (op_33).toInt) ez_34 rfl rfl
              refine lv_istore (lv' := [(6, .int z_34), (5, .int 1), (4, .ref b_9), (3, .ref b_3), (0, .ref xo), (1, .int v), (2, .int w)]) hx hb dX8_odds_89 hl (by decide) rfl (fun ls hl => ?_)
              refine lv_iload hx hb dX8_odds_91 (lv_at hl 0 rfl) ?_
              refine lv_aload hx hb dX8_odds_93 (lv_at hl 2 rfl) ?_
              refine pl_get (D := D) (ci := 3) (v := .int sd_33) (C := RX3) (T := TX3) (N := 8) hx hb hts hin_X3 hown hK hP is_10.1 hf_33 rfl 6 (by decide) (hts (.fieldLink RX8 198 "CryOrder$Node" "settled" "I") (List.mem_cons_of_mem _ (List.mem_append_left _ (List.mem_append_left _ (List.mem_append_left _ (List.mem_append_left _ (List.mem_of_getElem? (i := 3) rfl))))))) (fun _ h9 => h9) rfl dX8_odds_95 ?_
              refine lv_aload hx hb dX8_odds_98 (lv_at hl 2 rfl) ?_
              refine pl_get (D := D) (ci := 3) (v := .int op_33) (C := RX3) (T := TX3) (N := 8) hx hb hts hin_X3 hown hK hP is_10.1 hf_33 rfl 7 (by decide) (hts (.fieldLink RX8 201 "CryOrder$Node" "open" "I") (List.mem_cons_of_mem _ (List.mem_append_left _ (List.mem_append_left _ (List.mem_append_left _ (List.mem_append_left _ (List.mem_of_getElem? (i := 2) rfl))))))) (fun _ h9 => h9) rfl dX8_odds_100 ?_
              refine lv_iadd hx hb dX8_odds_103 ?_
              refine lv_topi (fun z_35 ez_35 => ?_)
              have tz_35 := ad_toInt (zx := (sd_33).toInt) (zy := (op_33).toInt) ez_35 rfl rfl
              refine lv_iload hx hb dX8_odds_104 (lv_at hl 1 rfl) ?_
              refine vp_callSi (zrS (As := [.int z_34, .int z_35, .int 1]) (rest := []) (wc := []) ⟨hx, hb, hml, hown, hts⟩ hN hK hP hD (c_lowestR l D z_34 z_35 1 ) (va_cwS 3 hts gX8_odds_X8_inLowestTerms rfl rfl rfl (by decide +kernel) ⟨(Nat.le_of_ble_eq_true rfl), (Nat.le_of_ble_eq_true rfl)⟩) [] [] rfl rfl (by decide) rfl hl.1 rfl (Nat.le_of_ble_eq_true rfl) dX8_odds_106 ⟨(Nat.le_of_ble_eq_true rfl), (Nat.le_of_ble_eq_true rfl)⟩) (fun r_36 h_37 => ?_)
              have h_37 : (0 ≤ (z_34).toInt ∧ (z_34).toInt ≤ (z_35).toInt ∧ 1 ≤ (z_35).toInt ∧ (z_35).toInt ≤ 400) → (r_36).toInt = (if 1 = 0 then (z_35).toInt else (z_34).toInt) / gcI (z_35).toInt (z_34).toInt := h_37
              exact W.iret (v := r_36) hx hb hr (fun t ht hW => ⟨r_36, rfl, (odX_yes (u := (z_34).toInt) (l := (z_35).toInt) (x := (z_34).toInt) (by unfold odOK; omega) c5 c6 c7 (by unfold odU; (repeat' split) <;> omega) (by unfold odL; (repeat' split) <;> omega) (by omega) (by have h9 := h_37 (by omega); rw [h9]; rw [if_neg (by decide)])), ht⟩) (fun q h => by cases h) dX8_odds_109
            · refine lv_aload hx hb dX8_odds_70 (lv_at hl 1 rfl) ?_
              obtain ⟨pa_38, de_38, ma_38, sb_38, fc_38, tu_38, sd_38, op_38, hf_38, hpa_38, hsb_38, hfc_38⟩ := hI.opN is_10
              have F1hf_38 : cqF (f b_9) 1 = (de_38).toInt := by rw [hf_38]; rfl
              have F2hf_38 : cqF (f b_9) 2 = (ma_38).toInt := by rw [hf_38]; rfl
              have F5hf_38 : cqF (f b_9) 5 = (tu_38).toInt := by rw [hf_38]; rfl
              have F6hf_38 : cqF (f b_9) 6 = (sd_38).toInt := by rw [hf_38]; rfl
              have F7hf_38 : cqF (f b_9) 7 = (op_38).toInt := by rw [hf_38]; rfl
              refine pl_get (D := D) (ci := 3) (v := .int tu_38) (C := RX3) (T := TX3) (N := 8) hx hb hts hin_X3 hown hK hP is_10.1 hf_38 rfl 5 (by decide) (hts (.fieldLink RX8 195 "CryOrder$Node" "settledTrue" "I") (List.mem_cons_of_mem _ (List.mem_append_left _ (List.mem_append_left _ (List.mem_append_left _ (List.mem_append_left _ (List.mem_of_getElem? (i := 1) rfl))))))) (fun _ h9 => h9) rfl dX8_odds_72 ?_
              refine lv_goto (tgt := 89) hx hb dX8_odds_75 (by decide) ?_
              refine lv_istore (lv' := [(6, .int tu_38), (5, .int 1), (4, .ref b_9), (3, .ref b_3), (0, .ref xo), (1, .int v), (2, .int w)]) hx hb dX8_odds_89 hl (by decide) rfl (fun ls hl => ?_)
              refine lv_iload hx hb dX8_odds_91 (lv_at hl 0 rfl) ?_
              refine lv_aload hx hb dX8_odds_93 (lv_at hl 2 rfl) ?_
              refine pl_get (D := D) (ci := 3) (v := .int sd_38) (C := RX3) (T := TX3) (N := 8) hx hb hts hin_X3 hown hK hP is_10.1 hf_38 rfl 6 (by decide) (hts (.fieldLink RX8 198 "CryOrder$Node" "settled" "I") (List.mem_cons_of_mem _ (List.mem_append_left _ (List.mem_append_left _ (List.mem_append_left _ (List.mem_append_left _ (List.mem_of_getElem? (i := 3) rfl))))))) (fun _ h9 => h9) rfl dX8_odds_95 ?_
              refine lv_aload hx hb dX8_odds_98 (lv_at hl 2 rfl) ?_
              refine pl_get (D := D) (ci := 3) (v := .int op_38) (C := RX3) (T := TX3) (N := 8) hx hb hts hin_X3 hown hK hP is_10.1 hf_38 rfl 7 (by decide) (hts (.fieldLink RX8 201 "CryOrder$Node" "open" "I") (List.mem_cons_of_mem _ (List.mem_append_left _ (List.mem_append_left _ (List.mem_append_left _ (List.mem_append_left _ (List.mem_of_getElem? (i := 2) rfl))))))) (fun _ h9 => h9) rfl dX8_odds_100 ?_
              refine lv_iadd hx hb dX8_odds_103 ?_
              refine lv_topi (fun z_39 ez_39 => ?_)
              have tz_39 := ad_toInt (zx := (sd_38).toInt) (zy := (op_38).toInt) ez_39 rfl rfl
              refine lv_iload hx hb dX8_odds_104 (lv_at hl 1 rfl) ?_
              refine vp_callSi (zrS (As := [.int tu_38, .int z_39, .int 1]) (rest := []) (wc := []) ⟨hx, hb, hml, hown, hts⟩ hN hK hP hD (c_lowestR l D tu_38 z_39 1 ) (va_cwS 3 hts gX8_odds_X8_inLowestTerms rfl rfl rfl (by decide +kernel) ⟨(Nat.le_of_ble_eq_true rfl), (Nat.le_of_ble_eq_true rfl)⟩) [] [] rfl rfl (by decide) rfl hl.1 rfl (Nat.le_of_ble_eq_true rfl) dX8_odds_106 ⟨(Nat.le_of_ble_eq_true rfl), (Nat.le_of_ble_eq_true rfl)⟩) (fun r_40 h_41 => ?_)
              have h_41 : (0 ≤ (tu_38).toInt ∧ (tu_38).toInt ≤ (z_39).toInt ∧ 1 ≤ (z_39).toInt ∧ (z_39).toInt ≤ 400) → (r_40).toInt = (if 1 = 0 then (z_39).toInt else (tu_38).toInt) / gcI (z_39).toInt (tu_38).toInt := h_41
              exact W.iret (v := r_40) hx hb hr (fun t ht hW => ⟨r_40, rfl, (odX_yes (u := (tu_38).toInt) (l := (z_39).toInt) (x := (tu_38).toInt) (by unfold odOK; omega) c5 c6 c7 (by unfold odU; (repeat' split) <;> omega) (by unfold odL; (repeat' split) <;> omega) (by omega) (by have h9 := h_41 (by omega); rw [h9]; rw [if_neg (by decide)])), ht⟩) (fun q h => by cases h) dX8_odds_109
          · refine lv_aload hx hb dX8_odds_49 (lv_at hl 1 rfl) ?_
            refine vp_callSi (wrV (As := []) (rest := []) ⟨hx, hb, hml, hown, hts⟩ hN hK hP hD (c_X3_oddsUpperR l D [oC xo 8 [.ref a1, .ref a2, .ref a3, .ref ro, .ref tI, .ref cS, .ref pN, .int na, .int ns, .int nw, .int cp, .int le, .int tr, .int sl], aR a1 e1 200 (g1), aR a2 e2 40 (g2), aR a3 e3 30 (g3), oC tI 7 [.ref a4, .int tz], aR a4 e4 60 (g4), oC cS 2 [.ref a5, .int cz], aR a5 e5 200 (g5), oC pN 5 [.ref a6, .ref a7, .ref a8, .ref a9, .int q1, .int q2, .int q3, .int q4], aR a6 e6 17 (g6), aR a7 e7 12 (g7), aI a8 e8 301 (y8), aI a9 e9 301 (y9)] L K f S [(e1, .object RX0), (e2, .object RX0), (e3, .object RX6), (e4, .object RX4), (e5, .object RX1), (e6, .object RX1), (e7, .object RX1), (e8, .int), (e9, .int)] b_9 hI is_10) (cwV 0 hts gX8_odds_X3_oddsUpper rfl rfl rfl (by decide +kernel) ⟨(Nat.le_of_ble_eq_true rfl), (Nat.le_of_ble_eq_true rfl)⟩) 3 rfl (cq_rcN (X := [oC xo 8 [.ref a1, .ref a2, .ref a3, .ref ro, .ref tI, .ref cS, .ref pN, .int na, .int ns, .int nw, .int cp, .int le, .int tr, .int sl], aR a1 e1 200 (g1), aR a2 e2 40 (g2), aR a3 e3 30 (g3), oC tI 7 [.ref a4, .int tz], aR a4 e4 60 (g4), oC cS 2 [.ref a5, .int cz], aR a5 e5 200 (g5), oC pN 5 [.ref a6, .ref a7, .ref a8, .ref a9, .int q1, .int q2, .int q3, .int q4], aR a6 e6 17 (g6), aR a7 e7 12 (g7), aI a8 e8 301 (y8), aI a9 e9 301 (y9)]) hI is_10) rfl hl.1 rfl (Nat.le_of_ble_eq_true rfl) dX8_odds_51 ⟨(Nat.le_of_ble_eq_true rfl), (Nat.le_of_ble_eq_true rfl)⟩) (fun r_42 h_43 => ?_)
            have h_43 : (cqF (f b_9) 6 = 0 ∧ (r_42).toInt = 1) ∨ (¬ cqF (f b_9) 6 = 0 ∧ (r_42).toInt = cqF (f b_9) 5) := h_43
            refine lv_aload hx hb dX8_odds_54 (lv_at hl 1 rfl) ?_
            refine vp_callSi (wrV (As := []) (rest := [.int r_42]) ⟨hx, hb, hml, hown, hts⟩ hN hK hP hD (c_X3_oddsLowerR l D [oC xo 8 [.ref a1, .ref a2, .ref a3, .ref ro, .ref tI, .ref cS, .ref pN, .int na, .int ns, .int nw, .int cp, .int le, .int tr, .int sl], aR a1 e1 200 (g1), aR a2 e2 40 (g2), aR a3 e3 30 (g3), oC tI 7 [.ref a4, .int tz], aR a4 e4 60 (g4), oC cS 2 [.ref a5, .int cz], aR a5 e5 200 (g5), oC pN 5 [.ref a6, .ref a7, .ref a8, .ref a9, .int q1, .int q2, .int q3, .int q4], aR a6 e6 17 (g6), aR a7 e7 12 (g7), aI a8 e8 301 (y8), aI a9 e9 301 (y9)] L K f S [(e1, .object RX0), (e2, .object RX0), (e3, .object RX6), (e4, .object RX4), (e5, .object RX1), (e6, .object RX1), (e7, .object RX1), (e8, .int), (e9, .int)] b_9 hI is_10) (cwV 0 hts gX8_odds_X3_oddsLower rfl rfl rfl (by decide +kernel) ⟨(Nat.le_of_ble_eq_true rfl), (Nat.le_of_ble_eq_true rfl)⟩) 3 rfl (cq_rcN (X := [oC xo 8 [.ref a1, .ref a2, .ref a3, .ref ro, .ref tI, .ref cS, .ref pN, .int na, .int ns, .int nw, .int cp, .int le, .int tr, .int sl], aR a1 e1 200 (g1), aR a2 e2 40 (g2), aR a3 e3 30 (g3), oC tI 7 [.ref a4, .int tz], aR a4 e4 60 (g4), oC cS 2 [.ref a5, .int cz], aR a5 e5 200 (g5), oC pN 5 [.ref a6, .ref a7, .ref a8, .ref a9, .int q1, .int q2, .int q3, .int q4], aR a6 e6 17 (g6), aR a7 e7 12 (g7), aI a8 e8 301 (y8), aI a9 e9 301 (y9)]) hI is_10) rfl hl.1 rfl (Nat.le_of_ble_eq_true rfl) dX8_odds_56 ⟨(Nat.le_of_ble_eq_true rfl), (Nat.le_of_ble_eq_true rfl)⟩) (fun r_44 h_45 => ?_)
            have h_45 : (cqF (f b_9) 6 = 0 ∧ (r_44).toInt = 2) ∨ (¬ cqF (f b_9) 6 = 0 ∧ (r_44).toInt = cqF (f b_9) 6) := h_45
            refine lv_iload hx hb dX8_odds_59 (lv_at hl 0 rfl) ?_
            refine vp_callSi (zrS (As := [.int r_42, .int r_44, .int 1]) (rest := []) (wc := []) ⟨hx, hb, hml, hown, hts⟩ hN hK hP hD (c_lowestR l D r_42 r_44 1 ) (va_cwS 3 hts gX8_odds_X8_inLowestTerms rfl rfl rfl (by decide +kernel) ⟨(Nat.le_of_ble_eq_true rfl), (Nat.le_of_ble_eq_true rfl)⟩) [] [] rfl rfl (by decide) rfl hl.1 rfl (Nat.le_of_ble_eq_true rfl) dX8_odds_61 ⟨(Nat.le_of_ble_eq_true rfl), (Nat.le_of_ble_eq_true rfl)⟩) (fun r_46 h_47 => ?_)
            have h_47 : (0 ≤ (r_42).toInt ∧ (r_42).toInt ≤ (r_44).toInt ∧ 1 ≤ (r_44).toInt ∧ (r_44).toInt ≤ 400) → (r_46).toInt = (if 1 = 0 then (r_44).toInt else (r_42).toInt) / gcI (r_44).toInt (r_42).toInt := h_47
            exact W.iret (v := r_46) hx hb hr (fun t ht hW => ⟨r_46, rfl, (odX_yes (u := (r_42).toInt) (l := (r_44).toInt) (x := (r_42).toInt) (by unfold odOK; omega) c5 c6 c7 (by unfold odU; (repeat' split) <;> omega) (by unfold odL; (repeat' split) <;> omega) (by omega) (by have h9 := h_47 (by omega); rw [h9]; rw [if_neg (by decide)])), ht⟩) (fun q h => by cases h) dX8_odds_64
      · refine lv_iconst (v := (-1)) hx hb dX8_odds_19 (by decide) ?_
        exact W.iret (v := (-1)) hx hb hr (fun t ht hW => ⟨(-1), rfl, (by rw [odX_no (by unfold odOK; omega)]; rfl), ht⟩) (fun q h => by cases h) dX8_odds_20
