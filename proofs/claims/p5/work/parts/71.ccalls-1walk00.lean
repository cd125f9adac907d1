set_option maxHeartbeats 4000000 in
set_option maxRecDepth 100000 in
theorem c_X8_node (l : Launch) (D : va_G) (xo : Nat) (ro : Nat) (tI : Nat) (cS : Nat) (pN : Nat) (a1 : Nat) (a2 : Nat) (a3 : Nat) (a4 : Nat) (a5 : Nat) (a6 : Nat) (a7 : Nat) (a8 : Nat) (a9 : Nat) (e1 : ClassId) (e2 : ClassId) (e3 : ClassId) (e4 : ClassId) (e5 : ClassId) (e6 : ClassId) (e7 : ClassId) (e8 : ClassId) (e9 : ClassId) (na : Int32) (ns : Int32) (nw : Int32) (cp : Int32) (le : Int32) (tr : Int32) (sl : Int32) (tz : Int32) (cz : Int32) (q1 : Int32) (q2 : Int32) (q3 : Int32) (q4 : Int32) (g1 : Nat → Option Nat) (g2 : Nat → Option Nat) (g3 : Nat → Option Nat) (g4 : Nat → Option Nat) (g5 : Nat → Option Nat) (g6 : Nat → Option Nat) (g7 : Nat → Option Nat) (y8 : Nat → Int32) (y9 : Nat → Int32) (L : List Nat) (K : Nat → Nat × Nat) (f : Nat → va_E) (S : Int) (v0 : Int32) (v : Int32) (w : Int32) (hI : cqI S L K f) (hna : 0 ≤ (na).toInt ∧ (na).toInt ≤ 200) (hns : 0 ≤ (ns).toInt ∧ (ns).toInt ≤ 30) (htz : 0 ≤ (tz).toInt ∧ (tz).toInt ≤ 60) (hcz : 0 ≤ (cz).toInt ∧ (cz).toInt ≤ 200) (j1 : cqJA L K (na).toInt g1) (j2 : cqJL L K ((na).toInt.toNat) g2) (j3 : cqJ L K 6 (ns).toInt g3) (j4 : cqJ L K 4 (tz).toInt g4) (j5 : cqJ L K 1 (cz).toInt g5) (hro : cqIs L K 3 ro) (hSb : 0 ≤ S ∧ S ≤ 500000) : Met l yX8_node wsX8_node ({ frames := 2, cells := 0, slots := 0, locals := 46 }) (va_Pc [.ref xo, .int v0, .int v, .int w] (wo D [(e1, .object RX0), (e2, .object RX0), (e3, .object RX6), (e4, .object RX4), (e5, .object RX1), (e6, .object RX1), (e7, .object RX1), (e8, .int), (e9, .int)] ([oC xo 8 [.ref a1, .ref a2, .ref a3, .ref ro, .ref tI, .ref cS, .ref pN, .int na, .int ns, .int nw, .int cp, .int le, .int tr, .int sl], aR a1 e1 200 (g1), aR a2 e2 40 (g2), aR a3 e3 30 (g3), oC tI 7 [.ref a4, .int tz], aR a4 e4 60 (g4), oC cS 2 [.ref a5, .int cz], aR a5 e5 200 (g5), oC pN 5 [.ref a6, .ref a7, .ref a8, .ref a9, .int q1, .int q2, .int q3, .int q4], aR a6 e6 17 (g6), aR a7 e7 12 (g7), aI a8 e8 301 (y8), aI a9 e9 301 (y9)] ++ va_pl L f))) (vp_Si (fun r => True)) 0 0 (fun _ => False) := by
  refine Met.ofW (cc := cX8_node) (maxL := 5) (ret := (some .int)) (by decide) rfl ?_
  intro p e s m args below meth c s₁ B hml hv
  obtain ⟨rfl, hP, hK, hD, hN⟩ := hv
  have hx := B.exec
  have hb := B.bytes
  have hr := B.returns
  have hts := atoms_spec (ws := wsX8_node) B.pre
  have hown : s.vm.findClass RX8 = some m.cls := findClass_of_methodNamed B.named
  have hlocks := B.notSynchronized
  have hin_X3 : ∀ w ∈ u_ws RX3 TX3 8, w ∈ wsX8_node := fun w h => List.mem_cons_of_mem _ (List.mem_append_right _ (h))
  have hin_X8 : ∀ w ∈ u_ws RX8 TX8 14, w ∈ wsX8_node := fun w h => List.mem_cons_of_mem _ (List.mem_append_left _ (List.mem_append_right _ (h)))
  have hl := lv_entry ([.ref xo, .int v0, .int v, .int w]) (n := 5) (Nat.le_of_ble_eq_true rfl)
  rw [lg_entry_eq]
  generalize (lg_sl ([.ref xo, .int v0, .int v, .int w]) ++ List.replicate (5 - (lg_sl ([.ref xo, .int v0, .int v, .int w])).length) Slot.unset).toArray = ls at hl ⊢
  have hl : lv_has ls 5 [(0, .ref xo), (1, .int v0), (2, .int v), (3, .int w)] := hl
  refine lv_iload_n hx hb dX8_node_0 rfl (lv_at hl 1 rfl) ?_
  refine bz_lt (zx := (v0).toInt) (tgt := 28) hx hb dX8_node_1 (by decide) rfl (fun c_1 => ?_) (fun c_1 => ?_)
  · refine lv_iconst (v := (-1)) hx hb dX8_node_28 (by decide) ?_
    exact W.iret (v := (-1)) hx hb hr (fun t ht hW => ⟨(-1), rfl, trivial, ht⟩) (fun q h => by cases h) dX8_node_29
  · refine lv_iload_n hx hb dX8_node_4 rfl (lv_at hl 1 rfl) ?_
    refine lv_iconst (v := 4) hx hb dX8_node_5 (by decide) ?_
    refine bi_gt (zx := (v0).toInt) (zy := 4) (tgt := 28) hx hb dX8_node_6 (by decide) rfl (by decide) (fun c_2 => ?_) (fun c_2 => ?_)
    · refine lv_iconst (v := (-1)) hx hb dX8_node_28 (by decide) ?_
      exact W.iret (v := (-1)) hx hb hr (fun t ht hW => ⟨(-1), rfl, trivial, ht⟩) (fun q h => by cases h) dX8_node_29
    · refine lv_iload_n hx hb dX8_node_9 rfl (lv_at hl 2 rfl) ?_
      refine lv_sipush (v := 4096) hx hb dX8_node_10 (by decide) ?_
      refine vp_callSi (zrS (As := [.int v, .int 4096]) (rest := []) (wc := []) ⟨hx, hb, hml, hown, hts⟩ hN hK hP hD (c_X8_isBelow l D v 4096 ) (va_cwS 2 hts gX8_node_X8_isBelow rfl rfl rfl (by decide +kernel) ⟨(Nat.le_of_ble_eq_true rfl), (Nat.le_of_ble_eq_true rfl)⟩) [] [] rfl rfl (by decide) rfl hl.1 rfl (Nat.le_of_ble_eq_true rfl) dX8_node_13 ⟨(Nat.le_of_ble_eq_true rfl), (Nat.le_of_ble_eq_true rfl)⟩) (fun r_3 h_4 => ?_)
      rcases h_4 with ⟨h_4, rfl⟩ | ⟨h_4, rfl⟩
      · have h_4 : 0 ≤ (v).toInt ∧ (v).toInt < 4096 := h_4
        refine lv_if_eq (tgt := 28) hx hb dX8_node_16 (by decide) (fun c_ => absurd c_ (by decide)) (fun _ => ?_)
        refine lv_iload_n hx hb dX8_node_19 rfl (lv_at hl 3 rfl) ?_
        refine bz_lt (zx := (w).toInt) (tgt := 28) hx hb dX8_node_20 (by decide) rfl (fun c_5 => ?_) (fun c_5 => ?_)
        · refine lv_iconst (v := (-1)) hx hb dX8_node_28 (by decide) ?_
          exact W.iret (v := (-1)) hx hb hr (fun t ht hW => ⟨(-1), rfl, trivial, ht⟩) (fun q h => by cases h) dX8_node_29
        · refine lv_iload_n hx hb dX8_node_23 rfl (lv_at hl 3 rfl) ?_
          refine lv_iconst (v := 2) hx hb dX8_node_24 (by decide) ?_
          refine bi_le (zx := (w).toInt) (zy := 2) (tgt := 30) hx hb dX8_node_25 (by decide) rfl (by decide) (fun c_6 => ?_) (fun c_6 => ?_)
          · refine lv_aload_n hx hb dX8_node_30 rfl (lv_at hl 0 rfl) ?_
            refine va_get (D := D) (ci := 8) (v := .ref ro) (C := RX8) (T := TX8) (N := 14) hx hb hts hin_X8 hown hK hP 0 rfl rfl 3 (by decide) (hts (.fieldLink RX8 29 "CryOrder" "root" "LCryOrder$Node;") (List.mem_cons_of_mem _ (List.mem_append_left _ (List.mem_append_left _ (List.mem_of_getElem? (i := 0) rfl))))) (fun _ h9 => h9) rfl dX8_node_31 ?_
            refine lv_iload_n hx hb dX8_node_34 rfl (lv_at hl 1 rfl) ?_
            refine lv_iload_n hx hb dX8_node_35 rfl (lv_at hl 2 rfl) ?_
            refine va_csq (wrV (As := [.int v0, .int v]) (rest := []) ⟨hx, hb, hml, hown, hts⟩ hN hK hP hD (c_X3_find l D [oC xo 8 [.ref a1, .ref a2, .ref a3, .ref ro, .ref tI, .ref cS, .ref pN, .int na, .int ns, .int nw, .int cp, .int le, .int tr, .int sl], aR a1 e1 200 (g1), aR a2 e2 40 (g2), aR a3 e3 30 (g3), oC tI 7 [.ref a4, .int tz], aR a4 e4 60 (g4), oC cS 2 [.ref a5, .int cz], aR a5 e5 200 (g5), oC pN 5 [.ref a6, .ref a7, .ref a8, .ref a9, .int q1, .int q2, .int q3, .int q4], aR a6 e6 17 (g6), aR a7 e7 12 (g7), aI a8 e8 301 (y8), aI a9 e9 301 (y9)] L K f S [(e1, .object RX0), (e2, .object RX0), (e3, .object RX6), (e4, .object RX4), (e5, .object RX1), (e6, .object RX1), (e7, .object RX1), (e8, .int), (e9, .int)] ro v0 v hI hro (by first | omega | assumption | decide | (have h3 : (0 : Int32).toInt = 0 := rfl; omega) | (have h3 : (0 : Int32).toInt = 0 := rfl; have h4 : (1 : Int32).toInt = 1 := rfl; have h5 : (-1 : Int32).toInt = -1 := rfl; omega))) (cwV 2 hts gX8_node_X3_find rfl rfl rfl (by decide +kernel) ⟨(Nat.le_of_ble_eq_true rfl), (Nat.le_of_ble_eq_true rfl)⟩) 3 rfl (cq_rcN (X := [oC xo 8 [.ref a1, .ref a2, .ref a3, .ref ro, .ref tI, .ref cS, .ref pN, .int na, .int ns, .int nw, .int cp, .int le, .int tr, .int sl], aR a1 e1 200 (g1), aR a2 e2 40 (g2), aR a3 e3 30 (g3), oC tI 7 [.ref a4, .int tz], aR a4 e4 60 (g4), oC cS 2 [.ref a5, .int cz], aR a5 e5 200 (g5), oC pN 5 [.ref a6, .ref a7, .ref a8, .ref a9, .int q1, .int q2, .int q3, .int q4], aR a6 e6 17 (g6), aR a7 e7 12 (g7), aI a8 e8 301 (y8), aI a9 e9 301 (y9)]) hI hro) rfl hl.1 rfl (Nat.le_of_ble_eq_true rfl) dX8_node_36 ⟨(Nat.le_of_ble_eq_true rfl), (Nat.le_of_ble_eq_true rfl)⟩) (fun r_7 h_8 => ?_)
            have h_8 : cqOp L K 3 r_7 := h_8
            refine q_astore (r := r_7) (lv' := [(4, va_rf r_7), (0, .ref xo), (1, .int v0), (2, .int v), (3, .int w)]) hx hb dX8_node_39 hl (by decide) rfl (fun ls hl => ?_)
            refine q_aload hx hb dX8_node_41 (lv_at hl 0 rfl) ?_
            rcases r_7 with _ | b_9
            · have hl : lv_has ls 5 [(4, .null), (0, .ref xo), (1, .int v0), (2, .int v), (3, .int w)] := hl
              refine lv_ifnonnullN hx hb dX8_node_43 ?_
              refine lv_iconst (v := 0) hx hb dX8_node_46 (by decide) ?_
              exact W.iret (v := 0) hx hb hr (fun t ht hW => ⟨0, rfl, trivial, ht⟩) (fun q h => by cases h) dX8_node_47
            · have hl : lv_has ls 5 [(4, .ref b_9), (0, .ref xo), (1, .int v0), (2, .int v), (3, .int w)] := hl
              have is_10 := h_8 b_9 rfl
              refine lv_ifnonnull (tgt := 48) hx hb dX8_node_43 (by decide) ?_
              refine lv_iload_n hx hb dX8_node_48 rfl (lv_at hl 4 rfl) ?_
              rcases (show (w).toInt = 0 ∨ (w).toInt = 1 ∨ ((w).toInt ≠ 0 ∧ (w).toInt ≠ 1) by omega) with c_11 | c_11 | c_11
              · refine lv_lookup (tgt := 76) hx hb dX8_node_49 (by decide) (by rw [c_11]) (by decide) ?_
                refine lv_aload hx hb dX8_node_76 (lv_at hl 0 rfl) ?_
                obtain ⟨pa_12, de_12, ma_12, sb_12, fc_12, tu_12, sd_12, op_12, hf_12, hpa_12, hsb_12, hfc_12⟩ := hI.opN is_10
                refine pl_get (D := D) (ci := 3) (v := .int tu_12) (C := RX3) (T := TX3) (N := 8) hx hb hts hin_X3 hown hK hP is_10.1 hf_12 rfl 5 (by decide) (hts (.fieldLink RX8 195 "CryOrder$Node" "settledTrue" "I") (List.mem_cons_of_mem _ (List.mem_append_left _ (List.mem_append_left _ (List.mem_of_getElem? (i := 1) rfl))))) (fun _ h9 => h9) rfl dX8_node_78 ?_
                exact W.iret (v := tu_12) hx hb hr (fun t ht hW => ⟨tu_12, rfl, trivial, ht⟩) (fun q h => by cases h) dX8_node_81
              · refine lv_lookup (tgt := 82) hx hb dX8_node_49 (by decide) (by rw [c_11]) (by decide) ?_
                refine lv_aload hx hb dX8_node_82 (lv_at hl 0 rfl) ?_
                obtain ⟨pa_13, de_13, ma_13, sb_13, fc_13, tu_13, sd_13, op_13, hf_13, hpa_13, hsb_13, hfc_13⟩ := hI.opN is_10
                refine pl_get (D := D) (ci := 3) (v := .int sd_13) (C := RX3) (T := TX3) (N := 8) hx hb hts hin_X3 hown hK hP is_10.1 hf_13 rfl 6 (by decide) (hts (.fieldLink RX8 198 "CryOrder$Node" "settled" "I") (List.mem_cons_of_mem _ (List.mem_append_left _ (List.mem_append_left _ (List.mem_of_getElem? (i := 2) rfl))))) (fun _ h9 => h9) rfl dX8_node_84 ?_
                exact W.iret (v := sd_13) hx hb hr (fun t ht hW => ⟨sd_13, rfl, trivial, ht⟩) (fun q h => by cases h) dX8_node_87
              · refine lv_lookup (off := 39) (tgt := 88) hx hb dX8_node_49 (by decide) (by show Op.lookupswitch.offset [(0, 27), (1, 33)] 39 _ = _; rw [Op.lookupswitch.offset_cons, if_neg (by omega), Op.lookupswitch.offset_cons, if_neg (by omega)]; rfl) (by decide) ?_
                refine lv_aload hx hb dX8_node_88 (lv_at hl 0 rfl) ?_
                obtain ⟨pa_14, de_14, ma_14, sb_14, fc_14, tu_14, sd_14, op_14, hf_14, hpa_14, hsb_14, hfc_14⟩ := hI.opN is_10
                refine pl_get (D := D) (ci := 3) (v := .int op_14) (C := RX3) (T := TX3) (N := 8) hx hb hts hin_X3 hown hK hP is_10.1 hf_14 rfl 7 (by decide) (hts (.fieldLink RX8 201 "CryOrder$Node" "open" "I") (List.mem_cons_of_mem _ (List.mem_append_left _ (List.mem_append_left _ (List.mem_of_getElem? (i := 3) rfl))))) (fun _ h9 => h9) rfl dX8_node_90 ?_
                exact W.iret (v := op_14) hx hb hr (fun t ht hW => ⟨op_14, rfl, trivial, ht⟩) (fun q h => by cases h) dX8_node_93
          · refine lv_iconst (v := (-1)) hx hb dX8_node_28 (by decide) ?_
            exact W.iret (v := (-1)) hx hb hr (fun t ht hW => ⟨(-1), rfl, trivial, ht⟩) (fun q h => by cases h) dX8_node_29
      · have h_4 : (v).toInt < 0 ∨ 4096 ≤ (v).toInt := h_4
        refine lv_if_eq (tgt := 28) hx hb dX8_node_16 (by decide) (fun _ => ?_) (fun c_ => absurd c_ (by decide))
        refine lv_iconst (v := (-1)) hx hb dX8_node_28 (by decide) ?_
        exact W.iret (v := (-1)) hx hb hr (fun t ht hW => ⟨(-1), rfl, trivial, ht⟩) (fun q h => by cases h) dX8_node_29
