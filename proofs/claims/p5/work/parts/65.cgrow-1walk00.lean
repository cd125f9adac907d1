set_option maxHeartbeats 4000000 in
set_option maxRecDepth 100000 in
theorem fl_grow {p : Program} {l : Launch} {e : Env} {R : Room} {s : State} {m : MethodId} {args : Array Value} {below : List Frame} {meth : Method} {c : Code} {Q : State → Prop} {A : Nat → Prop} {D : va_G} {H0 : Heap} {X0 : va_W} {S : Int} {tys : List (ClassId × FieldType)} {L0 : List Nat} {K0 : Nat → Nat × Nat} {f0 : Nat → va_E} {a : Nat} {v : Int32} (hx : p.tables.exec = Jvm.exec) (hb : c.code = cX3_grow) (hts : ∀ w ∈ wsX3_grow, w.before args s = true) (hml : c.maxLocals = 6) (hown : s.vm.findClass RX3 = some m.cls) (hN : Nq s) (hK : va_K D vwCl tys s) (hA : ∀ q : Nat, H0.size ≤ q → A q) (hR : 2 ≤ R.frames ∧ 35 ≤ R.locals) (done_60 : ∀ (at1 : Nat) (L : List Nat) (K : Nat → Nat × Nat) (f : Nat → va_E) (H : Heap) (locs : List Loc) (ls : Array Slot) (cells slots : Nat), (cells ≤ R.cells ∧ slots ≤ R.slots) → (cqG L0 K0 L K) → (cqT [(3, 4)] L0 K0 f0 f) → (cqI S L K f) → (cqIs L K 3 at1) → va_P D vwCl (X0 ++ va_pl L f) H → va_D A (X0 ++ va_pl L f) → va_S A H0 H locs → lv_has ls 6 [(2, .ref at1), (0, .ref a), (1, .int v)] → W p l e R s m args below meth c H locs cells slots Q (F0 m 60 ls [])) : ∀ (n : Nat), ∀ (d : Int32) (at1 : Nat) (L : List Nat) (K : Nat → Nat × Nat) (f : Nat → va_E) (H : Heap) (locs : List Loc) (ls : Array Slot) (cells slots : Nat), (cells + (4 - (d).toInt).toNat ≤ R.cells ∧ slots + 8 * (4 - (d).toInt).toNat ≤ R.slots) → (0 ≤ (d).toInt ∧ (d).toInt ≤ 4) → (cqG L0 K0 L K) → (cqT [(3, 4)] L0 K0 f0 f) → (cqI S L K f) → (cqIs L K 3 at1) → ((4 - (d).toInt).toNat < n) → va_P D vwCl (X0 ++ va_pl L f) H → va_D A (X0 ++ va_pl L f) → va_S A H0 H locs → lv_has ls 6 [(3, .int d), (2, .ref at1), (0, .ref a), (1, .int v)] → W p l e R s m args below meth c H locs cells slots Q (F0 m 4 ls []) := by
  have hin_X3 : ∀ w ∈ u_ws RX3 TX3 8, w ∈ wsX3_grow := fun w h => List.mem_cons_of_mem _ (List.mem_append_right _ (h))
  intro n
  induction n with
  | zero => intro d at1 L K f H locs ls cells slots hcs hd hG hT hI hat hmu hP hD hS hl; exact absurd hmu (Nat.not_lt_zero _)
  | succ n ih =>
    intro d at1 L K f H locs ls cells slots hcs hd hG hT hI hat hmu hP hD hS hl
    refine lv_iload_n hx hb dX3_grow_4 rfl (lv_at hl 0 rfl) ?_
    refine lv_iconst (v := 4) hx hb dX3_grow_5 (by decide) ?_
    refine bi_ge (zx := (d).toInt) (zy := 4) (tgt := 60) hx hb dX3_grow_6 (by decide) rfl (by decide) (fun c_1 => ?_) (fun c_1 => ?_)
    · exact done_60 at1 L K f _ _ _ _ _ (by omega) hG hT hI hat hP hD hS (lv_sub hl [1, 2, 3] rfl)
    · refine lv_iload_n hx hb dX3_grow_9 rfl (lv_at hl 3 rfl) ?_
      refine lv_iload_n hx hb dX3_grow_10 rfl (lv_at hl 0 rfl) ?_
      refine vp_callSi (zrS (As := [.int v, .int d]) (rest := []) (wc := []) ⟨hx, hb, hml, hown, hts⟩ hN hK hP hD (c_X3_markAt l D v d ) (va_cwS 2 hts gX3_grow_X3_markAt rfl rfl rfl (by decide +kernel) ⟨Nat.le_trans (m := 2) (Nat.le_of_ble_eq_true rfl) hR.1, Nat.le_trans (m := 35) (Nat.le_of_ble_eq_true rfl) hR.2⟩) [] [] rfl rfl (by decide) rfl hl.1 rfl (Nat.le_of_ble_eq_true rfl) dX3_grow_11 ⟨by omega, by omega⟩) (fun r_2 h_3 => ?_)
      refine lv_istore (lv' := [(4, .int r_2), (3, .int d), (2, .ref at1), (0, .ref a), (1, .int v)]) hx hb dX3_grow_14 hl (by decide) rfl (fun ls hl => ?_)
      refine lv_aload_n hx hb dX3_grow_16 rfl (lv_at hl 2 rfl) ?_
      refine lv_iload hx hb dX3_grow_17 (lv_at hl 0 rfl) ?_
      refine va_csq (wrV (As := [.int r_2]) (rest := []) ⟨hx, hb, hml, hown, hts⟩ hN hK hP hD (c_X3_child l D X0 L K f S tys at1 r_2 hI hat) (cwV 1 hts gX3_grow_X3_child rfl rfl rfl (by decide +kernel) ⟨Nat.le_trans (m := 2) (Nat.le_of_ble_eq_true rfl) hR.1, Nat.le_trans (m := 35) (Nat.le_of_ble_eq_true rfl) hR.2⟩) 3 rfl (cq_rcN (X := X0) hI hat) rfl hl.1 rfl (Nat.le_of_ble_eq_true rfl) dX3_grow_19 ⟨by omega, by omega⟩) (fun r_4 h_5 => ?_)
      have h_5 : cqOp L K 3 r_4 := h_5
      refine q_astore (r := r_4) (lv' := [(5, va_rf r_4), (4, .int r_2), (3, .int d), (2, .ref at1), (0, .ref a), (1, .int v)]) hx hb dX3_grow_22 hl (by decide) rfl (fun ls hl => ?_)
      refine q_aload hx hb dX3_grow_24 (lv_at hl 0 rfl) ?_
      rcases r_4 with _ | b_6
      · have hl : lv_has ls 6 [(5, .null), (4, .int r_2), (3, .int d), (2, .ref at1), (0, .ref a), (1, .int v)] := hl
        refine lv_ifnonnullN hx hb dX3_grow_26 ?_
        refine va_new (ci := 3) (fs := [.null, .int 0, .int 0, .null, .null, .int 0, .int 0, .int 0]) (C := RX3) (T := TX3) (N := 8) hx hb hts hin_X3 tyX3 tyX3_ok hown (hts (.classLink RX3 10 RX3) (List.mem_cons_of_mem _ (List.mem_append_left _ (List.mem_of_getElem? (i := 0) rfl)))) (hts (.instantiable RX3 8) (List.mem_cons_of_mem _ (List.mem_append_left _ (List.mem_of_getElem? (i := 1) rfl)))) (hts (.initialized RX3) (List.mem_cons_of_mem _ (List.mem_append_left _ (List.mem_of_getElem? (i := 2) rfl)))) hK hP hD hS hA rfl dfX3 (by omega) (by omega) dX3_grow_29 (fun q_7 H_8 hP hD hS => ?_)
        have hP : va_P D vwCl ((oC q_7 3 [.null, .int 0, .int 0, .null, .null, .int 0, .int 0, .int 0] :: X0) ++ va_pl L f) H_8 := rotP hP
        have hD : va_D A ((oC q_7 3 [.null, .int 0, .int 0, .null, .null, .int 0, .int 0, .int 0] :: X0) ++ va_pl L f) := rotD hD
        refine lv_dup hx hb dX3_grow_32 rfl ?_
        refine lv_aload_n hx hb dX3_grow_33 rfl (lv_at hl 3 rfl) ?_
        refine lv_iload hx hb dX3_grow_34 (lv_at hl 1 rfl) ?_
        refine lv_aload_n hx hb dX3_grow_36 rfl (lv_at hl 3 rfl) ?_
        obtain ⟨pa_9, de_9, ma_9, sb_9, fc_9, tu_9, sd_9, op_9, hf_9, hpa_9, hsb_9, hfc_9⟩ := hI.opN hat
        refine pl_get (D := D) (ci := 3) (v := va_rf fc_9) (C := RX3) (T := TX3) (N := 8) hx hb hts hin_X3 hown hK hP hat.1 hf_9 rfl 4 (by decide) (hts (.fieldLink RX3 25 "CryOrder$Node" "firstChild" "LCryOrder$Node;") (List.mem_cons_of_mem _ (List.mem_append_left _ (List.mem_of_getElem? (i := 3) rfl)))) (fun _ h9 => h9) rfl dX3_grow_37 ?_
        rcases fc_9 with _ | b_10
        · have hf_9 : f at1 = .inr (3, [va_rf pa_9, .int de_9, .int ma_9, va_rf sb_9, .null, .int tu_9, .int sd_9, .int op_9]) := hf_9
          refine va_callv (wwI (mc := 0) (ms := 0) (As := [.ref at1, .int r_2, .null]) (rest := [.ref q_7]) ⟨hx, hb, hml, hown, hts⟩ hN hK hP hD (c_X3_initN l D H_8.size X0 L K f S tys q_7 at1 r_2 hI hat) (cwI 3 hts gX3_grow_X3_init rfl rfl rfl (hts (.initialized RX3) (List.mem_cons_of_mem _ (List.mem_append_left _ (List.mem_of_getElem? (i := 2) rfl)))) (hts (.methodLink RX3 36 yX3_init) (List.mem_cons_of_mem _ (List.mem_append_left _ (List.mem_of_getElem? (i := 13) rfl)))) (hts (.instanceMethod yX3_init) (List.mem_cons_of_mem _ (List.mem_append_left _ (List.mem_of_getElem? (i := 14) rfl)))) rfl (by decide +kernel) ⟨Nat.le_trans (m := 2) (Nat.le_of_ble_eq_true rfl) hR.1, Nat.le_trans (m := 35) (Nat.le_of_ble_eq_true rfl) hR.2⟩) rfl hl.1 rfl (Nat.le_of_ble_eq_true rfl) dX3_grow_40 ⟨by omega, by omega⟩) hS (fun q _ h => wfree hD hS hA q h) (wfree hD hS hA) (fun u t H_11 locs1 ht hvm hw hB hz1 hk1 hS1 => ?_)
          obtain ⟨de_12, hB⟩ := hB
          obtain ⟨hP, hD⟩ := wj hB ht (wfree hD hS hA)
          have hS := hS1
          have hP : va_P D vwCl ((oC q_7 3 [.ref at1, .int de_12, .int r_2, .null, .null, .int 0, .int 0, .int 0] :: X0) ++ va_pl L f) H_11 := hP
          have hD : va_D A ((oC q_7 3 [.ref at1, .int de_12, .int r_2, .null, .null, .int 0, .int 0, .int 0] :: X0) ++ va_pl L f) := hD
          obtain ⟨L_14, K_15, f_16, hG_17, hI, hP, hD, is_18, qis_18, nis_18, ris_18⟩ := nwNT (pa := (some at1)) (sb := none) (fc := none) hI hP hD (cqOp.some hat) cqOp.none cqOp.none
          have hT_19 := hT.grow hG qis_18
          have ois_18 := cqG.out hG nis_18
          have u_20 : cqIs L_14 K_15 3 at1 := hat.up hG_17
          have ku_20 := hat.key hG_17
          have u_21 : cqLo L_14 K_15 3 pa_9 (K at1).2 := hpa_9.up hG_17
          have u_22 : cqLo L_14 K_15 3 sb_9 (K at1).2 := hsb_9.up hG_17
          have hG_23 := hG.trans hG_17
          refine lv_astore (lv' := [(5, .ref q_7), (4, .int r_2), (3, .int d), (2, .ref at1), (0, .ref a), (1, .int v)]) hx hb dX3_grow_43 hl (by decide) rfl (fun ls hl => ?_)
          refine lv_aload_n hx hb dX3_grow_45 rfl (lv_at hl 3 rfl) ?_
          refine lv_aload hx hb dX3_grow_46 (lv_at hl 0 rfl) ?_
          obtain ⟨pa_24, de_24, ma_24, sb_24, fc_24, tu_24, sd_24, op_24, hf_24, hpa_24, hsb_24, hfc_24⟩ := hI.opN u_20
          refine pl_put (D := D) (ci := 3) (v := .ref q_7) (ty := .object "CryOrder$Node") (C := RX3) (T := TX3) (N := 8) hx hb hts hin_X3 tyX3 tyX3_ok nmX3 hown hK hP hD hS u_20.1 hf_24 rfl 4 (by decide) (hts (.fieldLink RX3 25 "CryOrder$Node" "firstChild" "LCryOrder$Node;") (List.mem_cons_of_mem _ (List.mem_append_left _ (List.mem_of_getElem? (i := 3) rfl)))) (fun _ h9 => h9) rfl (by decide +kernel) rfl rfl (Nat.le_of_ble_eq_true rfl) dX3_grow_48 (fun H_25 locs hP hD hS => ?_)
          obtain ⟨f_26, ef_26⟩ : ∃ g, g = va_up f_16 at1 (.inr (3, [va_rf pa_24, .int de_24, .int ma_24, va_rf sb_24, .ref q_7, .int tu_24, .int sd_24, .int op_24])) := ⟨_, rfl⟩
          have hP : va_P D vwCl (X0 ++ va_pl L_14 f_26) H_25 := by rw [ef_26]; exact hP
          have hD : va_D A (X0 ++ va_pl L_14 f_26) := by rw [ef_26]; exact hD
          have hI : cqI S L_14 K_15 f_26 := hI.ptN u_20 ef_26 ⟨pa_24, _, _, sb_24, (some q_7), _, _, _, rfl, hpa_24, hsb_24, (cqOp.some is_18)⟩
          have h_27 : cqOp L_14 K_15 3 (some q_7) := (cqOp.some is_18)
          have hT_28 := hT_19.put (k := 4) hG_23 u_20 ef_26 (.ref q_7) hf_24 rfl (by decide)
          have hf_24 : f_26 at1 = .inr (3, [va_rf pa_24, .int de_24, .int ma_24, va_rf sb_24, .ref q_7, .int tu_24, .int sd_24, .int op_24]) := cq_same ef_26
          refine lv_aload hx hb dX3_grow_51 (lv_at hl 0 rfl) ?_
          refine lv_astore_n (lv' := [(2, .ref q_7), (5, .ref q_7), (4, .int r_2), (3, .int d), (0, .ref a), (1, .int v)]) hx hb dX3_grow_53 rfl hl (by decide) rfl (fun ls hl => ?_)
          obtain ⟨x_29, ex_29⟩ : ∃ z : Int32, z = d + 1 := ⟨_, rfl⟩
          have tx_29 := ad_toInt (x := d) (y := 1) (z := x_29) (zx := (d).toInt) (zy := 1) ex_29 rfl (by decide)
          refine lv_iinc (v := x_29) (lv' := [(3, .int x_29), (2, .ref q_7), (5, .ref q_7), (4, .int r_2), (0, .ref a), (1, .int v)]) hx hb dX3_grow_54 hl (k := 3) rfl (by rw [ex_29]; rfl) (by decide) rfl (fun ls hl => ?_)
          refine lv_goto (tgt := 4) hx hb dX3_grow_57 (by decide) ?_
          exact ih x_29 q_7 L_14 K_15 f_26 _ _ _ _ _ (by omega) (by first | omega | assumption | decide | (have h3 : (0 : Int32).toInt = 0 := rfl; omega) | (have h3 : (0 : Int32).toInt = 0 := rfl; have h4 : (1 : Int32).toInt = 1 := rfl; have h5 : (-1 : Int32).toInt = -1 := rfl; omega)) hG_23 hT_28 hI is_18 (by omega) hP hD hS (lv_sub hl [0, 1, 4, 5] rfl)
        · have hf_9 : f at1 = .inr (3, [va_rf pa_9, .int de_9, .int ma_9, va_rf sb_9, .ref b_10, .int tu_9, .int sd_9, .int op_9]) := hf_9
          have is_30 := hfc_9 b_10 rfl
          refine va_callv (wwI (mc := 0) (ms := 0) (As := [.ref at1, .int r_2, .ref b_10]) (rest := [.ref q_7]) ⟨hx, hb, hml, hown, hts⟩ hN hK hP hD (c_X3_initS l D H_8.size X0 L K f S tys q_7 at1 b_10 r_2 hI hat) (cwI 3 hts gX3_grow_X3_init rfl rfl rfl (hts (.initialized RX3) (List.mem_cons_of_mem _ (List.mem_append_left _ (List.mem_of_getElem? (i := 2) rfl)))) (hts (.methodLink RX3 36 yX3_init) (List.mem_cons_of_mem _ (List.mem_append_left _ (List.mem_of_getElem? (i := 13) rfl)))) (hts (.instanceMethod yX3_init) (List.mem_cons_of_mem _ (List.mem_append_left _ (List.mem_of_getElem? (i := 14) rfl)))) rfl (by decide +kernel) ⟨Nat.le_trans (m := 2) (Nat.le_of_ble_eq_true rfl) hR.1, Nat.le_trans (m := 35) (Nat.le_of_ble_eq_true rfl) hR.2⟩) rfl hl.1 rfl (Nat.le_of_ble_eq_true rfl) dX3_grow_40 ⟨by omega, by omega⟩) hS (fun q _ h => wfree hD hS hA q h) (wfree hD hS hA) (fun u t H_31 locs1 ht hvm hw hB hz1 hk1 hS1 => ?_)
          obtain ⟨de_32, hB⟩ := hB
          obtain ⟨hP, hD⟩ := wj hB ht (wfree hD hS hA)
          have hS := hS1
          have hP : va_P D vwCl ((oC q_7 3 [.ref at1, .int de_32, .int r_2, .ref b_10, .null, .int 0, .int 0, .int 0] :: X0) ++ va_pl L f) H_31 := hP
          have hD : va_D A ((oC q_7 3 [.ref at1, .int de_32, .int r_2, .ref b_10, .null, .int 0, .int 0, .int 0] :: X0) ++ va_pl L f) := hD
          obtain ⟨L_34, K_35, f_36, hG_37, hI, hP, hD, is_38, qis_38, nis_38, ris_38⟩ := nwNT (pa := (some at1)) (sb := (some b_10)) (fc := none) hI hP hD (cqOp.some hat) (cqOp.some is_30) cqOp.none
          have hT_39 := hT.grow hG qis_38
          have ois_38 := cqG.out hG nis_38
          have u_40 : cqIs L_34 K_35 3 at1 := hat.up hG_37
          have ku_40 := hat.key hG_37
          have u_41 : cqIs L_34 K_35 3 b_10 := is_30.up hG_37
          have ku_41 := is_30.key hG_37
          have u_42 : cqLo L_34 K_35 3 pa_9 (K at1).2 := hpa_9.up hG_37
          have u_43 : cqLo L_34 K_35 3 sb_9 (K at1).2 := hsb_9.up hG_37
          have hG_44 := hG.trans hG_37
          refine lv_astore (lv' := [(5, .ref q_7), (4, .int r_2), (3, .int d), (2, .ref at1), (0, .ref a), (1, .int v)]) hx hb dX3_grow_43 hl (by decide) rfl (fun ls hl => ?_)
          refine lv_aload_n hx hb dX3_grow_45 rfl (lv_at hl 3 rfl) ?_
          refine lv_aload hx hb dX3_grow_46 (lv_at hl 0 rfl) ?_
          obtain ⟨pa_45, de_45, ma_45, sb_45, fc_45, tu_45, sd_45, op_45, hf_45, hpa_45, hsb_45, hfc_45⟩ := hI.opN u_40
          refine pl_put (D := D) (ci := 3) (v := .ref q_7) (ty := .object "CryOrder$Node") (C := RX3) (T := TX3) (N := 8) hx hb hts hin_X3 tyX3 tyX3_ok nmX3 hown hK hP hD hS u_40.1 hf_45 rfl 4 (by decide) (hts (.fieldLink RX3 25 "CryOrder$Node" "firstChild" "LCryOrder$Node;") (List.mem_cons_of_mem _ (List.mem_append_left _ (List.mem_of_getElem? (i := 3) rfl)))) (fun _ h9 => h9) rfl (by decide +kernel) rfl rfl (Nat.le_of_ble_eq_true rfl) dX3_grow_48 (fun H_46 locs hP hD hS => ?_)
          obtain ⟨f_47, ef_47⟩ : ∃ g, g = va_up f_36 at1 (.inr (3, [va_rf pa_45, .int de_45, .int ma_45, va_rf sb_45, .ref q_7, .int tu_45, .int sd_45, .int op_45])) := ⟨_, rfl⟩
          have hP : va_P D vwCl (X0 ++ va_pl L_34 f_47) H_46 := by rw [ef_47]; exact hP
          have hD : va_D A (X0 ++ va_pl L_34 f_47) := by rw [ef_47]; exact hD
          have hI : cqI S L_34 K_35 f_47 := hI.ptN u_40 ef_47 ⟨pa_45, _, _, sb_45, (some q_7), _, _, _, rfl, hpa_45, hsb_45, (cqOp.some is_38)⟩
          have h_48 : cqOp L_34 K_35 3 (some q_7) := (cqOp.some is_38)
          have hT_49 := hT_39.put (k := 4) hG_44 u_40 ef_47 (.ref q_7) hf_45 rfl (by decide)
          have hf_45 : f_47 at1 = .inr (3, [va_rf pa_45, .int de_45, .int ma_45, va_rf sb_45, .ref q_7, .int tu_45, .int sd_45, .int op_45]) := cq_same ef_47
          refine lv_aload hx hb dX3_grow_51 (lv_at hl 0 rfl) ?_
          refine lv_astore_n (lv' := [(2, .ref q_7), (5, .ref q_7), (4, .int r_2), (3, .int d), (0, .ref a), (1, .int v)]) hx hb dX3_grow_53 rfl hl (by decide) rfl (fun ls hl => ?_)
          obtain ⟨x_50, ex_50⟩ : ∃ z : Int32, z = d + 1 := ⟨_, rfl⟩
          have tx_50 := ad_toInt (x := d) (y := 1) (z := x_50) (zx := (d).toInt) (zy := 1) ex_50 rfl (by decide)
          refine lv_iinc (v := x_50) (lv' := [(3, .int x_50), (2, .ref q_7), (5, .ref q_7), (4, .int r_2), (0, .ref a), (1, .int v)]) hx hb dX3_grow_54 hl (k := 3) rfl (by rw [ex_50]; rfl) (by decide) rfl (fun ls hl => ?_)
          refine lv_goto (tgt := 4) hx hb dX3_grow_57 (by decide) ?_
          exact ih x_50 q_7 L_34 K_35 f_47 _ _ _ _ _ (by omega) (by first | omega | assumption | decide | (have h3 : (0 : Int32).toInt = 0 := rfl; omega) | (have h3 : (0 : Int32).toInt = 0 := rfl; have h4 : (1 : Int32).toInt = 1 := rfl; have h5 : (-1 : Int32).toInt = -1 := rfl; omega)) hG_44 hT_49 hI is_38 (by omega) hP hD hS (lv_sub hl [0, 1, 4, 5] rfl)
      · have hl : lv_has ls 6 [(5, .ref b_6), (4, .int r_2), (3, .int d), (2, .ref at1), (0, .ref a), (1, .int v)] := hl
        have is_51 := h_5 b_6 rfl
        refine lv_ifnonnull (tgt := 51) hx hb dX3_grow_26 (by decide) ?_
        refine lv_aload hx hb dX3_grow_51 (lv_at hl 0 rfl) ?_
        refine lv_astore_n (lv' := [(2, .ref b_6), (5, .ref b_6), (4, .int r_2), (3, .int d), (0, .ref a), (1, .int v)]) hx hb dX3_grow_53 rfl hl (by decide) rfl (fun ls hl => ?_)
        obtain ⟨x_52, ex_52⟩ : ∃ z : Int32, z = d + 1 := ⟨_, rfl⟩
        have tx_52 := ad_toInt (x := d) (y := 1) (z := x_52) (zx := (d).toInt) (zy := 1) ex_52 rfl (by decide)
        refine lv_iinc (v := x_52) (lv' := [(3, .int x_52), (2, .ref b_6), (5, .ref b_6), (4, .int r_2), (0, .ref a), (1, .int v)]) hx hb dX3_grow_54 hl (k := 3) rfl (by rw [ex_52]; rfl) (by decide) rfl (fun ls hl => ?_)
        refine lv_goto (tgt := 4) hx hb dX3_grow_57 (by decide) ?_
        exact ih x_52 b_6 L K f _ _ _ _ _ (by omega) (by first | omega | assumption | decide | (have h3 : (0 : Int32).toInt = 0 := rfl; omega) | (have h3 : (0 : Int32).toInt = 0 := rfl; have h4 : (1 : Int32).toInt = 1 := rfl; have h5 : (-1 : Int32).toInt = -1 := rfl; omega)) hG hT hI is_51 (by omega) hP hD hS (lv_sub hl [0, 1, 4, 5] rfl)

set_option maxHeartbeats 4000000 in
set_option maxRecDepth 100000 in
theorem c_X3_growF (l : Launch) (D : va_G) (sz : Nat) (X0 : va_W) (L : List Nat) (K : Nat → Nat × Nat) (f : Nat → va_E) (S : Int) (tys : List (ClassId × FieldType)) (a : Nat) (v : Int32) (hI : cqI S L K f) (ha : cqIs L K 3 a) : Met l yX3_grow wsX3_grow ({ frames := 2, cells := 4, slots := 32, locals := 35 }) (va_Pc [.ref a, .int v] (wz sz D tys (X0 ++ va_pl L f))) (va_Qr (fun (_ : Unit) => True) (fun _ ra t => ∃ (L9 : List Nat), ∃ (K9 : Nat → Nat × Nat), ∃ (f9 : Nat → va_E), (wp D [] (va_A (X0 ++ va_pl L f) sz) (X0 ++ va_pl L9 f9) t ∧ (cqG L K L9 K9) ∧ (cqT [(3, 4)] L K f f9) ∧ (cqI S L9 K9 f9) ∧ (cqIs L9 K9 3 ra))) (va_A (X0 ++ va_pl L f) sz)) 4 32 (va_A (X0 ++ va_pl L f) sz) := by
  refine Met.ofW (cc := cX3_grow) (maxL := 6) (ret := (some (.object "CryOrder$Node"))) (by decide) rfl ?_
  intro p e s m args below meth c s₁ B hml hv
  obtain ⟨rfl, hsz, hP, hK, hD0, hN⟩ := hv
  have hx := B.exec
  have hb := B.bytes
  have hr := B.returns
  have hts := atoms_spec (ws := wsX3_grow) B.pre
  have hown : s.vm.findClass RX3 = some m.cls := findClass_of_methodNamed B.named
  have hlocks := B.notSynchronized
  subst hsz
  have hD := hD0.self (sz := s.heap.size)
  generalize hAe : va_A (X0 ++ va_pl L f) s.heap.size = A at hD ⊢
  have hA : ∀ q : Nat, s.heap.size ≤ q → A q := fun q h => by rw [← hAe]; exact Or.inr h
  have hS : va_S A s.heap s.heap [] := va_S.rf
  have hl := lv_entry ([.ref a, .int v]) (n := 6) (Nat.le_of_ble_eq_true rfl)
  rw [lg_entry_eq]
  generalize (lg_sl ([.ref a, .int v]) ++ List.replicate (6 - (lg_sl ([.ref a, .int v])).length) Slot.unset).toArray = ls at hl ⊢
  have hl : lv_has ls 6 [(0, .ref a), (1, .int v)] := hl
  have hT0 : cqT [(3, 4)] L K f f := cqT.rf
  have hG0 : cqG L K L K := cqG.rf
  refine lv_aload_n hx hb dX3_grow_0 rfl (lv_at hl 0 rfl) ?_
  refine lv_astore_n (lv' := [(2, .ref a), (0, .ref a), (1, .int v)]) hx hb dX3_grow_1 rfl hl (by decide) rfl (fun ls hl => ?_)
  refine lv_iconst (v := 0) hx hb dX3_grow_2 (by decide) ?_
  refine lv_istore_n (lv' := [(3, .int 0), (2, .ref a), (0, .ref a), (1, .int v)]) hx hb dX3_grow_3 rfl hl (by decide) rfl (fun ls hl => ?_)
  refine fl_grow hx hb hts hml hown hN hK hA ⟨(Nat.le_of_ble_eq_true rfl), (Nat.le_of_ble_eq_true rfl)⟩   (fun at_1 L_2 K_3 f_4 H_5 locs ls ca_H_5 sl_H_5 hal h_6 h_7 h_8 h_9 hP hD hS hl => ?_) _ 0 a L K f _ _ _ _ _ (by first | decide | omega) (by first | omega | assumption | decide | (have h3 : (0 : Int32).toInt = 0 := rfl; omega) | (have h3 : (0 : Int32).toInt = 0 := rfl; have h4 : (1 : Int32).toInt = 1 := rfl; have h5 : (-1 : Int32).toInt = -1 := rfl; omega)) cqG.rf hT0 hI ha (Nat.lt_succ_self _) hP hD hS (lv_sub hl [0, 1, 2, 3] rfl)
  have hal : ca_H_5 ≤ 4 ∧ sl_H_5 ≤ 32 := hal
  have h_6 : cqG L K L_2 K_3 := h_6
  have h_7 : cqT [(3, 4)] L K f f_4 := h_7
  have h_8 : cqI S L_2 K_3 f_4 := h_8
  have h_9 : cqIs L_2 K_3 3 at_1 := h_9
  have u_10 : cqIs L_2 K_3 3 a := ha.up h_6
  have ku_10 := ha.key h_6
  have hG_11 := hG0.trans h_6
  have hI : cqI S L_2 K_3 f_4 := h_8
  have hP : va_P D vwCl (X0 ++ va_pl L_2 f_4) H_5 := hP
  have hD : va_D A (X0 ++ va_pl L_2 f_4) := hD
  refine lv_aload_n hx hb dX3_grow_60 rfl (lv_at hl 0 rfl) ?_
  refine W.widen (k := 4) (n := 32) (by omega) (by omega) ?_
  exact W.aret hx hb hr (Or.inl ⟨_, rfl⟩) (Or.inr ⟨_, rfl⟩) (fun t ht hW => ⟨⟨(), at_1, rfl, trivial, L_2, K_3, f_4, ⟨by rw [ht]; exact hP, va_K.moved hW.alike (hK.sub (tys' := []) [] rfl), hD⟩, h_6, h_7, hI, h_9⟩, hS.F ht⟩) hS.2.2 dX3_grow_61
