set_option maxHeartbeats 4000000 in
set_option maxRecDepth 100000 in
theorem c_X0_joinCaseOfF (l : Launch) (D : va_G) (sz : Nat) (X0 : va_W) (L : List Nat) (K : Nat → Nat × Nat) (f : Nat → va_E) (S : Int) (tys : List (ClassId × FieldType)) (a : Nat) (b : Nat) (hI : cqI S L K f) (ha : cqIs L K 0 a) (hb2 : cqIs L K 0 b) : Met l yX0_joinCaseOf wsX0_joinCaseOf ({ frames := 1, cells := 0, slots := 0, locals := 21 }) (va_Pc [.ref a, .ref b] (wz sz D tys (X0 ++ va_pl L f))) (va_Qv (fun (_ : Unit) => True) (fun _ t => ∃ (f9 : Nat → va_E), (wp D [] (va_A (X0 ++ va_pl L f) sz) (X0 ++ va_pl L f9) t ∧ (cqI S L K f9) ∧ (cqT [(0, 16)] L K f f9))) (va_A (X0 ++ va_pl L f) sz)) 0 0 (va_A (X0 ++ va_pl L f) sz) := by
  refine Met.ofW (cc := cX0_joinCaseOf) (maxL := 4) (ret := none) (by decide) rfl ?_
  intro p e s m args below meth c s₁ B hml hv
  obtain ⟨rfl, hsz, hP, hK, hD0, hN⟩ := hv
  have hx := B.exec
  have hb := B.bytes
  have hr := B.returns
  have hts := atoms_spec (ws := wsX0_joinCaseOf) B.pre
  have hown : s.vm.findClass RX0 = some m.cls := findClass_of_methodNamed B.named
  have hlocks := B.notSynchronized
  subst hsz
  have hD := hD0.self (sz := s.heap.size)
  generalize hAe : va_A (X0 ++ va_pl L f) s.heap.size = A at hD ⊢
  have hA : ∀ q : Nat, s.heap.size ≤ q → A q := fun q h => by rw [← hAe]; exact Or.inr h
  have hS : va_S A s.heap s.heap [] := va_S.rf
  have hin_X0 : ∀ w ∈ u_ws RX0 TX0 17, w ∈ wsX0_joinCaseOf := fun w h => List.mem_cons_of_mem _ (List.mem_append_right _ (h))
  have hl := lv_entry ([.ref a, .ref b]) (n := 4) (Nat.le_of_ble_eq_true rfl)
  rw [lg_entry_eq]
  generalize (lg_sl ([.ref a, .ref b]) ++ List.replicate (4 - (lg_sl ([.ref a, .ref b])).length) Slot.unset).toArray = ls at hl ⊢
  have hl : lv_has ls 4 [(0, .ref a), (1, .ref b)] := hl
  have hT0 : cqT [(0, 16)] L K f f := cqT.rf
  have hG0 : cqG L K L K := cqG.rf
  refine lv_aload_n hx hb dX0_joinCaseOf_0 rfl (lv_at hl 0 rfl) ?_
  refine va_csq (wrV (As := []) (rest := []) ⟨hx, hb, hml, hown, hts⟩ hN hK hP hD (c_X0_head l D X0 L K f S tys a hI ha) (cwV 0 hts gX0_joinCaseOf_X0_head rfl rfl rfl (by decide +kernel) ⟨(Nat.le_of_ble_eq_true rfl), (Nat.le_of_ble_eq_true rfl)⟩) 0 rfl (cq_rcA (X := X0) hI ha) rfl hl.1 rfl (Nat.le_of_ble_eq_true rfl) dX0_joinCaseOf_1 ⟨(Nat.le_of_ble_eq_true rfl), (Nat.le_of_ble_eq_true rfl)⟩) (fun r_1 h_2 => ?_)
  obtain ⟨b_3, rfl, is_4⟩ := h_2
  refine lv_topv (z := .ref b_3) rfl ?_
  refine lv_astore_n (lv' := [(2, .ref b_3), (0, .ref a), (1, .ref b)]) hx hb dX0_joinCaseOf_4 rfl hl (by decide) rfl (fun ls hl => ?_)
  refine lv_aload_n hx hb dX0_joinCaseOf_5 rfl (lv_at hl 2 rfl) ?_
  refine va_csq (wrV (As := []) (rest := []) ⟨hx, hb, hml, hown, hts⟩ hN hK hP hD (c_X0_head l D X0 L K f S tys b hI hb2) (cwV 0 hts gX0_joinCaseOf_X0_head rfl rfl rfl (by decide +kernel) ⟨(Nat.le_of_ble_eq_true rfl), (Nat.le_of_ble_eq_true rfl)⟩) 0 rfl (cq_rcA (X := X0) hI hb2) rfl hl.1 rfl (Nat.le_of_ble_eq_true rfl) dX0_joinCaseOf_6 ⟨(Nat.le_of_ble_eq_true rfl), (Nat.le_of_ble_eq_true rfl)⟩) (fun r_5 h_6 => ?_)
  obtain ⟨b_7, rfl, is_8⟩ := h_6
  refine lv_topv (z := .ref b_7) rfl ?_
  refine lv_astore_n (lv' := [(3, .ref b_7), (2, .ref b_3), (0, .ref a), (1, .ref b)]) hx hb dX0_joinCaseOf_9 rfl hl (by decide) rfl (fun ls hl => ?_)
  refine lv_aload_n hx hb dX0_joinCaseOf_10 rfl (lv_at hl 1 rfl) ?_
  obtain ⟨nu_9, ca_9, so_9, th_9, ma_9, wo_9, lf_9, ld_9, si_9, cp_9, he_9, re_9, sv_9, lt_9, lF_9, sn_9, ab_9, hf_9, hnu_9, hlf_9, hld_9, hsi_9, hcp_9, hsn_9, hab_9⟩ := hI.opA is_4
  refine pl_get (D := D) (ci := 0) (v := .int nu_9) (C := RX0) (T := TX0) (N := 17) hx hb hts hin_X0 hown hK hP is_4.1 hf_9 rfl 0 (by decide) (hts (.fieldLink RX0 15 "CryOrder$Alarm" "number" "I") (List.mem_cons_of_mem _ (List.mem_append_left _ (List.mem_of_getElem? (i := 0) rfl)))) (fun _ h9 => h9) rfl dX0_joinCaseOf_11 ?_
  refine lv_aload_n hx hb dX0_joinCaseOf_14 rfl (lv_at hl 0 rfl) ?_
  obtain ⟨nu_10, ca_10, so_10, th_10, ma_10, wo_10, lf_10, ld_10, si_10, cp_10, he_10, re_10, sv_10, lt_10, lF_10, sn_10, ab_10, hf_10, hnu_10, hlf_10, hld_10, hsi_10, hcp_10, hsn_10, hab_10⟩ := hI.opA is_8
  refine pl_get (D := D) (ci := 0) (v := .int nu_10) (C := RX0) (T := TX0) (N := 17) hx hb hts hin_X0 hown hK hP is_8.1 hf_10 rfl 0 (by decide) (hts (.fieldLink RX0 15 "CryOrder$Alarm" "number" "I") (List.mem_cons_of_mem _ (List.mem_append_left _ (List.mem_of_getElem? (i := 0) rfl)))) (fun _ h9 => h9) rfl dX0_joinCaseOf_15 ?_
  refine bi_ge (zx := (nu_9).toInt) (zy := (nu_10).toInt) (tgt := 29) hx hb dX0_joinCaseOf_18 (by decide) rfl rfl (fun c_11 => ?_) (fun c_11 => ?_)
  · refine lv_aload_n hx hb dX0_joinCaseOf_29 rfl (lv_at hl 0 rfl) ?_
    refine pl_get (D := D) (ci := 0) (v := .int nu_10) (C := RX0) (T := TX0) (N := 17) hx hb hts hin_X0 hown hK hP is_8.1 hf_10 rfl 0 (by decide) (hts (.fieldLink RX0 15 "CryOrder$Alarm" "number" "I") (List.mem_cons_of_mem _ (List.mem_append_left _ (List.mem_of_getElem? (i := 0) rfl)))) (fun _ h9 => h9) rfl dX0_joinCaseOf_30 ?_
    refine lv_aload_n hx hb dX0_joinCaseOf_33 rfl (lv_at hl 1 rfl) ?_
    refine pl_get (D := D) (ci := 0) (v := .int nu_9) (C := RX0) (T := TX0) (N := 17) hx hb hts hin_X0 hown hK hP is_4.1 hf_9 rfl 0 (by decide) (hts (.fieldLink RX0 15 "CryOrder$Alarm" "number" "I") (List.mem_cons_of_mem _ (List.mem_append_left _ (List.mem_of_getElem? (i := 0) rfl)))) (fun _ h9 => h9) rfl dX0_joinCaseOf_34 ?_
    refine bi_ge (zx := (nu_10).toInt) (zy := (nu_9).toInt) (tgt := 45) hx hb dX0_joinCaseOf_37 (by decide) rfl rfl (fun c_12 => ?_) (fun c_12 => ?_)
    · refine W.widen (k := 0) (n := 0) (Nat.le_of_ble_eq_true rfl) (Nat.le_of_ble_eq_true rfl) ?_
      exact W.vret hx hb hr (fun t ht hW => ⟨⟨(), rfl, trivial, f, ⟨by rw [ht]; exact hP, va_K.moved hW.alike (hK.sub (tys' := []) [] rfl), hD⟩, hI, hT0⟩, hS.F ht⟩) hS.2.2 dX0_joinCaseOf_45
    · refine lv_aload_n hx hb dX0_joinCaseOf_40 rfl (lv_at hl 1 rfl) ?_
      refine lv_aload_n hx hb dX0_joinCaseOf_41 rfl (lv_at hl 0 rfl) ?_
      refine pl_put (D := D) (ci := 0) (v := .ref b_7) (ty := .object "CryOrder$Alarm") (C := RX0) (T := TX0) (N := 17) hx hb hts hin_X0 tyX0 tyX0_ok nmX0 hown hK hP hD hS is_4.1 hf_9 rfl 16 (by decide) (hts (.fieldLink RX0 97 "CryOrder$Alarm" "above" "LCryOrder$Alarm;") (List.mem_cons_of_mem _ (List.mem_append_left _ (List.mem_of_getElem? (i := 1) rfl)))) (fun _ h9 => h9) rfl (by decide +kernel) rfl rfl (Nat.le_of_ble_eq_true rfl) dX0_joinCaseOf_42 (fun H_13 locs hP hD hS => ?_)
      obtain ⟨f_14, ef_14⟩ : ∃ g, g = va_up f b_3 (.inr (0, [.int nu_9, .int ca_9, .int so_9, .int th_9, .int ma_9, .int wo_9, .ref lf_9, .ref ld_9, .int si_9, .int cp_9, .int he_9, .int re_9, .int sv_9, .int lt_9, .int lF_9, va_rf sn_9, .ref b_7])) := ⟨_, rfl⟩
      have hP : va_P D vwCl (X0 ++ va_pl L f_14) H_13 := by rw [ef_14]; exact hP
      have hD : va_D A (X0 ++ va_pl L f_14) := by rw [ef_14]; exact hD
      have hI : cqI S L K f_14 := hI.ptA is_4 ef_14 ⟨_, _, _, _, _, _, _, _, _, _, _, _, _, _, _, sn_9, (some b_7), rfl, hnu_9, hlf_9, hld_9, hsi_9, hcp_9, hsn_9, (cqLo.some is_8 (by omega))⟩
      have h_15 : cqLo L K 0 (some b_7) (K b_3).2 := (cqLo.some is_8 (by omega))
      have hT_16 := hT0.put (k := 16) hG0 is_4 ef_14 (.ref b_7) hf_9 rfl (by decide)
      have hf_9 : f_14 b_3 = .inr (0, [.int nu_9, .int ca_9, .int so_9, .int th_9, .int ma_9, .int wo_9, .ref lf_9, .ref ld_9, .int si_9, .int cp_9, .int he_9, .int re_9, .int sv_9, .int lt_9, .int lF_9, va_rf sn_9, .ref b_7]) := cq_same ef_14
      refine W.widen (k := 0) (n := 0) (Nat.le_of_ble_eq_true rfl) (Nat.le_of_ble_eq_true rfl) ?_
      exact W.vret hx hb hr (fun t ht hW => ⟨⟨(), rfl, trivial, f_14, ⟨by rw [ht]; exact hP, va_K.moved hW.alike (hK.sub (tys' := []) [] rfl), hD⟩, hI, hT_16⟩, hS.F ht⟩) hS.2.2 dX0_joinCaseOf_45
  · refine lv_aload_n hx hb dX0_joinCaseOf_21 rfl (lv_at hl 0 rfl) ?_
    refine lv_aload_n hx hb dX0_joinCaseOf_22 rfl (lv_at hl 1 rfl) ?_
    refine pl_put (D := D) (ci := 0) (v := .ref b_3) (ty := .object "CryOrder$Alarm") (C := RX0) (T := TX0) (N := 17) hx hb hts hin_X0 tyX0 tyX0_ok nmX0 hown hK hP hD hS is_8.1 hf_10 rfl 16 (by decide) (hts (.fieldLink RX0 97 "CryOrder$Alarm" "above" "LCryOrder$Alarm;") (List.mem_cons_of_mem _ (List.mem_append_left _ (List.mem_of_getElem? (i := 1) rfl)))) (fun _ h9 => h9) rfl (by decide +kernel) rfl rfl (Nat.le_of_ble_eq_true rfl) dX0_joinCaseOf_23 (fun H_17 locs hP hD hS => ?_)
    obtain ⟨f_18, ef_18⟩ : ∃ g, g = va_up f b_7 (.inr (0, [.int nu_10, .int ca_10, .int so_10, .int th_10, .int ma_10, .int wo_10, .ref lf_10, .ref ld_10, .int si_10, .int cp_10, .int he_10, .int re_10, .int sv_10, .int lt_10, .int lF_10, va_rf sn_10, .ref b_3])) := ⟨_, rfl⟩
    have hP : va_P D vwCl (X0 ++ va_pl L f_18) H_17 := by rw [ef_18]; exact hP
    have hD : va_D A (X0 ++ va_pl L f_18) := by rw [ef_18]; exact hD
    have hI : cqI S L K f_18 := hI.ptA is_8 ef_18 ⟨_, _, _, _, _, _, _, _, _, _, _, _, _, _, _, sn_10, (some b_3), rfl, hnu_10, hlf_10, hld_10, hsi_10, hcp_10, hsn_10, (cqLo.some is_4 (by omega))⟩
    have h_19 : cqLo L K 0 (some b_3) (K b_7).2 := (cqLo.some is_4 (by omega))
    have hT_20 := hT0.put (k := 16) hG0 is_8 ef_18 (.ref b_3) hf_10 rfl (by decide)
    have hf_10 : f_18 b_7 = .inr (0, [.int nu_10, .int ca_10, .int so_10, .int th_10, .int ma_10, .int wo_10, .ref lf_10, .ref ld_10, .int si_10, .int cp_10, .int he_10, .int re_10, .int sv_10, .int lt_10, .int lF_10, va_rf sn_10, .ref b_3]) := cq_same ef_18
    refine lv_goto (tgt := 45) hx hb dX0_joinCaseOf_26 (by decide) ?_
    refine W.widen (k := 0) (n := 0) (Nat.le_of_ble_eq_true rfl) (Nat.le_of_ble_eq_true rfl) ?_
    exact W.vret hx hb hr (fun t ht hW => ⟨⟨(), rfl, trivial, f_18, ⟨by rw [ht]; exact hP, va_K.moved hW.alike (hK.sub (tys' := []) [] rfl), hD⟩, hI, hT_20⟩, hS.F ht⟩) hS.2.2 dX0_joinCaseOf_45

set_option maxHeartbeats 4000000 in
set_option maxRecDepth 100000 in
theorem c_X1_clearF (l : Launch) (D : va_G) (sz : Nat) (X0 : va_W) (L : List Nat) (K : Nat → Nat × Nat) (f : Nat → va_E) (S : Int) (tys : List (ClassId × FieldType)) (a : Nat) (hI : cqI S L K f) (ha : cqIs L K 1 a) (hS0 : 0 ≤ S) : Met l yX1_clear wsX1_clear ({ frames := 0, cells := 0, slots := 0, locals := 0 }) (va_Pc [.ref a] (wz sz D tys (X0 ++ va_pl L f))) (va_Qv (fun (_ : Unit) => True) (fun _ t => ∃ (f9 : Nat → va_E), (wp D [] (va_A (X0 ++ va_pl L f) sz) (X0 ++ va_pl L f9) t ∧ (cqI S L K f9) ∧ (cqT [(1, 1), (1, 2), (1, 3)] L K f f9))) (va_A (X0 ++ va_pl L f) sz)) 0 0 (va_A (X0 ++ va_pl L f) sz) := by
  refine Met.ofW (cc := cX1_clear) (maxL := 1) (ret := none) (by decide) rfl ?_
  intro p e s m args below meth c s₁ B hml hv
  obtain ⟨rfl, hsz, hP, hK, hD0, hN⟩ := hv
  have hx := B.exec
  have hb := B.bytes
  have hr := B.returns
  have hts := atoms_spec (ws := wsX1_clear) B.pre
  have hown : s.vm.findClass RX1 = some m.cls := findClass_of_methodNamed B.named
  have hlocks := B.notSynchronized
  subst hsz
  have hD := hD0.self (sz := s.heap.size)
  generalize hAe : va_A (X0 ++ va_pl L f) s.heap.size = A at hD ⊢
  have hA : ∀ q : Nat, s.heap.size ≤ q → A q := fun q h => by rw [← hAe]; exact Or.inr h
  have hS : va_S A s.heap s.heap [] := va_S.rf
  have hin_X1 : ∀ w ∈ u_ws RX1 TX1 4, w ∈ wsX1_clear := fun w h => List.mem_cons_of_mem _ (List.mem_append_right _ (h))
  have hl := lv_entry ([.ref a]) (n := 1) (Nat.le_of_ble_eq_true rfl)
  rw [lg_entry_eq]
  generalize (lg_sl ([.ref a]) ++ List.replicate (1 - (lg_sl ([.ref a])).length) Slot.unset).toArray = ls at hl ⊢
  have hl : lv_has ls 1 [(0, .ref a)] := hl
  have hT0 : cqT [(1, 1), (1, 2), (1, 3)] L K f f := cqT.rf
  have hG0 : cqG L K L K := cqG.rf
  refine lv_aload_n hx hb dX1_clear_0 rfl (lv_at hl 0 rfl) ?_
  refine lv_iconst (v := 0) hx hb dX1_clear_1 (by decide) ?_
  obtain ⟨cn_1, sz_1, sc_1, li_1, hf_1, hs0_1, hs1_1⟩ := hI.opC ha
  refine pl_put (D := D) (ci := 1) (v := .int 0) (ty := .int) (C := RX1) (T := TX1) (N := 4) hx hb hts hin_X1 tyX1 tyX1_ok nmX1 hown hK hP hD hS ha.1 hf_1 rfl 1 (by decide) (hts (.fieldLink RX1 13 "CryOrder$Case" "size" "I") (List.mem_cons_of_mem _ (List.mem_append_left _ (List.mem_of_getElem? (i := 0) rfl)))) (fun _ h9 => h9) rfl (by decide +kernel) rfl rfl (Nat.le_of_ble_eq_true rfl) dX1_clear_2 (fun H_2 locs hP hD hS => ?_)
  obtain ⟨f_3, ef_3⟩ : ∃ g, g = va_up f a (.inr (1, [.int cn_1, .int 0, .int sc_1, .int li_1])) := ⟨_, rfl⟩
  have hP : va_P D vwCl (X0 ++ va_pl L f_3) H_2 := by rw [ef_3]; exact hP
  have hD : va_D A (X0 ++ va_pl L f_3) := by rw [ef_3]; exact hD
  have hI : cqI S L K f_3 := hI.ptC ha ef_3 ⟨_, _, _, _, rfl, (by first | omega | decide), (by first | omega | (have h3 : (0 : Int32).toInt = 0 := rfl; omega))⟩
  have hT_4 := hT0.put (k := 1) hG0 ha ef_3 (.int 0) hf_1 rfl (by decide)
  have hf_1 : f_3 a = .inr (1, [.int cn_1, .int 0, .int sc_1, .int li_1]) := cq_same ef_3
  refine lv_aload_n hx hb dX1_clear_5 rfl (lv_at hl 0 rfl) ?_
  refine lv_iconst (v := 0) hx hb dX1_clear_6 (by decide) ?_
  refine pl_put (D := D) (ci := 1) (v := .int 0) (ty := .int) (C := RX1) (T := TX1) (N := 4) hx hb hts hin_X1 tyX1 tyX1_ok nmX1 hown hK hP hD hS ha.1 hf_1 rfl 2 (by decide) (hts (.fieldLink RX1 16 "CryOrder$Case" "score" "I") (List.mem_cons_of_mem _ (List.mem_append_left _ (List.mem_of_getElem? (i := 1) rfl)))) (fun _ h9 => h9) rfl (by decide +kernel) rfl rfl (Nat.le_of_ble_eq_true rfl) dX1_clear_7 (fun H_5 locs hP hD hS => ?_)
  obtain ⟨f_6, ef_6⟩ : ∃ g, g = va_up f_3 a (.inr (1, [.int cn_1, .int 0, .int 0, .int li_1])) := ⟨_, rfl⟩
  have hP : va_P D vwCl (X0 ++ va_pl L f_6) H_5 := by rw [ef_6]; exact hP
  have hD : va_D A (X0 ++ va_pl L f_6) := by rw [ef_6]; exact hD
  have hI : cqI S L K f_6 := hI.ptC ha ef_6 ⟨_, _, _, _, rfl, (by first | omega | decide), (by first | omega | (have h3 : (0 : Int32).toInt = 0 := rfl; omega))⟩
  have hT_7 := hT_4.put (k := 2) hG0 ha ef_6 (.int 0) hf_1 rfl (by decide)
  have hf_1 : f_6 a = .inr (1, [.int cn_1, .int 0, .int 0, .int li_1]) := cq_same ef_6
  refine lv_aload_n hx hb dX1_clear_10 rfl (lv_at hl 0 rfl) ?_
  refine lv_iconst (v := 0) hx hb dX1_clear_11 (by decide) ?_
  refine pl_put (D := D) (ci := 1) (v := .int 0) (ty := .boolean) (C := RX1) (T := TX1) (N := 4) hx hb hts hin_X1 tyX1 tyX1_ok nmX1 hown hK hP hD hS ha.1 hf_1 rfl 3 (by decide) (hts (.fieldLink RX1 19 "CryOrder$Case" "littleKnown" "Z") (List.mem_cons_of_mem _ (List.mem_append_left _ (List.mem_of_getElem? (i := 2) rfl)))) (fun _ h9 => h9) rfl (by decide +kernel) rfl rfl (Nat.le_of_ble_eq_true rfl) dX1_clear_12 (fun H_8 locs hP hD hS => ?_)
  obtain ⟨f_9, ef_9⟩ : ∃ g, g = va_up f_6 a (.inr (1, [.int cn_1, .int 0, .int 0, .int 0])) := ⟨_, rfl⟩
  have hP : va_P D vwCl (X0 ++ va_pl L f_9) H_8 := by rw [ef_9]; exact hP
  have hD : va_D A (X0 ++ va_pl L f_9) := by rw [ef_9]; exact hD
  have hI : cqI S L K f_9 := hI.ptC ha ef_9 ⟨_, _, _, _, rfl, (by first | omega | decide), (by first | omega | (have h3 : (0 : Int32).toInt = 0 := rfl; omega))⟩
  have hT_10 := hT_7.put (k := 3) hG0 ha ef_9 (.int 0) hf_1 rfl (by decide)
  have hf_1 : f_9 a = .inr (1, [.int cn_1, .int 0, .int 0, .int 0]) := cq_same ef_9
  refine W.widen (k := 0) (n := 0) (Nat.le_of_ble_eq_true rfl) (Nat.le_of_ble_eq_true rfl) ?_
  exact W.vret hx hb hr (fun t ht hW => ⟨⟨(), rfl, trivial, f_9, ⟨by rw [ht]; exact hP, va_K.moved hW.alike (hK.sub (tys' := []) [] rfl), hD⟩, hI, hT_10⟩, hS.F ht⟩) hS.2.2 dX1_clear_15

set_option maxHeartbeats 4000000 in
set_option maxRecDepth 100000 in
theorem c_X1_addF (l : Launch) (D : va_G) (sz : Nat) (X0 : va_W) (L : List Nat) (K : Nat → Nat × Nat) (f : Nat → va_E) (S : Int) (tys : List (ClassId × FieldType)) (a : Nat) (v : Int32) (w : Int32) (hI : cqI S L K f) (ha : cqIs L K 1 a) (hS0 : 0 ≤ S ∧ S ≤ 1000000) : Met l yX1_add wsX1_add ({ frames := 1, cells := 0, slots := 0, locals := 14 }) (va_Pc [.ref a, .int v, .int w] (wz sz D tys (X0 ++ va_pl L f))) (va_Qv (fun (_ : Unit) => True) (fun _ t => ∃ (f9 : Nat → va_E), (wp D [] (va_A (X0 ++ va_pl L f) sz) (X0 ++ va_pl L f9) t ∧ (cqI (S + 1) L K f9) ∧ (cqT [(1, 1), (1, 2), (1, 3)] L K f f9))) (va_A (X0 ++ va_pl L f) sz)) 0 0 (va_A (X0 ++ va_pl L f) sz) := by
  refine Met.ofW (cc := cX1_add) (maxL := 3) (ret := none) (by decide) rfl ?_
  intro p e s m args below meth c s₁ B hml hv
  obtain ⟨rfl, hsz, hP, hK, hD0, hN⟩ := hv
  have hx := B.exec
  have hb := B.bytes
  have hr := B.returns
  have hts := atoms_spec (ws := wsX1_add) B.pre
  have hown : s.vm.findClass RX1 = some m.cls := findClass_of_methodNamed B.named
  have hlocks := B.notSynchronized
  subst hsz
  have hD := hD0.self (sz := s.heap.size)
  generalize hAe : va_A (X0 ++ va_pl L f) s.heap.size = A at hD ⊢
  have hA : ∀ q : Nat, s.heap.size ≤ q → A q := fun q h => by rw [← hAe]; exact Or.inr h
  have hS : va_S A s.heap s.heap [] := va_S.rf
  have hin_X1 : ∀ w ∈ u_ws RX1 TX1 4, w ∈ wsX1_add := fun w h => List.mem_cons_of_mem _ (List.mem_append_right _ (h))
  have hl := lv_entry ([.ref a, .int v, .int w]) (n := 3) (Nat.le_of_ble_eq_true rfl)
  rw [lg_entry_eq]
  generalize (lg_sl ([.ref a, .int v, .int w]) ++ List.replicate (3 - (lg_sl ([.ref a, .int v, .int w])).length) Slot.unset).toArray = ls at hl ⊢
  have hl : lv_has ls 3 [(0, .ref a), (1, .int v), (2, .int w)] := hl
  have hT0 : cqT [(1, 1), (1, 2), (1, 3)] L K f f := cqT.rf
  have hG0 : cqG L K L K := cqG.rf
  obtain ⟨cn_1, sz_1, sc_1, li_1, hf_1, hs0_1, hs1_1⟩ := hI.opC ha
  have hI : cqI (S + 1) L K f := hI.more (by omega)
  refine lv_aload_n hx hb dX1_add_0 rfl (lv_at hl 0 rfl) ?_
  refine lv_dup hx hb dX1_add_1 rfl ?_
  refine pl_get (D := D) (ci := 1) (v := .int sz_1) (C := RX1) (T := TX1) (N := 4) hx hb hts hin_X1 hown hK hP ha.1 hf_1 rfl 1 (by decide) (hts (.fieldLink RX1 13 "CryOrder$Case" "size" "I") (List.mem_cons_of_mem _ (List.mem_append_left _ (List.mem_of_getElem? (i := 0) rfl)))) (fun _ h9 => h9) rfl dX1_add_2 ?_
  refine lv_iconst (v := 1) hx hb dX1_add_5 (by decide) ?_
  refine lv_iadd hx hb dX1_add_6 ?_
  refine lv_topi (fun z_2 ez_2 => ?_)
  have tz_2 := ad_toInt (zx := (sz_1).toInt) (zy := 1) ez_2 rfl (by decide)
  refine pl_put (D := D) (ci := 1) (v := .int z_2) (ty := .int) (C := RX1) (T := TX1) (N := 4) hx hb hts hin_X1 tyX1 tyX1_ok nmX1 hown hK hP hD hS ha.1 hf_1 rfl 1 (by decide) (hts (.fieldLink RX1 13 "CryOrder$Case" "size" "I") (List.mem_cons_of_mem _ (List.mem_append_left _ (List.mem_of_getElem? (i := 0) rfl)))) (fun _ h9 => h9) rfl (by decide +kernel) rfl rfl (Nat.le_of_ble_eq_true rfl) dX1_add_7 (fun H_3 locs hP hD hS => ?_)
  obtain ⟨f_4, ef_4⟩ : ∃ g, g = va_up f a (.inr (1, [.int cn_1, .int z_2, .int sc_1, .int li_1])) := ⟨_, rfl⟩
  have hP : va_P D vwCl (X0 ++ va_pl L f_4) H_3 := by rw [ef_4]; exact hP
  have hD : va_D A (X0 ++ va_pl L f_4) := by rw [ef_4]; exact hD
  have hI : cqI (S + 1) L K f_4 := hI.ptC ha ef_4 ⟨_, _, _, _, rfl, (by first | omega | decide), (by first | omega | (have h3 : (0 : Int32).toInt = 0 := rfl; omega))⟩
  have hT_5 := hT0.put (k := 1) hG0 ha ef_4 (.int z_2) hf_1 rfl (by decide)
  have hf_1 : f_4 a = .inr (1, [.int cn_1, .int z_2, .int sc_1, .int li_1]) := cq_same ef_4
  refine lv_aload_n hx hb dX1_add_10 rfl (lv_at hl 0 rfl) ?_
  refine lv_aload_n hx hb dX1_add_11 rfl (lv_at hl 0 rfl) ?_
  refine pl_get (D := D) (ci := 1) (v := .int sc_1) (C := RX1) (T := TX1) (N := 4) hx hb hts hin_X1 hown hK hP ha.1 hf_1 rfl 2 (by decide) (hts (.fieldLink RX1 16 "CryOrder$Case" "score" "I") (List.mem_cons_of_mem _ (List.mem_append_left _ (List.mem_of_getElem? (i := 1) rfl)))) (fun _ h9 => h9) rfl dX1_add_12 ?_
  refine lv_iload_n hx hb dX1_add_15 rfl (lv_at hl 1 rfl) ?_
  refine va_mmax hx hb (by rw [hml]; exact hl.1.symm) hown (hts (.methodLink RX1 23 Lib.Math.max.name) (List.mem_cons_of_mem _ (List.mem_append_left _ (List.mem_of_getElem? (i := 2) rfl)))) (hts (.static Lib.Math.max.name) (List.mem_cons_of_mem _ (List.mem_append_left _ (List.mem_of_getElem? (i := 3) rfl)))) (hts (.initialized "java/lang/Math") (List.mem_cons_of_mem _ (List.mem_append_left _ (List.mem_of_getElem? (i := 4) rfl)))) (hts (.code Lib.Math.max.name Lib.Math.max.code 2 (some .int)) (List.mem_cons_of_mem _ (List.mem_append_left _ (List.mem_of_getElem? (i := 5) rfl)))) (Nat.le_of_ble_eq_true rfl) (Nat.le_of_ble_eq_true rfl) (Nat.le_of_ble_eq_true rfl) (Nat.le_of_ble_eq_true rfl) dX1_add_16 ?_
  refine lv_topi (fun z_6 ez_6 => ?_)
  have tz_6 := mx_toInt (zx := (sc_1).toInt) (zy := (v).toInt) ez_6 rfl rfl
  refine pl_put (D := D) (ci := 1) (v := .int z_6) (ty := .int) (C := RX1) (T := TX1) (N := 4) hx hb hts hin_X1 tyX1 tyX1_ok nmX1 hown hK hP hD hS ha.1 hf_1 rfl 2 (by decide) (hts (.fieldLink RX1 16 "CryOrder$Case" "score" "I") (List.mem_cons_of_mem _ (List.mem_append_left _ (List.mem_of_getElem? (i := 1) rfl)))) (fun _ h9 => h9) rfl (by decide +kernel) rfl rfl (Nat.le_of_ble_eq_true rfl) dX1_add_19 (fun H_7 locs hP hD hS => ?_)
  obtain ⟨f_8, ef_8⟩ : ∃ g, g = va_up f_4 a (.inr (1, [.int cn_1, .int z_2, .int z_6, .int li_1])) := ⟨_, rfl⟩
  have hP : va_P D vwCl (X0 ++ va_pl L f_8) H_7 := by rw [ef_8]; exact hP
  have hD : va_D A (X0 ++ va_pl L f_8) := by rw [ef_8]; exact hD
  have hI : cqI (S + 1) L K f_8 := hI.ptC ha ef_8 ⟨_, _, _, _, rfl, (by first | omega | decide), (by first | omega | (have h3 : (0 : Int32).toInt = 0 := rfl; omega))⟩
  have hT_9 := hT_5.put (k := 2) hG0 ha ef_8 (.int z_6) hf_1 rfl (by decide)
  have hf_1 : f_8 a = .inr (1, [.int cn_1, .int z_2, .int z_6, .int li_1]) := cq_same ef_8
  refine lv_aload_n hx hb dX1_add_22 rfl (lv_at hl 0 rfl) ?_
  refine lv_aload_n hx hb dX1_add_23 rfl (lv_at hl 0 rfl) ?_
  refine pl_get (D := D) (ci := 1) (v := .int li_1) (C := RX1) (T := TX1) (N := 4) hx hb hts hin_X1 hown hK hP ha.1 hf_1 rfl 3 (by decide) (hts (.fieldLink RX1 19 "CryOrder$Case" "littleKnown" "Z") (List.mem_cons_of_mem _ (List.mem_append_left _ (List.mem_of_getElem? (i := 6) rfl)))) (fun _ h9 => h9) rfl dX1_add_24 ?_
  refine bz_ne (zx := (li_1).toInt) (tgt := 34) hx hb dX1_add_27 (by decide) rfl (fun c_10 => ?_) (fun c_10 => ?_)
  · refine lv_iconst (v := 1) hx hb dX1_add_34 (by decide) ?_
    refine lv_goto (tgt := 39) hx hb dX1_add_35 (by decide) ?_
    refine pl_put (D := D) (ci := 1) (v := .int 1) (ty := .boolean) (C := RX1) (T := TX1) (N := 4) hx hb hts hin_X1 tyX1 tyX1_ok nmX1 hown hK hP hD hS ha.1 hf_1 rfl 3 (by decide) (hts (.fieldLink RX1 19 "CryOrder$Case" "littleKnown" "Z") (List.mem_cons_of_mem _ (List.mem_append_left _ (List.mem_of_getElem? (i := 6) rfl)))) (fun _ h9 => h9) rfl (by decide +kernel) rfl rfl (Nat.le_of_ble_eq_true rfl) dX1_add_39 (fun H_11 locs hP hD hS => ?_)
    obtain ⟨f_12, ef_12⟩ : ∃ g, g = va_up f_8 a (.inr (1, [.int cn_1, .int z_2, .int z_6, .int 1])) := ⟨_, rfl⟩
    have hP : va_P D vwCl (X0 ++ va_pl L f_12) H_11 := by rw [ef_12]; exact hP
    have hD : va_D A (X0 ++ va_pl L f_12) := by rw [ef_12]; exact hD
    have hI : cqI (S + 1) L K f_12 := hI.ptC ha ef_12 ⟨_, _, _, _, rfl, (by first | omega | decide), (by first | omega | (have h3 : (0 : Int32).toInt = 0 := rfl; omega))⟩
    have hT_13 := hT_9.put (k := 3) hG0 ha ef_12 (.int 1) hf_1 rfl (by decide)
    have hf_1 : f_12 a = .inr (1, [.int cn_1, .int z_2, .int z_6, .int 1]) := cq_same ef_12
    refine W.widen (k := 0) (n := 0) (Nat.le_of_ble_eq_true rfl) (Nat.le_of_ble_eq_true rfl) ?_
    exact W.vret hx hb hr (fun t ht hW => ⟨⟨(), rfl, trivial, f_12, ⟨by rw [ht]; exact hP, va_K.moved hW.alike (hK.sub (tys' := []) [] rfl), hD⟩, hI, hT_13⟩, hS.F ht⟩) hS.2.2 dX1_add_42
  · refine lv_iload_n hx hb dX1_add_30 rfl (lv_at hl 2 rfl) ?_
    refine bz_ne (zx := (w).toInt) (tgt := 38) hx hb dX1_add_31 (by decide) rfl (fun c_14 => ?_) (fun c_14 => ?_)
    · refine lv_iconst (v := 0) hx hb dX1_add_38 (by decide) ?_
      refine pl_put (D := D) (ci := 1) (v := .int 0) (ty := .boolean) (C := RX1) (T := TX1) (N := 4) hx hb hts hin_X1 tyX1 tyX1_ok nmX1 hown hK hP hD hS ha.1 hf_1 rfl 3 (by decide) (hts (.fieldLink RX1 19 "CryOrder$Case" "littleKnown" "Z") (List.mem_cons_of_mem _ (List.mem_append_left _ (List.mem_of_getElem? (i := 6) rfl)))) (fun _ h9 => h9) rfl (by decide +kernel) rfl rfl (Nat.le_of_ble_eq_true rfl) dX1_add_39 (fun H_15 locs hP hD hS => ?_)
      obtain ⟨f_16, ef_16⟩ : ∃ g, g = va_up f_8 a (.inr (1, [.int cn_1, .int z_2, .int z_6, .int 0])) := ⟨_, rfl⟩
      have hP : va_P D vwCl (X0 ++ va_pl L f_16) H_15 := by rw [ef_16]; exact hP
      have hD : va_D A (X0 ++ va_pl L f_16) := by rw [ef_16]; exact hD
      have hI : cqI (S + 1) L K f_16 := hI.ptC ha ef_16 ⟨_, _, _, _, rfl, (by first | omega | decide), (by first | omega | (have h3 : (0 : Int32).toInt = 0 := rfl; omega))⟩
      have hT_17 := hT_9.put (k := 3) hG0 ha ef_16 (.int 0) hf_1 rfl (by decide)
      have hf_1 : f_16 a = .inr (1, [.int cn_1, .int z_2, .int z_6, .int 0]) := cq_same ef_16
      refine W.widen (k := 0) (n := 0) (Nat.le_of_ble_eq_true rfl) (Nat.le_of_ble_eq_true rfl) ?_
      exact W.vret hx hb hr (fun t ht hW => ⟨⟨(), rfl, trivial, f_16, ⟨by rw [ht]; exact hP, va_K.moved hW.alike (hK.sub (tys' := []) [] rfl), hD⟩, hI, hT_17⟩, hS.F ht⟩) hS.2.2 dX1_add_42
    · refine lv_iconst (v := 1) hx hb dX1_add_34 (by decide) ?_
      refine lv_goto (tgt := 39) hx hb dX1_add_35 (by decide) ?_
      refine pl_put (D := D) (ci := 1) (v := .int 1) (ty := .boolean) (C := RX1) (T := TX1) (N := 4) hx hb hts hin_X1 tyX1 tyX1_ok nmX1 hown hK hP hD hS ha.1 hf_1 rfl 3 (by decide) (hts (.fieldLink RX1 19 "CryOrder$Case" "littleKnown" "Z") (List.mem_cons_of_mem _ (List.mem_append_left _ (List.mem_of_getElem? (i := 6) rfl)))) (fun _ h9 => h9) rfl (by decide +kernel) rfl rfl (Nat.le_of_ble_eq_true rfl) dX1_add_39 (fun H_18 locs hP hD hS => ?_)
      obtain ⟨f_19, ef_19⟩ : ∃ g, g = va_up f_8 a (.inr (1, [.int cn_1, .int z_2, .int z_6, .int 1])) := ⟨_, rfl⟩
      have hP : va_P D vwCl (X0 ++ va_pl L f_19) H_18 := by rw [ef_19]; exact hP
      have hD : va_D A (X0 ++ va_pl L f_19) := by rw [ef_19]; exact hD
      have hI : cqI (S + 1) L K f_19 := hI.ptC ha ef_19 ⟨_, _, _, _, rfl, (by first | omega | decide), (by first | omega | (have h3 : (0 : Int32).toInt = 0 := rfl; omega))⟩
      have hT_20 := hT_9.put (k := 3) hG0 ha ef_19 (.int 1) hf_1 rfl (by decide)
      have hf_1 : f_19 a = .inr (1, [.int cn_1, .int z_2, .int z_6, .int 1]) := cq_same ef_19
      refine W.widen (k := 0) (n := 0) (Nat.le_of_ble_eq_true rfl) (Nat.le_of_ble_eq_true rfl) ?_
      exact W.vret hx hb hr (fun t ht hW => ⟨⟨(), rfl, trivial, f_19, ⟨by rw [ht]; exact hP, va_K.moved hW.alike (hK.sub (tys' := []) [] rfl), hD⟩, hI, hT_20⟩, hS.F ht⟩) hS.2.2 dX1_add_42
