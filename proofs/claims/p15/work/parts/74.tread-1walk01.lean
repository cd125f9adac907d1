set_option maxHeartbeats 4000000 in
set_option maxRecDepth 100000 in
theorem c_X0_nodeForR (l : Launch) (D : va_G) (X0 : va_W) (L : List Nat) (K : Nat → Nat × Nat) (f : Nat → va_E) (S : Int) (tys : List (ClassId × FieldType)) (a : Nat) (v : Int32) (ro : Nat) (Nd : Nat → Int → Option Nat) (V : Nat → Nat → Int) (nn : Nat) (hI : cqI S L K f) (ha : cqIs L K 0 a) (hTR : tR L K f ro Nd V nn) (hlf9 : Nd 4 (cqF (f a) 4) = cqRf (f a) 6) : Met l yX0_nodeFor wsX0_nodeFor ({ frames := 0, cells := 0, slots := 0, locals := 0 }) (va_Pc [.ref a, .int v] (wo D tys (X0 ++ va_pl L f))) (va_Sq (fun r => ∃ b, r = some b ∧ cqIs L K 3 b ∧ Nd (dpF V nn (cqF (f a) 4) (v).toInt 4) (pfx (dpF V nn (cqF (f a) 4) (v).toInt 4) (cqF (f a) 4)) = some b)) 0 0 (fun _ => False) := by
  refine Met.ofW (cc := cX0_nodeFor) (maxL := 3) (ret := (some (.object "CryOrder$Node"))) (by decide) rfl ?_
  intro p e s m args below meth c s₁ B hml hv
  obtain ⟨rfl, hP, hK, hD, hN⟩ := hv
  have hx := B.exec
  have hb := B.bytes
  have hr := B.returns
  have hts := atoms_spec (ws := wsX0_nodeFor) B.pre
  have hown : s.vm.findClass RX0 = some m.cls := findClass_of_methodNamed B.named
  have hlocks := B.notSynchronized
  have hin_X0 : ∀ w ∈ u_ws RX0 TX0 17, w ∈ wsX0_nodeFor := fun w h => List.mem_cons_of_mem _ (List.mem_append_left _ (List.mem_append_right _ (h)))
  have hl := lv_entry ([.ref a, .int v]) (n := 3) (Nat.le_of_ble_eq_true rfl)
  rw [lg_entry_eq]
  generalize (lg_sl ([.ref a, .int v]) ++ List.replicate (3 - (lg_sl ([.ref a, .int v])).length) Slot.unset).toArray = ls at hl ⊢
  have hl : lv_has ls 3 [(0, .ref a), (1, .int v)] := hl
  refine lv_aload_n hx hb dX0_nodeFor_0 rfl (lv_at hl 0 rfl) ?_
  obtain ⟨nu_1, ca_1, so_1, th_1, ma_1, wo_1, lf_1, ld_1, si_1, cp_1, he_1, re_1, sv_1, lt_1, lF_1, sn_1, ab_1, hf_1, hnu_1, hlf_1, hld_1, hsi_1, hcp_1, hsn_1, hab_1⟩ := hI.opA ha
  have F2hf_1 : cqF (f a) 2 = (so_1).toInt := by rw [hf_1]; rfl
  have F3hf_1 : cqF (f a) 3 = (th_1).toInt := by rw [hf_1]; rfl
  have F4hf_1 : cqF (f a) 4 = (ma_1).toInt := by rw [hf_1]; rfl
  have F8hf_1 : cqF (f a) 8 = (si_1).toInt := by rw [hf_1]; rfl
  have F9hf_1 : cqF (f a) 9 = (cp_1).toInt := by rw [hf_1]; rfl
  have F10hf_1 : cqF (f a) 10 = (he_1).toInt := by rw [hf_1]; rfl
  have F12hf_1 : cqF (f a) 12 = (sv_1).toInt := by rw [hf_1]; rfl
  have F13hf_1 : cqF (f a) 13 = (lt_1).toInt := by rw [hf_1]; rfl
  have F14hf_1 : cqF (f a) 14 = (lF_1).toInt := by rw [hf_1]; rfl
  refine pl_get (D := D) (ci := 0) (v := .ref lf_1) (C := RX0) (T := TX0) (N := 17) hx hb hts hin_X0 hown hK hP ha.1 hf_1 rfl 6 (by decide) (hts (.fieldLink RX0 33 "CryOrder$Alarm" "leaf" "LCryOrder$Node;") (List.mem_cons_of_mem _ (List.mem_append_left _ (List.mem_append_left _ (List.mem_of_getElem? (i := 0) rfl))))) (fun _ h9 => h9) rfl dX0_nodeFor_1 ?_
  refine lv_astore_n (lv' := [(2, .ref lf_1), (0, .ref a), (1, .int v)]) hx hb dX0_nodeFor_4 rfl hl (by decide) rfl (fun ls hl => ?_)
  refine tl_nodeFor hx hb hts hml hown hN hK hP hD ⟨(Nat.le_of_ble_eq_true rfl), (Nat.le_of_ble_eq_true rfl)⟩ ⟨(Nat.le_of_ble_eq_true rfl), (Nat.le_of_ble_eq_true rfl)⟩ hI (by first | omega | assumption | decide | (have h3 : (0 : Int32).toInt = 0 := rfl; omega) | (have h3 : (0 : Int32).toInt = 0 := rfl; have h4 : (1 : Int32).toInt = 1 := rfl; have h5 : (-1 : Int32).toInt = -1 := rfl; omega)) (fun at_2 dd_3 ls h_5 h_6 h_7 hl => ?_) _ lf_1 4 _ hlf_1 (by rw [pfx_4, hlf9]; exact cqRf_of (v := some lf_1) (by rw [hf_1]; rfl)) (fun e h1 h2 => by omega) (Nat.lt_succ_self _) (lv_sub hl [0, 1, 2] rfl)
  have h_5 : cqIs L K 3 at_2 := h_5
  have h_6 : Nd dd_3 (pfx dd_3 (cqF (f a) 4)) = some at_2 := h_6
  have h_7 : dd_3 = dpF V nn (cqF (f a) 4) (v).toInt 4 := h_7
  refine lv_aload_n hx hb dX0_nodeFor_28 rfl (lv_at hl 0 rfl) ?_
  exact W.aret (v := .ref at_2) hx hb hr (Or.inl ⟨_, rfl⟩) (Or.inr ⟨_, rfl⟩) (fun t ht hW => ⟨(some at_2), rfl, ⟨_, rfl, h_5, (by rw [← h_7]; exact h_6)⟩, ht⟩) (fun q h => by cases h) dX0_nodeFor_29

set_option maxHeartbeats 4000000 in
set_option maxRecDepth 100000 in
theorem c_X0_scoreR (l : Launch) (D : va_G) (X0 : va_W) (L : List Nat) (K : Nat → Nat × Nat) (f : Nat → va_E) (S : Int) (tys : List (ClassId × FieldType)) (a : Nat) (v : Int32) (ro : Nat) (Nd : Nat → Int → Option Nat) (V : Nat → Nat → Int) (nn : Nat) (hI : cqI S L K f) (ha : cqIs L K 0 a) (hTR : tR L K f ro Nd V nn) (hlf9 : Nd 4 (cqF (f a) 4) = cqRf (f a) 6) (hwo : 0 ≤ cqF (f a) 5 ∧ cqF (f a) 5 ≤ 100) (hnn : nn ≤ 200) : Met l yX0_score wsX0_score ({ frames := 1, cells := 0, slots := 0, locals := 22 }) (va_Pc [.ref a, .int v] (wo D tys (X0 ++ va_pl L f))) (vp_Si (fun r => (r).toInt = scX V nn (v).toInt (cqF (f a) 4) (cqF (f a) 5))) 0 0 (fun _ => False) := by
  refine Met.ofW (cc := cX0_score) (maxL := 4) (ret := (some .int)) (by decide) rfl ?_
  intro p e s m args below meth c s₁ B hml hv
  obtain ⟨rfl, hP, hK, hD, hN⟩ := hv
  have hx := B.exec
  have hb := B.bytes
  have hr := B.returns
  have hts := atoms_spec (ws := wsX0_score) B.pre
  have hown : s.vm.findClass RX0 = some m.cls := findClass_of_methodNamed B.named
  have hlocks := B.notSynchronized
  have hin_X0 : ∀ w ∈ u_ws RX0 TX0 17, w ∈ wsX0_score := fun w h => List.mem_cons_of_mem _ (List.mem_append_left _ (List.mem_append_right _ (h)))
  have hl := lv_entry ([.ref a, .int v]) (n := 4) (Nat.le_of_ble_eq_true rfl)
  rw [lg_entry_eq]
  generalize (lg_sl ([.ref a, .int v]) ++ List.replicate (4 - (lg_sl ([.ref a, .int v])).length) Slot.unset).toArray = ls at hl ⊢
  have hl : lv_has ls 4 [(0, .ref a), (1, .int v)] := hl
  refine lv_aload_n hx hb dX0_score_0 rfl (lv_at hl 0 rfl) ?_
  refine lv_iload_n hx hb dX0_score_1 rfl (lv_at hl 1 rfl) ?_
  refine va_csq (wrV (As := [.int v]) (rest := []) ⟨hx, hb, hml, hown, hts⟩ hN hK hP hD (c_X0_nodeForR l D X0 L K f S tys a v ro Nd V nn hI ha (by first | omega | assumption | decide | (have h3 : (0 : Int32).toInt = 0 := rfl; omega) | (have h3 : (0 : Int32).toInt = 0 := rfl; have h4 : (1 : Int32).toInt = 1 := rfl; have h5 : (-1 : Int32).toInt = -1 := rfl; omega)) (by first | omega | assumption | decide | (have h3 : (0 : Int32).toInt = 0 := rfl; omega) | (have h3 : (0 : Int32).toInt = 0 := rfl; have h4 : (1 : Int32).toInt = 1 := rfl; have h5 : (-1 : Int32).toInt = -1 := rfl; omega))) (cwV 1 hts gX0_score_X0_nodeFor rfl rfl rfl (by decide +kernel) ⟨(Nat.le_of_ble_eq_true rfl), (Nat.le_of_ble_eq_true rfl)⟩) 0 rfl (cq_rcA (X := X0) hI ha) rfl hl.1 rfl (Nat.le_of_ble_eq_true rfl) dX0_score_2 ⟨(Nat.le_of_ble_eq_true rfl), (Nat.le_of_ble_eq_true rfl)⟩) (fun r_1 h_2 => ?_)
  obtain ⟨b_3, rfl, is_4, h_5⟩ := h_2
  have h_5 : Nd (dpF V nn (cqF (f a) 4) (v).toInt 4) (pfx (dpF V nn (cqF (f a) 4) (v).toInt 4) (cqF (f a) 4)) = some b_3 := h_5
  refine lv_topv (z := .ref b_3) rfl ?_
  have c5 := (hTR.2.1 _ _ b_3 h_5).2.2.2 5 (by decide)
  have r5 := ctF_rng (C := kC V 5 (dpF V nn (cqF (f a) 4) (v).toInt 4) (pfx (dpF V nn (cqF (f a) 4) (v).toInt 4) (cqF (f a) 4))) nn
  have c6 := (hTR.2.1 _ _ b_3 h_5).2.2.2 6 (by decide)
  have r6 := ctF_rng (C := kC V 6 (dpF V nn (cqF (f a) 4) (v).toInt 4) (pfx (dpF V nn (cqF (f a) 4) (v).toInt 4) (cqF (f a) 4))) nn
  have c7 := (hTR.2.1 _ _ b_3 h_5).2.2.2 7 (by decide)
  have r7 := ctF_rng (C := kC V 7 (dpF V nn (cqF (f a) 4) (v).toInt 4) (pfx (dpF V nn (cqF (f a) 4) (v).toInt 4) (cqF (f a) 4))) nn
  refine lv_astore_n (lv' := [(2, .ref b_3), (0, .ref a), (1, .int v)]) hx hb dX0_score_5 rfl hl (by decide) rfl (fun ls hl => ?_)
  refine lv_aload_n hx hb dX0_score_6 rfl (lv_at hl 0 rfl) ?_
  refine vp_callSi (wrV (As := []) (rest := []) ⟨hx, hb, hml, hown, hts⟩ hN hK hP hD (c_X3_oddsLowerR l D X0 L K f S tys b_3 hI is_4) (cwV 0 hts gX0_score_X3_oddsLower rfl rfl rfl (by decide +kernel) ⟨(Nat.le_of_ble_eq_true rfl), (Nat.le_of_ble_eq_true rfl)⟩) 3 rfl (cq_rcN (X := X0) hI is_4) rfl hl.1 rfl (Nat.le_of_ble_eq_true rfl) dX0_score_7 ⟨(Nat.le_of_ble_eq_true rfl), (Nat.le_of_ble_eq_true rfl)⟩) (fun r_6 h_7 => ?_)
  have h_7 : (cqF (f b_3) 6 = 0 ∧ (r_6).toInt = 2) ∨ (¬ cqF (f b_3) 6 = 0 ∧ (r_6).toInt = cqF (f b_3) 6) := h_7
  refine lv_istore_n (lv' := [(3, .int r_6), (2, .ref b_3), (0, .ref a), (1, .int v)]) hx hb dX0_score_10 rfl hl (by decide) rfl (fun ls hl => ?_)
  refine lv_iload_n hx hb dX0_score_11 rfl (lv_at hl 0 rfl) ?_
  refine lv_iconst (v := 1) hx hb dX0_score_12 (by decide) ?_
  refine bi_ge (zx := (r_6).toInt) (zy := 1) (tgt := 20) hx hb dX0_score_13 (by decide) rfl (by decide) (fun c_8 => ?_) (fun c_8 => ?_)
  · refine lv_sipush (v := 1000) hx hb dX0_score_20 (by decide) ?_
    refine lv_aload_n hx hb dX0_score_23 rfl (lv_at hl 2 rfl) ?_
    obtain ⟨nu_9, ca_9, so_9, th_9, ma_9, wo_9, lf_9, ld_9, si_9, cp_9, he_9, re_9, sv_9, lt_9, lF_9, sn_9, ab_9, hf_9, hnu_9, hlf_9, hld_9, hsi_9, hcp_9, hsn_9, hab_9⟩ := hI.opA ha
    have F2hf_9 : cqF (f a) 2 = (so_9).toInt := by rw [hf_9]; rfl
    have F3hf_9 : cqF (f a) 3 = (th_9).toInt := by rw [hf_9]; rfl
    have F4hf_9 : cqF (f a) 4 = (ma_9).toInt := by rw [hf_9]; rfl
    have F8hf_9 : cqF (f a) 8 = (si_9).toInt := by rw [hf_9]; rfl
    have F9hf_9 : cqF (f a) 9 = (cp_9).toInt := by rw [hf_9]; rfl
    have F10hf_9 : cqF (f a) 10 = (he_9).toInt := by rw [hf_9]; rfl
    have F12hf_9 : cqF (f a) 12 = (sv_9).toInt := by rw [hf_9]; rfl
    have F13hf_9 : cqF (f a) 13 = (lt_9).toInt := by rw [hf_9]; rfl
    have F14hf_9 : cqF (f a) 14 = (lF_9).toInt := by rw [hf_9]; rfl
    have F5hf_9 : cqF (f a) 5 = (wo_9).toInt := by rw [hf_9]; rfl
    refine pl_get (D := D) (ci := 0) (v := .int wo_9) (C := RX0) (T := TX0) (N := 17) hx hb hts hin_X0 hown hK hP ha.1 hf_9 rfl 5 (by decide) (hts (.fieldLink RX0 30 "CryOrder$Alarm" "worth" "I") (List.mem_cons_of_mem _ (List.mem_append_left _ (List.mem_append_left _ (List.mem_of_getElem? (i := 0) rfl))))) (fun _ h9 => h9) rfl dX0_score_24 ?_
    refine lv_imul hx hb dX0_score_27 ?_
    refine lv_topi (fun z_10 ez_10 => ?_)
    have tz_10 := ml_toInt (zx := 1000) (zy := (wo_9).toInt) ez_10 (by decide) rfl
    refine lv_aload_n hx hb dX0_score_28 rfl (lv_at hl 1 rfl) ?_
    refine vp_callSi (wrV (As := []) (rest := [.int z_10]) ⟨hx, hb, hml, hown, hts⟩ hN hK hP hD (c_X3_oddsUpperR l D X0 L K f S tys b_3 hI is_4) (cwV 0 hts gX0_score_X3_oddsUpper rfl rfl rfl (by decide +kernel) ⟨(Nat.le_of_ble_eq_true rfl), (Nat.le_of_ble_eq_true rfl)⟩) 3 rfl (cq_rcN (X := X0) hI is_4) rfl hl.1 rfl (Nat.le_of_ble_eq_true rfl) dX0_score_29 ⟨(Nat.le_of_ble_eq_true rfl), (Nat.le_of_ble_eq_true rfl)⟩) (fun r_11 h_12 => ?_)
    have h_12 : (cqF (f b_3) 6 = 0 ∧ (r_11).toInt = 1) ∨ (¬ cqF (f b_3) 6 = 0 ∧ (r_11).toInt = cqF (f b_3) 5) := h_12
    refine lv_imul hx hb dX0_score_32 ?_
    refine lv_topi (fun z_13 ez_13 => ?_)
    refine lv_iload_n hx hb dX0_score_33 rfl (lv_at hl 0 rfl) ?_
    refine lv_idiv hx hb dX0_score_34 (ne0_of (zy := (r_6).toInt) (by omega) rfl) ?_
    refine lv_topi (fun z_14 ez_14 => ?_)
    exact W.iret (v := z_14) hx hb hr (fun t ht hW => ⟨z_14, rfl, (sc_fin (up := (r_11).toInt) (lo := (r_6).toInt) (by have h9 := sc_of ez_10 ez_13 ez_14 (by omega) (by omega) (by omega); rw [h9]; congr 3; omega) (by omega) (by omega)), ht⟩) (fun q h => by cases h) dX0_score_35
  · refine lv_iconst (v := 0) hx hb dX0_score_16 (by decide) ?_
    refine lv_goto (tgt := 35) hx hb dX0_score_17 (by decide) ?_
    exact W.iret (v := 0) hx hb hr (fun t ht hW => ⟨0, rfl, (by exfalso; omega), ht⟩) (fun q h => by cases h) dX0_score_35
