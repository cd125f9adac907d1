set_option maxHeartbeats 4000000 in
set_option maxRecDepth 100000 in
theorem c_X0_hasHeard (l : Launch) (D : va_G) (X0 : va_W) (L : List Nat) (K : Nat → Nat × Nat) (f : Nat → va_E) (S : Int) (tys : List (ClassId × FieldType)) (a : Nat) (v : Int32) (hI : cqI S L K f) (ha : cqIs L K 0 a) : Met l yX0_hasHeard wsX0_hasHeard ({ frames := 0, cells := 0, slots := 0, locals := 0 }) (va_Pc [.ref a, .int v] (wo D tys (X0 ++ va_pl L f))) (vp_Si (fun r => ((True) ∧ r = 1) ∨ ((True) ∧ r = 0))) 0 0 (fun _ => False) := by
  refine Met.ofW (cc := cX0_hasHeard) (maxL := 2) (ret := (some .boolean)) (by decide) rfl ?_
  intro p e s m args below meth c s₁ B hml hv
  obtain ⟨rfl, hP, hK, hD, hN⟩ := hv
  have hx := B.exec
  have hb := B.bytes
  have hr := B.returns
  have hts := atoms_spec (ws := wsX0_hasHeard) B.pre
  have hown : s.vm.findClass RX0 = some m.cls := findClass_of_methodNamed B.named
  have hlocks := B.notSynchronized
  have hin_X0 : ∀ w ∈ u_ws RX0 TX0 17, w ∈ wsX0_hasHeard := fun w h => List.mem_cons_of_mem _ (List.mem_append_right _ (h))
  have hl := lv_entry ([.ref a, .int v]) (n := 2) (Nat.le_of_ble_eq_true rfl)
  rw [lg_entry_eq]
  generalize (lg_sl ([.ref a, .int v]) ++ List.replicate (2 - (lg_sl ([.ref a, .int v])).length) Slot.unset).toArray = ls at hl ⊢
  have hl : lv_has ls 2 [(0, .ref a), (1, .int v)] := hl
  refine lv_aload_n hx hb dX0_hasHeard_0 rfl (lv_at hl 0 rfl) ?_
  obtain ⟨nu_1, ca_1, so_1, th_1, ma_1, wo_1, lf_1, ld_1, si_1, cp_1, he_1, re_1, sv_1, lt_1, lF_1, sn_1, ab_1, hf_1, hnu_1, hlf_1, hld_1, hsi_1, hcp_1, hsn_1, hab_1⟩ := hI.opA ha
  refine pl_get (D := D) (ci := 0) (v := .int lt_1) (C := RX0) (T := TX0) (N := 17) hx hb hts hin_X0 hown hK hP ha.1 hf_1 rfl 13 (by decide) (hts (.fieldLink RX0 66 "CryOrder$Alarm" "lookersForTrue" "I") (List.mem_cons_of_mem _ (List.mem_append_left _ (List.mem_of_getElem? (i := 0) rfl)))) (fun _ h9 => h9) rfl dX0_hasHeard_1 ?_
  refine lv_aload_n hx hb dX0_hasHeard_4 rfl (lv_at hl 0 rfl) ?_
  refine pl_get (D := D) (ci := 0) (v := .int lF_1) (C := RX0) (T := TX0) (N := 17) hx hb hts hin_X0 hown hK hP ha.1 hf_1 rfl 14 (by decide) (hts (.fieldLink RX0 69 "CryOrder$Alarm" "lookersForFalse" "I") (List.mem_cons_of_mem _ (List.mem_append_left _ (List.mem_of_getElem? (i := 1) rfl)))) (fun _ h9 => h9) rfl dX0_hasHeard_5 ?_
  refine lv_ior hx hb dX0_hasHeard_8 ?_
  refine lv_topi (fun z_2 ez_2 => ?_)
  refine lv_iload_n hx hb dX0_hasHeard_9 rfl (lv_at hl 1 rfl) ?_
  refine lv_ishr hx hb dX0_hasHeard_10 ?_
  refine lv_topi (fun z_3 ez_3 => ?_)
  refine lv_iconst (v := 1) hx hb dX0_hasHeard_11 (by decide) ?_
  refine lv_iand hx hb dX0_hasHeard_12 ?_
  refine lv_topi (fun z_4 ez_4 => ?_)
  have tz_4 := an1_toInt ez_4
  refine lv_iconst (v := 1) hx hb dX0_hasHeard_13 (by decide) ?_
  refine bi_ne (zx := (z_4).toInt) (zy := 1) (tgt := 21) hx hb dX0_hasHeard_14 (by decide) rfl (by decide) (fun c_5 => ?_) (fun c_5 => ?_)
  · refine lv_iconst (v := 0) hx hb dX0_hasHeard_21 (by decide) ?_
    exact W.zret (v := 0) hx hb hr rfl (fun t ht hW => ⟨0, rfl, Or.inr ⟨trivial, rfl⟩, ht⟩) (fun q h => by cases h) dX0_hasHeard_22
  · refine lv_iconst (v := 1) hx hb dX0_hasHeard_17 (by decide) ?_
    refine lv_goto (tgt := 22) hx hb dX0_hasHeard_18 (by decide) ?_
    exact W.zret (v := 1) hx hb hr rfl (fun t ht hW => ⟨1, rfl, Or.inl ⟨trivial, rfl⟩, ht⟩) (fun q h => by cases h) dX0_hasHeard_22

set_option maxHeartbeats 4000000 in
set_option maxRecDepth 100000 in
theorem c_X0_verdicts (l : Launch) (D : va_G) (X0 : va_W) (L : List Nat) (K : Nat → Nat × Nat) (f : Nat → va_E) (S : Int) (tys : List (ClassId × FieldType)) (a : Nat) (hI : cqI S L K f) (ha : cqIs L K 0 a) : Met l yX0_verdicts wsX0_verdicts ({ frames := 1, cells := 0, slots := 0, locals := 20 }) (va_Pc [.ref a] (wo D tys (X0 ++ va_pl L f))) (vp_Si (fun r => True)) 0 0 (fun _ => False) := by
  refine Met.ofW (cc := cX0_verdicts) (maxL := 1) (ret := (some .int)) (by decide) rfl ?_
  intro p e s m args below meth c s₁ B hml hv
  obtain ⟨rfl, hP, hK, hD, hN⟩ := hv
  have hx := B.exec
  have hb := B.bytes
  have hr := B.returns
  have hts := atoms_spec (ws := wsX0_verdicts) B.pre
  have hown : s.vm.findClass RX0 = some m.cls := findClass_of_methodNamed B.named
  have hlocks := B.notSynchronized
  have hin_X0 : ∀ w ∈ u_ws RX0 TX0 17, w ∈ wsX0_verdicts := fun w h => List.mem_cons_of_mem _ (List.mem_append_right _ (h))
  have hl := lv_entry ([.ref a]) (n := 1) (Nat.le_of_ble_eq_true rfl)
  rw [lg_entry_eq]
  generalize (lg_sl ([.ref a]) ++ List.replicate (1 - (lg_sl ([.ref a])).length) Slot.unset).toArray = ls at hl ⊢
  have hl : lv_has ls 1 [(0, .ref a)] := hl
  refine lv_aload_n hx hb dX0_verdicts_0 rfl (lv_at hl 0 rfl) ?_
  obtain ⟨nu_1, ca_1, so_1, th_1, ma_1, wo_1, lf_1, ld_1, si_1, cp_1, he_1, re_1, sv_1, lt_1, lF_1, sn_1, ab_1, hf_1, hnu_1, hlf_1, hld_1, hsi_1, hcp_1, hsn_1, hab_1⟩ := hI.opA ha
  refine pl_get (D := D) (ci := 0) (v := .int lt_1) (C := RX0) (T := TX0) (N := 17) hx hb hts hin_X0 hown hK hP ha.1 hf_1 rfl 13 (by decide) (hts (.fieldLink RX0 66 "CryOrder$Alarm" "lookersForTrue" "I") (List.mem_cons_of_mem _ (List.mem_append_left _ (List.mem_of_getElem? (i := 0) rfl)))) (fun _ h9 => h9) rfl dX0_verdicts_1 ?_
  refine lv_aload_n hx hb dX0_verdicts_4 rfl (lv_at hl 0 rfl) ?_
  refine pl_get (D := D) (ci := 0) (v := .int lF_1) (C := RX0) (T := TX0) (N := 17) hx hb hts hin_X0 hown hK hP ha.1 hf_1 rfl 14 (by decide) (hts (.fieldLink RX0 69 "CryOrder$Alarm" "lookersForFalse" "I") (List.mem_cons_of_mem _ (List.mem_append_left _ (List.mem_of_getElem? (i := 1) rfl)))) (fun _ h9 => h9) rfl dX0_verdicts_5 ?_
  refine lv_ior hx hb dX0_verdicts_8 ?_
  refine lv_topi (fun z_2 ez_2 => ?_)
  refine vp_callSi (zrS (As := [.int z_2]) (rest := []) (wc := []) ⟨hx, hb, hml, hown, hts⟩ hN hK hP hD (c_J6_bitCount_0f7a4 l D z_2 ) (va_cwS 1 hts gX0_verdicts_J6_bitCount_0f7a4 rfl rfl rfl (by decide +kernel) ⟨(Nat.le_of_ble_eq_true rfl), (Nat.le_of_ble_eq_true rfl)⟩) [] [] rfl rfl (by decide) rfl hl.1 rfl (Nat.le_of_ble_eq_true rfl) dX0_verdicts_9 ⟨(Nat.le_of_ble_eq_true rfl), (Nat.le_of_ble_eq_true rfl)⟩) (fun r_3 h_4 => ?_)
  exact W.iret (v := r_3) hx hb hr (fun t ht hW => ⟨r_3, rfl, trivial, ht⟩) (fun q h => by cases h) dX0_verdicts_12

set_option maxHeartbeats 4000000 in
set_option maxRecDepth 100000 in
theorem c_X3_oddsUpper (l : Launch) (D : va_G) (X0 : va_W) (L : List Nat) (K : Nat → Nat × Nat) (f : Nat → va_E) (S : Int) (tys : List (ClassId × FieldType)) (a : Nat) (hI : cqI S L K f) (ha : cqIs L K 3 a) : Met l yX3_oddsUpper wsX3_oddsUpper ({ frames := 0, cells := 0, slots := 0, locals := 0 }) (va_Pc [.ref a] (wo D tys (X0 ++ va_pl L f))) (vp_Si (fun r => True)) 0 0 (fun _ => False) := by
  refine Met.ofW (cc := cX3_oddsUpper) (maxL := 1) (ret := (some .int)) (by decide) rfl ?_
  intro p e s m args below meth c s₁ B hml hv
  obtain ⟨rfl, hP, hK, hD, hN⟩ := hv
  have hx := B.exec
  have hb := B.bytes
  have hr := B.returns
  have hts := atoms_spec (ws := wsX3_oddsUpper) B.pre
  have hown : s.vm.findClass RX3 = some m.cls := findClass_of_methodNamed B.named
  have hlocks := B.notSynchronized
  have hin_X3 : ∀ w ∈ u_ws RX3 TX3 8, w ∈ wsX3_oddsUpper := fun w h => List.mem_cons_of_mem _ (List.mem_append_right _ (h))
  have hl := lv_entry ([.ref a]) (n := 1) (Nat.le_of_ble_eq_true rfl)
  rw [lg_entry_eq]
  generalize (lg_sl ([.ref a]) ++ List.replicate (1 - (lg_sl ([.ref a])).length) Slot.unset).toArray = ls at hl ⊢
  have hl : lv_has ls 1 [(0, .ref a)] := hl
  refine lv_aload_n hx hb dX3_oddsUpper_0 rfl (lv_at hl 0 rfl) ?_
  obtain ⟨pa_1, de_1, ma_1, sb_1, fc_1, tu_1, sd_1, op_1, hf_1, hpa_1, hsb_1, hfc_1⟩ := hI.opN ha
  refine pl_get (D := D) (ci := 3) (v := .int sd_1) (C := RX3) (T := TX3) (N := 8) hx hb hts hin_X3 hown hK hP ha.1 hf_1 rfl 6 (by decide) (hts (.fieldLink RX3 42 "CryOrder$Node" "settled" "I") (List.mem_cons_of_mem _ (List.mem_append_left _ (List.mem_of_getElem? (i := 0) rfl)))) (fun _ h9 => h9) rfl dX3_oddsUpper_1 ?_
  refine bz_ne (zx := (sd_1).toInt) (tgt := 11) hx hb dX3_oddsUpper_4 (by decide) rfl (fun c_2 => ?_) (fun c_2 => ?_)
  · refine lv_aload_n hx hb dX3_oddsUpper_11 rfl (lv_at hl 0 rfl) ?_
    refine pl_get (D := D) (ci := 3) (v := .int tu_1) (C := RX3) (T := TX3) (N := 8) hx hb hts hin_X3 hown hK hP ha.1 hf_1 rfl 5 (by decide) (hts (.fieldLink RX3 45 "CryOrder$Node" "settledTrue" "I") (List.mem_cons_of_mem _ (List.mem_append_left _ (List.mem_of_getElem? (i := 1) rfl)))) (fun _ h9 => h9) rfl dX3_oddsUpper_12 ?_
    exact W.iret (v := tu_1) hx hb hr (fun t ht hW => ⟨tu_1, rfl, trivial, ht⟩) (fun q h => by cases h) dX3_oddsUpper_15
  · refine lv_iconst (v := 1) hx hb dX3_oddsUpper_7 (by decide) ?_
    refine lv_goto (tgt := 15) hx hb dX3_oddsUpper_8 (by decide) ?_
    exact W.iret (v := 1) hx hb hr (fun t ht hW => ⟨1, rfl, trivial, ht⟩) (fun q h => by cases h) dX3_oddsUpper_15

set_option maxHeartbeats 4000000 in
set_option maxRecDepth 100000 in
theorem c_X3_oddsLower (l : Launch) (D : va_G) (X0 : va_W) (L : List Nat) (K : Nat → Nat × Nat) (f : Nat → va_E) (S : Int) (tys : List (ClassId × FieldType)) (a : Nat) (hI : cqI S L K f) (ha : cqIs L K 3 a) : Met l yX3_oddsLower wsX3_oddsLower ({ frames := 0, cells := 0, slots := 0, locals := 0 }) (va_Pc [.ref a] (wo D tys (X0 ++ va_pl L f))) (vp_Si (fun r => True)) 0 0 (fun _ => False) := by
  refine Met.ofW (cc := cX3_oddsLower) (maxL := 1) (ret := (some .int)) (by decide) rfl ?_
  intro p e s m args below meth c s₁ B hml hv
  obtain ⟨rfl, hP, hK, hD, hN⟩ := hv
  have hx := B.exec
  have hb := B.bytes
  have hr := B.returns
  have hts := atoms_spec (ws := wsX3_oddsLower) B.pre
  have hown : s.vm.findClass RX3 = some m.cls := findClass_of_methodNamed B.named
  have hlocks := B.notSynchronized
  have hin_X3 : ∀ w ∈ u_ws RX3 TX3 8, w ∈ wsX3_oddsLower := fun w h => List.mem_cons_of_mem _ (List.mem_append_right _ (h))
  have hl := lv_entry ([.ref a]) (n := 1) (Nat.le_of_ble_eq_true rfl)
  rw [lg_entry_eq]
  generalize (lg_sl ([.ref a]) ++ List.replicate (1 - (lg_sl ([.ref a])).length) Slot.unset).toArray = ls at hl ⊢
  have hl : lv_has ls 1 [(0, .ref a)] := hl
  refine lv_aload_n hx hb dX3_oddsLower_0 rfl (lv_at hl 0 rfl) ?_
  obtain ⟨pa_1, de_1, ma_1, sb_1, fc_1, tu_1, sd_1, op_1, hf_1, hpa_1, hsb_1, hfc_1⟩ := hI.opN ha
  refine pl_get (D := D) (ci := 3) (v := .int sd_1) (C := RX3) (T := TX3) (N := 8) hx hb hts hin_X3 hown hK hP ha.1 hf_1 rfl 6 (by decide) (hts (.fieldLink RX3 42 "CryOrder$Node" "settled" "I") (List.mem_cons_of_mem _ (List.mem_append_left _ (List.mem_of_getElem? (i := 0) rfl)))) (fun _ h9 => h9) rfl dX3_oddsLower_1 ?_
  refine bz_ne (zx := (sd_1).toInt) (tgt := 11) hx hb dX3_oddsLower_4 (by decide) rfl (fun c_2 => ?_) (fun c_2 => ?_)
  · refine lv_aload_n hx hb dX3_oddsLower_11 rfl (lv_at hl 0 rfl) ?_
    refine pl_get (D := D) (ci := 3) (v := .int sd_1) (C := RX3) (T := TX3) (N := 8) hx hb hts hin_X3 hown hK hP ha.1 hf_1 rfl 6 (by decide) (hts (.fieldLink RX3 42 "CryOrder$Node" "settled" "I") (List.mem_cons_of_mem _ (List.mem_append_left _ (List.mem_of_getElem? (i := 0) rfl)))) (fun _ h9 => h9) rfl dX3_oddsLower_12 ?_
    exact W.iret (v := sd_1) hx hb hr (fun t ht hW => ⟨sd_1, rfl, trivial, ht⟩) (fun q h => by cases h) dX3_oddsLower_15
  · refine lv_iconst (v := 2) hx hb dX3_oddsLower_7 (by decide) ?_
    refine lv_goto (tgt := 15) hx hb dX3_oddsLower_8 (by decide) ?_
    exact W.iret (v := 2) hx hb hr (fun t ht hW => ⟨2, rfl, trivial, ht⟩) (fun q h => by cases h) dX3_oddsLower_15

set_option maxHeartbeats 4000000 in
set_option maxRecDepth 100000 in
theorem c_X1_minutes (l : Launch) (D : va_G) (X0 : va_W) (L : List Nat) (K : Nat → Nat × Nat) (f : Nat → va_E) (S : Int) (tys : List (ClassId × FieldType)) (a : Nat) (hI : cqI S L K f) (ha : cqIs L K 1 a) (hSb : S ≤ 1000000) : Met l yX1_minutes wsX1_minutes ({ frames := 0, cells := 0, slots := 0, locals := 0 }) (va_Pc [.ref a] (wo D tys (X0 ++ va_pl L f))) (vp_Si (fun r => 5 ≤ (r).toInt ∧ (r).toInt ≤ 5 + 2 * S)) 0 0 (fun _ => False) := by
  refine Met.ofW (cc := cX1_minutes) (maxL := 1) (ret := (some .int)) (by decide) rfl ?_
  intro p e s m args below meth c s₁ B hml hv
  obtain ⟨rfl, hP, hK, hD, hN⟩ := hv
  have hx := B.exec
  have hb := B.bytes
  have hr := B.returns
  have hts := atoms_spec (ws := wsX1_minutes) B.pre
  have hown : s.vm.findClass RX1 = some m.cls := findClass_of_methodNamed B.named
  have hlocks := B.notSynchronized
  have hin_X1 : ∀ w ∈ u_ws RX1 TX1 4, w ∈ wsX1_minutes := fun w h => List.mem_cons_of_mem _ (List.mem_append_right _ (h))
  have hl := lv_entry ([.ref a]) (n := 1) (Nat.le_of_ble_eq_true rfl)
  rw [lg_entry_eq]
  generalize (lg_sl ([.ref a]) ++ List.replicate (1 - (lg_sl ([.ref a])).length) Slot.unset).toArray = ls at hl ⊢
  have hl : lv_has ls 1 [(0, .ref a)] := hl
  refine lv_iconst (v := 5) hx hb dX1_minutes_0 (by decide) ?_
  refine lv_iconst (v := 2) hx hb dX1_minutes_1 (by decide) ?_
  refine lv_aload_n hx hb dX1_minutes_2 rfl (lv_at hl 0 rfl) ?_
  obtain ⟨cn_1, sz_1, sc_1, li_1, hf_1, hs0_1, hs1_1⟩ := hI.opC ha
  refine pl_get (D := D) (ci := 1) (v := .int sz_1) (C := RX1) (T := TX1) (N := 4) hx hb hts hin_X1 hown hK hP ha.1 hf_1 rfl 1 (by decide) (hts (.fieldLink RX1 13 "CryOrder$Case" "size" "I") (List.mem_cons_of_mem _ (List.mem_append_left _ (List.mem_of_getElem? (i := 0) rfl)))) (fun _ h9 => h9) rfl dX1_minutes_3 ?_
  refine lv_imul hx hb dX1_minutes_6 ?_
  refine lv_topi (fun z_2 ez_2 => ?_)
  have tz_2 := ml_toInt (zx := 2) (zy := (sz_1).toInt) ez_2 (by decide) rfl
  refine lv_iadd hx hb dX1_minutes_7 ?_
  refine lv_topi (fun z_3 ez_3 => ?_)
  have tz_3 := ad_toInt (zx := 5) (zy := (z_2).toInt) ez_3 (by decide) rfl
  exact W.iret (v := z_3) hx hb hr (fun t ht hW => ⟨z_3, rfl, (by omega), ht⟩) (fun q h => by cases h) dX1_minutes_8

set_option maxHeartbeats 4000000 in
set_option maxRecDepth 100000 in
theorem c_X1_isAheadOf (l : Launch) (D : va_G) (X0 : va_W) (L : List Nat) (K : Nat → Nat × Nat) (f : Nat → va_E) (S : Int) (tys : List (ClassId × FieldType)) (a : Nat) (b : Nat) (hI : cqI S L K f) (ha : cqIs L K 1 a) (hb2 : cqIs L K 1 b) : Met l yX1_isAheadOf wsX1_isAheadOf ({ frames := 0, cells := 0, slots := 0, locals := 0 }) (va_Pc [.ref a, .ref b] (wo D tys (X0 ++ va_pl L f))) (vp_Si (fun r => ((True) ∧ r = 1) ∨ ((True) ∧ r = 0))) 0 0 (fun _ => False) := by
  refine Met.ofW (cc := cX1_isAheadOf) (maxL := 2) (ret := (some .boolean)) (by decide) rfl ?_
  intro p e s m args below meth c s₁ B hml hv
  obtain ⟨rfl, hP, hK, hD, hN⟩ := hv
  have hx := B.exec
  have hb := B.bytes
  have hr := B.returns
  have hts := atoms_spec (ws := wsX1_isAheadOf) B.pre
  have hown : s.vm.findClass RX1 = some m.cls := findClass_of_methodNamed B.named
  have hlocks := B.notSynchronized
  have hin_X1 : ∀ w ∈ u_ws RX1 TX1 4, w ∈ wsX1_isAheadOf := fun w h => List.mem_cons_of_mem _ (List.mem_append_right _ (h))
  have hl := lv_entry ([.ref a, .ref b]) (n := 2) (Nat.le_of_ble_eq_true rfl)
  rw [lg_entry_eq]
  generalize (lg_sl ([.ref a, .ref b]) ++ List.replicate (2 - (lg_sl ([.ref a, .ref b])).length) Slot.unset).toArray = ls at hl ⊢
  have hl : lv_has ls 2 [(0, .ref a), (1, .ref b)] := hl
  refine lv_aload_n hx hb dX1_isAheadOf_0 rfl (lv_at hl 0 rfl) ?_
  obtain ⟨cn_1, sz_1, sc_1, li_1, hf_1, hs0_1, hs1_1⟩ := hI.opC ha
  refine pl_get (D := D) (ci := 1) (v := .int sc_1) (C := RX1) (T := TX1) (N := 4) hx hb hts hin_X1 hown hK hP ha.1 hf_1 rfl 2 (by decide) (hts (.fieldLink RX1 16 "CryOrder$Case" "score" "I") (List.mem_cons_of_mem _ (List.mem_append_left _ (List.mem_of_getElem? (i := 0) rfl)))) (fun _ h9 => h9) rfl dX1_isAheadOf_1 ?_
  refine lv_aload_n hx hb dX1_isAheadOf_4 rfl (lv_at hl 1 rfl) ?_
  obtain ⟨cn_2, sz_2, sc_2, li_2, hf_2, hs0_2, hs1_2⟩ := hI.opC hb2
  refine pl_get (D := D) (ci := 1) (v := .int sc_2) (C := RX1) (T := TX1) (N := 4) hx hb hts hin_X1 hown hK hP hb2.1 hf_2 rfl 2 (by decide) (hts (.fieldLink RX1 16 "CryOrder$Case" "score" "I") (List.mem_cons_of_mem _ (List.mem_append_left _ (List.mem_of_getElem? (i := 0) rfl)))) (fun _ h9 => h9) rfl dX1_isAheadOf_5 ?_
  refine bi_gt (zx := (sc_1).toInt) (zy := (sc_2).toInt) (tgt := 33) hx hb dX1_isAheadOf_8 (by decide) rfl rfl (fun c_3 => ?_) (fun c_3 => ?_)
  · refine lv_iconst (v := 1) hx hb dX1_isAheadOf_33 (by decide) ?_
    refine lv_goto (tgt := 38) hx hb dX1_isAheadOf_34 (by decide) ?_
    exact W.zret (v := 1) hx hb hr rfl (fun t ht hW => ⟨1, rfl, Or.inl ⟨trivial, rfl⟩, ht⟩) (fun q h => by cases h) dX1_isAheadOf_38
  · refine lv_aload_n hx hb dX1_isAheadOf_11 rfl (lv_at hl 0 rfl) ?_
    refine pl_get (D := D) (ci := 1) (v := .int sc_1) (C := RX1) (T := TX1) (N := 4) hx hb hts hin_X1 hown hK hP ha.1 hf_1 rfl 2 (by decide) (hts (.fieldLink RX1 16 "CryOrder$Case" "score" "I") (List.mem_cons_of_mem _ (List.mem_append_left _ (List.mem_of_getElem? (i := 0) rfl)))) (fun _ h9 => h9) rfl dX1_isAheadOf_12 ?_
    refine lv_aload_n hx hb dX1_isAheadOf_15 rfl (lv_at hl 1 rfl) ?_
    refine pl_get (D := D) (ci := 1) (v := .int sc_2) (C := RX1) (T := TX1) (N := 4) hx hb hts hin_X1 hown hK hP hb2.1 hf_2 rfl 2 (by decide) (hts (.fieldLink RX1 16 "CryOrder$Case" "score" "I") (List.mem_cons_of_mem _ (List.mem_append_left _ (List.mem_of_getElem? (i := 0) rfl)))) (fun _ h9 => h9) rfl dX1_isAheadOf_16 ?_
    refine bi_ne (zx := (sc_1).toInt) (zy := (sc_2).toInt) (tgt := 37) hx hb dX1_isAheadOf_19 (by decide) rfl rfl (fun c_4 => ?_) (fun c_4 => ?_)
    · refine lv_iconst (v := 0) hx hb dX1_isAheadOf_37 (by decide) ?_
      exact W.zret (v := 0) hx hb hr rfl (fun t ht hW => ⟨0, rfl, Or.inr ⟨trivial, rfl⟩, ht⟩) (fun q h => by cases h) dX1_isAheadOf_38
    · refine lv_aload_n hx hb dX1_isAheadOf_22 rfl (lv_at hl 0 rfl) ?_
      refine pl_get (D := D) (ci := 1) (v := .int cn_1) (C := RX1) (T := TX1) (N := 4) hx hb hts hin_X1 hown hK hP ha.1 hf_1 rfl 0 (by decide) (hts (.fieldLink RX1 7 "CryOrder$Case" "number" "I") (List.mem_cons_of_mem _ (List.mem_append_left _ (List.mem_of_getElem? (i := 1) rfl)))) (fun _ h9 => h9) rfl dX1_isAheadOf_23 ?_
      refine lv_aload_n hx hb dX1_isAheadOf_26 rfl (lv_at hl 1 rfl) ?_
      refine pl_get (D := D) (ci := 1) (v := .int cn_2) (C := RX1) (T := TX1) (N := 4) hx hb hts hin_X1 hown hK hP hb2.1 hf_2 rfl 0 (by decide) (hts (.fieldLink RX1 7 "CryOrder$Case" "number" "I") (List.mem_cons_of_mem _ (List.mem_append_left _ (List.mem_of_getElem? (i := 1) rfl)))) (fun _ h9 => h9) rfl dX1_isAheadOf_27 ?_
      refine bi_ge (zx := (cn_1).toInt) (zy := (cn_2).toInt) (tgt := 37) hx hb dX1_isAheadOf_30 (by decide) rfl rfl (fun c_5 => ?_) (fun c_5 => ?_)
      · refine lv_iconst (v := 0) hx hb dX1_isAheadOf_37 (by decide) ?_
        exact W.zret (v := 0) hx hb hr rfl (fun t ht hW => ⟨0, rfl, Or.inr ⟨trivial, rfl⟩, ht⟩) (fun q h => by cases h) dX1_isAheadOf_38
      · refine lv_iconst (v := 1) hx hb dX1_isAheadOf_33 (by decide) ?_
        refine lv_goto (tgt := 38) hx hb dX1_isAheadOf_34 (by decide) ?_
        exact W.zret (v := 1) hx hb hr rfl (fun t ht hW => ⟨1, rfl, Or.inl ⟨trivial, rfl⟩, ht⟩) (fun q h => by cases h) dX1_isAheadOf_38

set_option maxHeartbeats 4000000 in
set_option maxRecDepth 100000 in
theorem c_X6_covers (l : Launch) (D : va_G) (X0 : va_W) (L : List Nat) (K : Nat → Nat × Nat) (f : Nat → va_E) (S : Int) (tys : List (ClassId × FieldType)) (a : Nat) (v : Int32) (w : Int32) (hI : cqI S L K f) (ha : cqIs L K 6 a) : Met l yX6_covers wsX6_covers ({ frames := 0, cells := 0, slots := 0, locals := 0 }) (va_Pc [.ref a, .int v, .int w] (wo D tys (X0 ++ va_pl L f))) (vp_Si (fun r => ((True) ∧ r = 1) ∨ ((True) ∧ r = 0))) 0 0 (fun _ => False) := by
  refine Met.ofW (cc := cX6_covers) (maxL := 3) (ret := (some .boolean)) (by decide) rfl ?_
  intro p e s m args below meth c s₁ B hml hv
  obtain ⟨rfl, hP, hK, hD, hN⟩ := hv
  have hx := B.exec
  have hb := B.bytes
  have hr := B.returns
  have hts := atoms_spec (ws := wsX6_covers) B.pre
  have hown : s.vm.findClass RX6 = some m.cls := findClass_of_methodNamed B.named
  have hlocks := B.notSynchronized
  have hin_X6 : ∀ w ∈ u_ws RX6 TX6 3, w ∈ wsX6_covers := fun w h => List.mem_cons_of_mem _ (List.mem_append_right _ (h))
  have hl := lv_entry ([.ref a, .int v, .int w]) (n := 3) (Nat.le_of_ble_eq_true rfl)
  rw [lg_entry_eq]
  generalize (lg_sl ([.ref a, .int v, .int w]) ++ List.replicate (3 - (lg_sl ([.ref a, .int v, .int w])).length) Slot.unset).toArray = ls at hl ⊢
  have hl : lv_has ls 3 [(0, .ref a), (1, .int v), (2, .int w)] := hl
  refine lv_iload_n hx hb dX6_covers_0 rfl (lv_at hl 1 rfl) ?_
  refine lv_aload_n hx hb dX6_covers_1 rfl (lv_at hl 0 rfl) ?_
  obtain ⟨ss_1, fr_1, tt_1, hf_1⟩ := hI.opS ha
  refine pl_get (D := D) (ci := 6) (v := .int ss_1) (C := RX6) (T := TX6) (N := 3) hx hb hts hin_X6 hown hK hP ha.1 hf_1 rfl 0 (by decide) (hts (.fieldLink RX6 7 "CryOrder$Silence" "source" "I") (List.mem_cons_of_mem _ (List.mem_append_left _ (List.mem_of_getElem? (i := 0) rfl)))) (fun _ h9 => h9) rfl dX6_covers_2 ?_
  refine bi_ne (zx := (v).toInt) (zy := (ss_1).toInt) (tgt := 28) hx hb dX6_covers_5 (by decide) rfl rfl (fun c_2 => ?_) (fun c_2 => ?_)
  · refine lv_iconst (v := 0) hx hb dX6_covers_28 (by decide) ?_
    exact W.zret (v := 0) hx hb hr rfl (fun t ht hW => ⟨0, rfl, Or.inr ⟨trivial, rfl⟩, ht⟩) (fun q h => by cases h) dX6_covers_29
  · refine lv_aload_n hx hb dX6_covers_8 rfl (lv_at hl 0 rfl) ?_
    refine pl_get (D := D) (ci := 6) (v := .int fr_1) (C := RX6) (T := TX6) (N := 3) hx hb hts hin_X6 hown hK hP ha.1 hf_1 rfl 1 (by decide) (hts (.fieldLink RX6 13 "CryOrder$Silence" "from" "I") (List.mem_cons_of_mem _ (List.mem_append_left _ (List.mem_of_getElem? (i := 1) rfl)))) (fun _ h9 => h9) rfl dX6_covers_9 ?_
    refine lv_iload_n hx hb dX6_covers_12 rfl (lv_at hl 2 rfl) ?_
    refine bi_gt (zx := (fr_1).toInt) (zy := (w).toInt) (tgt := 28) hx hb dX6_covers_13 (by decide) rfl rfl (fun c_3 => ?_) (fun c_3 => ?_)
    · refine lv_iconst (v := 0) hx hb dX6_covers_28 (by decide) ?_
      exact W.zret (v := 0) hx hb hr rfl (fun t ht hW => ⟨0, rfl, Or.inr ⟨trivial, rfl⟩, ht⟩) (fun q h => by cases h) dX6_covers_29
    · refine lv_iload_n hx hb dX6_covers_16 rfl (lv_at hl 2 rfl) ?_
      refine lv_aload_n hx hb dX6_covers_17 rfl (lv_at hl 0 rfl) ?_
      refine pl_get (D := D) (ci := 6) (v := .int tt_1) (C := RX6) (T := TX6) (N := 3) hx hb hts hin_X6 hown hK hP ha.1 hf_1 rfl 2 (by decide) (hts (.fieldLink RX6 16 "CryOrder$Silence" "to" "I") (List.mem_cons_of_mem _ (List.mem_append_left _ (List.mem_of_getElem? (i := 2) rfl)))) (fun _ h9 => h9) rfl dX6_covers_18 ?_
      refine bi_gt (zx := (w).toInt) (zy := (tt_1).toInt) (tgt := 28) hx hb dX6_covers_21 (by decide) rfl rfl (fun c_4 => ?_) (fun c_4 => ?_)
      · refine lv_iconst (v := 0) hx hb dX6_covers_28 (by decide) ?_
        exact W.zret (v := 0) hx hb hr rfl (fun t ht hW => ⟨0, rfl, Or.inr ⟨trivial, rfl⟩, ht⟩) (fun q h => by cases h) dX6_covers_29
      · refine lv_iconst (v := 1) hx hb dX6_covers_24 (by decide) ?_
        refine lv_goto (tgt := 29) hx hb dX6_covers_25 (by decide) ?_
        exact W.zret (v := 1) hx hb hr rfl (fun t ht hW => ⟨1, rfl, Or.inl ⟨trivial, rfl⟩, ht⟩) (fun q h => by cases h) dX6_covers_29
