set_option maxHeartbeats 4000000 in
set_option maxRecDepth 100000 in
theorem c_X8_isBelow (l : Launch) (D : va_G) (v : Int32) (w : Int32) : Met l yX8_isBelow wsX8_isBelow ({ frames := 0, cells := 0, slots := 0, locals := 0 }) (va_Pc [.int v, .int w] (wo D [] [])) (vp_Si (fun r => ((0 ≤ (v).toInt ∧ (v).toInt < (w).toInt) ∧ r = 1) ∨ (((v).toInt < 0 ∨ (w).toInt ≤ (v).toInt) ∧ r = 0))) 0 0 (fun _ => False) := by
  refine Met.ofW (cc := cX8_isBelow) (maxL := 2) (ret := (some .boolean)) (by decide) rfl ?_
  intro p e s m args below meth c s₁ B hml hv
  obtain ⟨rfl, hP, hK, hD, hN⟩ := hv
  have hx := B.exec
  have hb := B.bytes
  have hr := B.returns
  have hts := atoms_spec (ws := wsX8_isBelow) B.pre
  have hown : s.vm.findClass RX8 = some m.cls := findClass_of_methodNamed B.named
  have hlocks := B.notSynchronized
  have hl := lv_entry ([.int v, .int w]) (n := 2) (Nat.le_of_ble_eq_true rfl)
  rw [lg_entry_eq]
  generalize (lg_sl ([.int v, .int w]) ++ List.replicate (2 - (lg_sl ([.int v, .int w])).length) Slot.unset).toArray = ls at hl ⊢
  have hl : lv_has ls 2 [(0, .int v), (1, .int w)] := hl
  refine lv_iload_n hx hb dX8_isBelow_0 rfl (lv_at hl 0 rfl) ?_
  refine bz_lt (zx := (v).toInt) (tgt := 13) hx hb dX8_isBelow_1 (by decide) rfl (fun c_1 => ?_) (fun c_1 => ?_)
  · refine lv_iconst (v := 0) hx hb dX8_isBelow_13 (by decide) ?_
    exact W.zret (v := 0) hx hb hr rfl (fun t ht hW => ⟨0, rfl, Or.inr ⟨by omega, rfl⟩, ht⟩) (fun q h => by cases h) dX8_isBelow_14
  · refine lv_iload_n hx hb dX8_isBelow_4 rfl (lv_at hl 0 rfl) ?_
    refine lv_iload_n hx hb dX8_isBelow_5 rfl (lv_at hl 1 rfl) ?_
    refine bi_ge (zx := (v).toInt) (zy := (w).toInt) (tgt := 13) hx hb dX8_isBelow_6 (by decide) rfl rfl (fun c_2 => ?_) (fun c_2 => ?_)
    · refine lv_iconst (v := 0) hx hb dX8_isBelow_13 (by decide) ?_
      exact W.zret (v := 0) hx hb hr rfl (fun t ht hW => ⟨0, rfl, Or.inr ⟨by omega, rfl⟩, ht⟩) (fun q h => by cases h) dX8_isBelow_14
    · refine lv_iconst (v := 1) hx hb dX8_isBelow_9 (by decide) ?_
      refine lv_goto (tgt := 14) hx hb dX8_isBelow_10 (by decide) ?_
      exact W.zret (v := 1) hx hb hr rfl (fun t ht hW => ⟨1, rfl, Or.inl ⟨by omega, rfl⟩, ht⟩) (fun q h => by cases h) dX8_isBelow_14

set_option maxHeartbeats 4000000 in
set_option maxRecDepth 100000 in
theorem c_X0_isHushed (l : Launch) (D : va_G) (X0 : va_W) (L : List Nat) (K : Nat → Nat × Nat) (f : Nat → va_E) (S : Int) (tys : List (ClassId × FieldType)) (a : Nat) (hI : cqI S L K f) (ha : cqIs L K 0 a) : Met l yX0_isHushed wsX0_isHushed ({ frames := 0, cells := 0, slots := 0, locals := 0 }) (va_Pc [.ref a] (wo D tys (X0 ++ va_pl L f))) (vp_Si (fun r => ((True) ∧ r = 1) ∨ ((True) ∧ r = 0))) 0 0 (fun _ => False) := by
  refine Met.ofW (cc := cX0_isHushed) (maxL := 1) (ret := (some .boolean)) (by decide) rfl ?_
  intro p e s m args below meth c s₁ B hml hv
  obtain ⟨rfl, hP, hK, hD, hN⟩ := hv
  have hx := B.exec
  have hb := B.bytes
  have hr := B.returns
  have hts := atoms_spec (ws := wsX0_isHushed) B.pre
  have hown : s.vm.findClass RX0 = some m.cls := findClass_of_methodNamed B.named
  have hlocks := B.notSynchronized
  have hin_X0 : ∀ w ∈ u_ws RX0 TX0 17, w ∈ wsX0_isHushed := fun w h => List.mem_cons_of_mem _ (List.mem_append_right _ (h))
  have hl := lv_entry ([.ref a]) (n := 1) (Nat.le_of_ble_eq_true rfl)
  rw [lg_entry_eq]
  generalize (lg_sl ([.ref a]) ++ List.replicate (1 - (lg_sl ([.ref a])).length) Slot.unset).toArray = ls at hl ⊢
  have hl : lv_has ls 1 [(0, .ref a)] := hl
  refine lv_aload_n hx hb dX0_isHushed_0 rfl (lv_at hl 0 rfl) ?_
  obtain ⟨nu_1, ca_1, so_1, th_1, ma_1, wo_1, lf_1, ld_1, si_1, cp_1, he_1, re_1, sv_1, lt_1, lF_1, sn_1, ab_1, hf_1, hnu_1, hlf_1, hld_1, hsi_1, hcp_1, hsn_1, hab_1⟩ := hI.opA ha
  refine pl_get (D := D) (ci := 0) (v := .int si_1) (C := RX0) (T := TX0) (N := 17) hx hb hts hin_X0 hown hK hP ha.1 hf_1 rfl 8 (by decide) (hts (.fieldLink RX0 49 "CryOrder$Alarm" "silenced" "Z") (List.mem_cons_of_mem _ (List.mem_append_left _ (List.mem_of_getElem? (i := 0) rfl)))) (fun _ h9 => h9) rfl dX0_isHushed_1 ?_
  refine bz_ne (zx := (si_1).toInt) (tgt := 14) hx hb dX0_isHushed_4 (by decide) rfl (fun c_2 => ?_) (fun c_2 => ?_)
  · refine lv_iconst (v := 1) hx hb dX0_isHushed_14 (by decide) ?_
    refine lv_goto (tgt := 19) hx hb dX0_isHushed_15 (by decide) ?_
    exact W.zret (v := 1) hx hb hr rfl (fun t ht hW => ⟨1, rfl, Or.inl ⟨trivial, rfl⟩, ht⟩) (fun q h => by cases h) dX0_isHushed_19
  · refine lv_aload_n hx hb dX0_isHushed_7 rfl (lv_at hl 0 rfl) ?_
    refine pl_get (D := D) (ci := 0) (v := .int cp_1) (C := RX0) (T := TX0) (N := 17) hx hb hts hin_X0 hown hK hP ha.1 hf_1 rfl 9 (by decide) (hts (.fieldLink RX0 53 "CryOrder$Alarm" "capped" "Z") (List.mem_cons_of_mem _ (List.mem_append_left _ (List.mem_of_getElem? (i := 1) rfl)))) (fun _ h9 => h9) rfl dX0_isHushed_8 ?_
    refine bz_eq (zx := (cp_1).toInt) (tgt := 18) hx hb dX0_isHushed_11 (by decide) rfl (fun c_3 => ?_) (fun c_3 => ?_)
    · refine lv_iconst (v := 0) hx hb dX0_isHushed_18 (by decide) ?_
      exact W.zret (v := 0) hx hb hr rfl (fun t ht hW => ⟨0, rfl, Or.inr ⟨trivial, rfl⟩, ht⟩) (fun q h => by cases h) dX0_isHushed_19
    · refine lv_iconst (v := 1) hx hb dX0_isHushed_14 (by decide) ?_
      refine lv_goto (tgt := 19) hx hb dX0_isHushed_15 (by decide) ?_
      exact W.zret (v := 1) hx hb hr rfl (fun t ht hW => ⟨1, rfl, Or.inl ⟨trivial, rfl⟩, ht⟩) (fun q h => by cases h) dX0_isHushed_19

set_option maxHeartbeats 4000000 in
set_option maxRecDepth 100000 in
theorem c_X8_isOfKind (l : Launch) (D : va_G) (X0 : va_W) (L : List Nat) (K : Nat → Nat × Nat) (f : Nat → va_E) (S : Int) (tys : List (ClassId × FieldType)) (a : Nat) (v : Int32) (hI : cqI S L K f) (ha : cqIs L K 0 a) : Met l yX8_isOfKind wsX8_isOfKind ({ frames := 1, cells := 0, slots := 0, locals := 20 }) (va_Pc [.ref a, .int v] (wo D tys (X0 ++ va_pl L f))) (vp_Si (fun r => r = 0 ∨ r = 1)) 0 0 (fun _ => False) := by
  refine Met.ofW (cc := cX8_isOfKind) (maxL := 2) (ret := (some .boolean)) (by decide) rfl ?_
  intro p e s m args below meth c s₁ B hml hv
  obtain ⟨rfl, hP, hK, hD, hN⟩ := hv
  have hx := B.exec
  have hb := B.bytes
  have hr := B.returns
  have hts := atoms_spec (ws := wsX8_isOfKind) B.pre
  have hown : s.vm.findClass RX8 = some m.cls := findClass_of_methodNamed B.named
  have hlocks := B.notSynchronized
  have hin_X0 : ∀ w ∈ u_ws RX0 TX0 17, w ∈ wsX8_isOfKind := fun w h => List.mem_cons_of_mem _ (List.mem_append_right _ (h))
  have hl := lv_entry ([.ref a, .int v]) (n := 2) (Nat.le_of_ble_eq_true rfl)
  rw [lg_entry_eq]
  generalize (lg_sl ([.ref a, .int v]) ++ List.replicate (2 - (lg_sl ([.ref a, .int v])).length) Slot.unset).toArray = ls at hl ⊢
  have hl : lv_has ls 2 [(0, .ref a), (1, .int v)] := hl
  refine lv_iload_n hx hb dX8_isOfKind_0 rfl (lv_at hl 1 rfl) ?_
  rcases (show (v).toInt = 0 ∨ (v).toInt = 1 ∨ (v).toInt = 2 ∨ (v).toInt = 3 ∨ (v).toInt = 4 ∨ (v).toInt = 5 ∨ (v).toInt = 6 ∨ ((v).toInt < 0 ∨ 6 < (v).toInt) by omega) with c_1 | c_1 | c_1 | c_1 | c_1 | c_1 | c_1 | c_1
  · refine lv_tableIn (tgt := 44) hx hb dX8_isOfKind_1 (by omega) (by omega) (by rw [c_1]; rfl) (by decide) ?_
    refine lv_iconst (v := 1) hx hb dX8_isOfKind_44 (by decide) ?_
    exact W.zret (v := 1) hx hb hr rfl (fun t ht hW => ⟨1, rfl, (Or.inr rfl), ht⟩) (fun q h => by cases h) dX8_isOfKind_45
  · refine lv_tableIn (tgt := 46) hx hb dX8_isOfKind_1 (by omega) (by omega) (by rw [c_1]; rfl) (by decide) ?_
    refine lv_aload_n hx hb dX8_isOfKind_46 rfl (lv_at hl 0 rfl) ?_
    obtain ⟨nu_2, ca_2, so_2, th_2, ma_2, wo_2, lf_2, ld_2, si_2, cp_2, he_2, re_2, sv_2, lt_2, lF_2, sn_2, ab_2, hf_2, hnu_2, hlf_2, hld_2, hsi_2, hcp_2, hsn_2, hab_2⟩ := hI.opA ha
    refine pl_get (D := D) (ci := 0) (v := .int re_2) (C := RX0) (T := TX0) (N := 17) hx hb hts hin_X0 hown hK hP ha.1 hf_2 rfl 11 (by decide) (hts (.fieldLink RX8 163 "CryOrder$Alarm" "repeats" "I") (List.mem_cons_of_mem _ (List.mem_append_left _ (List.mem_of_getElem? (i := 0) rfl)))) (fun _ h9 => h9) rfl dX8_isOfKind_47 ?_
    refine bz_le (zx := (re_2).toInt) (tgt := 57) hx hb dX8_isOfKind_50 (by decide) rfl (fun c_3 => ?_) (fun c_3 => ?_)
    · refine lv_iconst (v := 0) hx hb dX8_isOfKind_57 (by decide) ?_
      exact W.zret (v := 0) hx hb hr rfl (fun t ht hW => ⟨0, rfl, (Or.inl rfl), ht⟩) (fun q h => by cases h) dX8_isOfKind_58
    · refine lv_iconst (v := 1) hx hb dX8_isOfKind_53 (by decide) ?_
      refine lv_goto (tgt := 58) hx hb dX8_isOfKind_54 (by decide) ?_
      exact W.zret (v := 1) hx hb hr rfl (fun t ht hW => ⟨1, rfl, (Or.inr rfl), ht⟩) (fun q h => by cases h) dX8_isOfKind_58
  · refine lv_tableIn (tgt := 59) hx hb dX8_isOfKind_1 (by omega) (by omega) (by rw [c_1]; rfl) (by decide) ?_
    refine lv_aload_n hx hb dX8_isOfKind_59 rfl (lv_at hl 0 rfl) ?_
    obtain ⟨nu_4, ca_4, so_4, th_4, ma_4, wo_4, lf_4, ld_4, si_4, cp_4, he_4, re_4, sv_4, lt_4, lF_4, sn_4, ab_4, hf_4, hnu_4, hlf_4, hld_4, hsi_4, hcp_4, hsn_4, hab_4⟩ := hI.opA ha
    refine pl_get (D := D) (ci := 0) (v := .int si_4) (C := RX0) (T := TX0) (N := 17) hx hb hts hin_X0 hown hK hP ha.1 hf_4 rfl 8 (by decide) (hts (.fieldLink RX8 93 "CryOrder$Alarm" "silenced" "Z") (List.mem_cons_of_mem _ (List.mem_append_left _ (List.mem_of_getElem? (i := 1) rfl)))) (fun _ h9 => h9) rfl dX8_isOfKind_60 ?_
    exact W.zret (v := si_4) hx hb hr (by rcases hsi_4 with h9 | h9 <;> (rw [h9]; rfl)) (fun t ht hW => ⟨si_4, rfl, hsi_4, ht⟩) (fun q h => by cases h) dX8_isOfKind_63
  · refine lv_tableIn (tgt := 64) hx hb dX8_isOfKind_1 (by omega) (by omega) (by rw [c_1]; rfl) (by decide) ?_
    refine lv_aload_n hx hb dX8_isOfKind_64 rfl (lv_at hl 0 rfl) ?_
    obtain ⟨nu_5, ca_5, so_5, th_5, ma_5, wo_5, lf_5, ld_5, si_5, cp_5, he_5, re_5, sv_5, lt_5, lF_5, sn_5, ab_5, hf_5, hnu_5, hlf_5, hld_5, hsi_5, hcp_5, hsn_5, hab_5⟩ := hI.opA ha
    refine pl_get (D := D) (ci := 0) (v := .int cp_5) (C := RX0) (T := TX0) (N := 17) hx hb hts hin_X0 hown hK hP ha.1 hf_5 rfl 9 (by decide) (hts (.fieldLink RX8 100 "CryOrder$Alarm" "capped" "Z") (List.mem_cons_of_mem _ (List.mem_append_left _ (List.mem_of_getElem? (i := 2) rfl)))) (fun _ h9 => h9) rfl dX8_isOfKind_65 ?_
    exact W.zret (v := cp_5) hx hb hr (by rcases hcp_5 with h9 | h9 <;> (rw [h9]; rfl)) (fun t ht hW => ⟨cp_5, rfl, hcp_5, ht⟩) (fun q h => by cases h) dX8_isOfKind_68
  · refine lv_tableIn (tgt := 69) hx hb dX8_isOfKind_1 (by omega) (by omega) (by rw [c_1]; rfl) (by decide) ?_
    refine lv_aload_n hx hb dX8_isOfKind_69 rfl (lv_at hl 0 rfl) ?_
    obtain ⟨nu_6, ca_6, so_6, th_6, ma_6, wo_6, lf_6, ld_6, si_6, cp_6, he_6, re_6, sv_6, lt_6, lF_6, sn_6, ab_6, hf_6, hnu_6, hlf_6, hld_6, hsi_6, hcp_6, hsn_6, hab_6⟩ := hI.opA ha
    refine pl_get (D := D) (ci := 0) (v := .int sv_6) (C := RX0) (T := TX0) (N := 17) hx hb hts hin_X0 hown hK hP ha.1 hf_6 rfl 12 (by decide) (hts (.fieldLink RX8 166 "CryOrder$Alarm" "state" "I") (List.mem_cons_of_mem _ (List.mem_append_left _ (List.mem_of_getElem? (i := 3) rfl)))) (fun _ h9 => h9) rfl dX8_isOfKind_70 ?_
    refine lv_iconst (v := 1) hx hb dX8_isOfKind_73 (by decide) ?_
    refine bi_ne (zx := (sv_6).toInt) (zy := 1) (tgt := 81) hx hb dX8_isOfKind_74 (by decide) rfl (by decide) (fun c_7 => ?_) (fun c_7 => ?_)
    · refine lv_iconst (v := 0) hx hb dX8_isOfKind_81 (by decide) ?_
      exact W.zret (v := 0) hx hb hr rfl (fun t ht hW => ⟨0, rfl, (Or.inl rfl), ht⟩) (fun q h => by cases h) dX8_isOfKind_82
    · refine lv_iconst (v := 1) hx hb dX8_isOfKind_77 (by decide) ?_
      refine lv_goto (tgt := 82) hx hb dX8_isOfKind_78 (by decide) ?_
      exact W.zret (v := 1) hx hb hr rfl (fun t ht hW => ⟨1, rfl, (Or.inr rfl), ht⟩) (fun q h => by cases h) dX8_isOfKind_82
  · refine lv_tableIn (tgt := 83) hx hb dX8_isOfKind_1 (by omega) (by omega) (by rw [c_1]; rfl) (by decide) ?_
    refine lv_aload_n hx hb dX8_isOfKind_83 rfl (lv_at hl 0 rfl) ?_
    obtain ⟨nu_8, ca_8, so_8, th_8, ma_8, wo_8, lf_8, ld_8, si_8, cp_8, he_8, re_8, sv_8, lt_8, lF_8, sn_8, ab_8, hf_8, hnu_8, hlf_8, hld_8, hsi_8, hcp_8, hsn_8, hab_8⟩ := hI.opA ha
    refine pl_get (D := D) (ci := 0) (v := .int sv_8) (C := RX0) (T := TX0) (N := 17) hx hb hts hin_X0 hown hK hP ha.1 hf_8 rfl 12 (by decide) (hts (.fieldLink RX8 166 "CryOrder$Alarm" "state" "I") (List.mem_cons_of_mem _ (List.mem_append_left _ (List.mem_of_getElem? (i := 3) rfl)))) (fun _ h9 => h9) rfl dX8_isOfKind_84 ?_
    refine lv_iconst (v := 2) hx hb dX8_isOfKind_87 (by decide) ?_
    refine bi_ne (zx := (sv_8).toInt) (zy := 2) (tgt := 95) hx hb dX8_isOfKind_88 (by decide) rfl (by decide) (fun c_9 => ?_) (fun c_9 => ?_)
    · refine lv_iconst (v := 0) hx hb dX8_isOfKind_95 (by decide) ?_
      exact W.zret (v := 0) hx hb hr rfl (fun t ht hW => ⟨0, rfl, (Or.inl rfl), ht⟩) (fun q h => by cases h) dX8_isOfKind_96
    · refine lv_iconst (v := 1) hx hb dX8_isOfKind_91 (by decide) ?_
      refine lv_goto (tgt := 96) hx hb dX8_isOfKind_92 (by decide) ?_
      exact W.zret (v := 1) hx hb hr rfl (fun t ht hW => ⟨1, rfl, (Or.inr rfl), ht⟩) (fun q h => by cases h) dX8_isOfKind_96
  · refine lv_tableIn (tgt := 97) hx hb dX8_isOfKind_1 (by omega) (by omega) (by rw [c_1]; rfl) (by decide) ?_
    refine lv_aload_n hx hb dX8_isOfKind_97 rfl (lv_at hl 0 rfl) ?_
    obtain ⟨nu_10, ca_10, so_10, th_10, ma_10, wo_10, lf_10, ld_10, si_10, cp_10, he_10, re_10, sv_10, lt_10, lF_10, sn_10, ab_10, hf_10, hnu_10, hlf_10, hld_10, hsi_10, hcp_10, hsn_10, hab_10⟩ := hI.opA ha
    refine pl_get (D := D) (ci := 0) (v := .int sv_10) (C := RX0) (T := TX0) (N := 17) hx hb hts hin_X0 hown hK hP ha.1 hf_10 rfl 12 (by decide) (hts (.fieldLink RX8 166 "CryOrder$Alarm" "state" "I") (List.mem_cons_of_mem _ (List.mem_append_left _ (List.mem_of_getElem? (i := 3) rfl)))) (fun _ h9 => h9) rfl dX8_isOfKind_98 ?_
    refine lv_iconst (v := 1) hx hb dX8_isOfKind_101 (by decide) ?_
    refine bi_ne (zx := (sv_10).toInt) (zy := 1) (tgt := 116) hx hb dX8_isOfKind_102 (by decide) rfl (by decide) (fun c_11 => ?_) (fun c_11 => ?_)
    · refine lv_iconst (v := 0) hx hb dX8_isOfKind_116 (by decide) ?_
      exact W.zret (v := 0) hx hb hr rfl (fun t ht hW => ⟨0, rfl, (Or.inl rfl), ht⟩) (fun q h => by cases h) dX8_isOfKind_117
    · refine lv_aload_n hx hb dX8_isOfKind_105 rfl (lv_at hl 0 rfl) ?_
      refine vp_callSi (wrV (As := []) (rest := []) ⟨hx, hb, hml, hown, hts⟩ hN hK hP hD (c_X0_isHushed l D X0 L K f S tys a hI ha) (cwV 0 hts gX8_isOfKind_X0_isHushed rfl rfl rfl (by decide +kernel) ⟨(Nat.le_of_ble_eq_true rfl), (Nat.le_of_ble_eq_true rfl)⟩) 0 rfl (cq_rcA (X := X0) hI ha) rfl hl.1 rfl (Nat.le_of_ble_eq_true rfl) dX8_isOfKind_106 ⟨(Nat.le_of_ble_eq_true rfl), (Nat.le_of_ble_eq_true rfl)⟩) (fun r_12 h_13 => ?_)
      rcases h_13 with ⟨h_13, rfl⟩ | ⟨h_13, rfl⟩
      · have h_13 : True := h_13
        refine lv_if_eq (tgt := 116) hx hb dX8_isOfKind_109 (by decide) (fun c_ => absurd c_ (by decide)) (fun _ => ?_)
        refine lv_iconst (v := 1) hx hb dX8_isOfKind_112 (by decide) ?_
        refine lv_goto (tgt := 117) hx hb dX8_isOfKind_113 (by decide) ?_
        exact W.zret (v := 1) hx hb hr rfl (fun t ht hW => ⟨1, rfl, (Or.inr rfl), ht⟩) (fun q h => by cases h) dX8_isOfKind_117
      · have h_13 : True := h_13
        refine lv_if_eq (tgt := 116) hx hb dX8_isOfKind_109 (by decide) (fun _ => ?_) (fun c_ => absurd c_ (by decide))
        refine lv_iconst (v := 0) hx hb dX8_isOfKind_116 (by decide) ?_
        exact W.zret (v := 0) hx hb hr rfl (fun t ht hW => ⟨0, rfl, (Or.inl rfl), ht⟩) (fun q h => by cases h) dX8_isOfKind_117
  · refine lv_tableOut (tgt := 118) hx hb dX8_isOfKind_1 (by omega) (by decide) ?_
    refine lv_iconst (v := 0) hx hb dX8_isOfKind_118 (by decide) ?_
    exact W.zret (v := 0) hx hb hr rfl (fun t ht hW => ⟨0, rfl, (Or.inl rfl), ht⟩) (fun q h => by cases h) dX8_isOfKind_119
