set_option maxHeartbeats 4000000 in
set_option maxRecDepth 100000 in
theorem c_X0_repeat (l : Launch) (D : va_G) (sz : Nat) (X0 : va_W) (L : List Nat) (K : Nat → Nat × Nat) (f : Nat → va_E) (S : Int) (tys : List (ClassId × FieldType)) (a : Nat) (v : Int32) (hI : cqI S L K f) (ha : cqIs L K 0 a) : Met l yX0_repeat wsX0_repeat ({ frames := 0, cells := 0, slots := 0, locals := 0 }) (va_Pc [.ref a, .int v] (wz sz D tys (X0 ++ va_pl L f))) (va_Qv (fun (_ : Unit) => True) (fun _ t => ∃ (f9 : Nat → va_E), (wp D [] (va_A (X0 ++ va_pl L f) sz) (X0 ++ va_pl L f9) t ∧ (cqI S L K f9))) (va_A (X0 ++ va_pl L f) sz)) 0 0 (va_A (X0 ++ va_pl L f) sz) := by
  refine Met.ofW (cc := cX0_repeat) (maxL := 2) (ret := none) (by decide) rfl ?_
  intro p e s m args below meth c s₁ B hml hv
  obtain ⟨rfl, hsz, hP, hK, hD0, hN⟩ := hv
  have hx := B.exec
  have hb := B.bytes
  have hr := B.returns
  have hts := atoms_spec (ws := wsX0_repeat) B.pre
  have hown : s.vm.findClass RX0 = some m.cls := findClass_of_methodNamed B.named
  have hlocks := B.notSynchronized
  subst hsz
  have hD := hD0.self (sz := s.heap.size)
  generalize hAe : va_A (X0 ++ va_pl L f) s.heap.size = A at hD ⊢
  have hA : ∀ q : Nat, s.heap.size ≤ q → A q := fun q h => by rw [← hAe]; exact Or.inr h
  have hS : va_S A s.heap s.heap [] := va_S.rf
  have hin_X0 : ∀ w ∈ u_ws RX0 TX0 17, w ∈ wsX0_repeat := by decide +kernel
  have hl := lv_entry ([.ref a, .int v]) (n := 2) (Nat.le_of_ble_eq_true rfl)
  rw [lg_entry_eq]
  generalize (lg_sl ([.ref a, .int v]) ++ List.replicate (2 - (lg_sl ([.ref a, .int v])).length) Slot.unset).toArray = ls at hl ⊢
  have hl : lv_has ls 2 [(0, .ref a), (1, .int v)] := hl
  refine lv_aload_n hx hb dX0_repeat_0 rfl (lv_at hl 0 rfl) ?_
  refine lv_dup hx hb dX0_repeat_1 rfl ?_
  obtain ⟨nu_1, ca_1, so_1, th_1, ma_1, wo_1, lf_1, ld_1, si_1, cp_1, he_1, re_1, sv_1, lt_1, lF_1, sn_1, ab_1, hf_1, hnu_1, hlf_1, hld_1, hsi_1, hcp_1, hsn_1, hab_1⟩ := hI.opA ha
  refine pl_get (D := D) (ci := 0) (v := .int re_1) (C := RX0) (T := TX0) (N := 17) hx hb hts hin_X0 hown hK hP ha.1 hf_1 rfl 11 (by decide) (hts (.fieldLink RX0 63 "CryOrder$Alarm" "repeats" "I") (by decide +kernel)) (fun _ h9 => h9) rfl dX0_repeat_2 ?_
  refine lv_iconst (v := 1) hx hb dX0_repeat_5 (by decide) ?_
  refine lv_iadd hx hb dX0_repeat_6 ?_
  refine lv_topi (fun z_2 ez_2 => ?_)
  have tz_2 := ad_toInt (zx := (re_1).toInt) (zy := 1) ez_2 rfl (by decide)
  refine pl_put (D := D) (ci := 0) (v := .int z_2) (ty := .int) (C := RX0) (T := TX0) (N := 17) hx hb hts hin_X0 tyX0 tyX0_ok nmX0 hown hK hP hD hS ha.1 hf_1 rfl 11 (by decide) (hts (.fieldLink RX0 63 "CryOrder$Alarm" "repeats" "I") (by decide +kernel)) (fun _ h9 => h9) rfl (by decide +kernel) rfl rfl (Nat.le_of_ble_eq_true rfl) dX0_repeat_7 (fun H_3 locs hP hD hS => ?_)
  obtain ⟨f_4, ef_4⟩ : ∃ g, g = va_up f a (.inr (0, [.int nu_1, .int ca_1, .int so_1, .int th_1, .int ma_1, .int wo_1, .ref lf_1, .ref ld_1, .int si_1, .int cp_1, .int he_1, .int z_2, .int sv_1, .int lt_1, .int lF_1, va_rf sn_1, va_rf ab_1])) := ⟨_, rfl⟩
  have hP : va_P D vwCl (X0 ++ va_pl L f_4) H_3 := by rw [ef_4]; exact hP
  have hD : va_D A (X0 ++ va_pl L f_4) := by rw [ef_4]; exact hD
  have hI : cqI S L K f_4 := hI.ptA ha ef_4 ⟨_, _, _, _, _, _, _, _, _, _, _, _, _, _, _, sn_1, ab_1, rfl, hnu_1, hlf_1, hld_1, hsi_1, hcp_1, hsn_1, hab_1⟩
  have hf_1 : f_4 a = .inr (0, [.int nu_1, .int ca_1, .int so_1, .int th_1, .int ma_1, .int wo_1, .ref lf_1, .ref ld_1, .int si_1, .int cp_1, .int he_1, .int z_2, .int sv_1, .int lt_1, .int lF_1, va_rf sn_1, va_rf ab_1]) := cq_same ef_4
  refine lv_aload_n hx hb dX0_repeat_10 rfl (lv_at hl 0 rfl) ?_
  refine lv_iload_n hx hb dX0_repeat_11 rfl (lv_at hl 1 rfl) ?_
  refine pl_put (D := D) (ci := 0) (v := .int v) (ty := .int) (C := RX0) (T := TX0) (N := 17) hx hb hts hin_X0 tyX0 tyX0_ok nmX0 hown hK hP hD hS ha.1 hf_1 rfl 10 (by decide) (hts (.fieldLink RX0 46 "CryOrder$Alarm" "heardLast" "I") (by decide +kernel)) (fun _ h9 => h9) rfl (by decide +kernel) rfl rfl (Nat.le_of_ble_eq_true rfl) dX0_repeat_12 (fun H_5 locs hP hD hS => ?_)
  obtain ⟨f_6, ef_6⟩ : ∃ g, g = va_up f_4 a (.inr (0, [.int nu_1, .int ca_1, .int so_1, .int th_1, .int ma_1, .int wo_1, .ref lf_1, .ref ld_1, .int si_1, .int cp_1, .int v, .int z_2, .int sv_1, .int lt_1, .int lF_1, va_rf sn_1, va_rf ab_1])) := ⟨_, rfl⟩
  have hP : va_P D vwCl (X0 ++ va_pl L f_6) H_5 := by rw [ef_6]; exact hP
  have hD : va_D A (X0 ++ va_pl L f_6) := by rw [ef_6]; exact hD
  have hI : cqI S L K f_6 := hI.ptA ha ef_6 ⟨_, _, _, _, _, _, _, _, _, _, _, _, _, _, _, sn_1, ab_1, rfl, hnu_1, hlf_1, hld_1, hsi_1, hcp_1, hsn_1, hab_1⟩
  have hf_1 : f_6 a = .inr (0, [.int nu_1, .int ca_1, .int so_1, .int th_1, .int ma_1, .int wo_1, .ref lf_1, .ref ld_1, .int si_1, .int cp_1, .int v, .int z_2, .int sv_1, .int lt_1, .int lF_1, va_rf sn_1, va_rf ab_1]) := cq_same ef_6
  refine W.widen (k := 0) (n := 0) (Nat.le_of_ble_eq_true rfl) (Nat.le_of_ble_eq_true rfl) ?_
  exact W.vret hx hb hr (fun t ht hW => ⟨⟨(), rfl, trivial, f_6, ⟨by rw [ht]; exact hP, va_K.moved hW.alike (hK.sub (tys' := []) [] rfl), hD⟩, hI⟩, hS.F ht⟩) hS.2.2 dX0_repeat_15

set_option maxHeartbeats 4000000 in
set_option maxRecDepth 100000 in
theorem c_X0_hear (l : Launch) (D : va_G) (sz : Nat) (X0 : va_W) (L : List Nat) (K : Nat → Nat × Nat) (f : Nat → va_E) (S : Int) (tys : List (ClassId × FieldType)) (a : Nat) (v : Int32) (w : Int32) (hI : cqI S L K f) (ha : cqIs L K 0 a) : Met l yX0_hear wsX0_hear ({ frames := 1, cells := 0, slots := 0, locals := 20 }) (va_Pc [.ref a, .int v, .int w] (wz sz D tys (X0 ++ va_pl L f))) (va_Qv (fun (_ : Unit) => True) (fun _ t => ∃ (f9 : Nat → va_E), (wp D [] (va_A (X0 ++ va_pl L f) sz) (X0 ++ va_pl L f9) t ∧ (cqI S L K f9))) (va_A (X0 ++ va_pl L f) sz)) 0 0 (va_A (X0 ++ va_pl L f) sz) := by
  refine Met.ofW (cc := cX0_hear) (maxL := 3) (ret := none) (by decide) rfl ?_
  intro p e s m args below meth c s₁ B hml hv
  obtain ⟨rfl, hsz, hP, hK, hD0, hN⟩ := hv
  have hx := B.exec
  have hb := B.bytes
  have hr := B.returns
  have hts := atoms_spec (ws := wsX0_hear) B.pre
  have hown : s.vm.findClass RX0 = some m.cls := findClass_of_methodNamed B.named
  have hlocks := B.notSynchronized
  subst hsz
  have hD := hD0.self (sz := s.heap.size)
  generalize hAe : va_A (X0 ++ va_pl L f) s.heap.size = A at hD ⊢
  have hA : ∀ q : Nat, s.heap.size ≤ q → A q := fun q h => by rw [← hAe]; exact Or.inr h
  have hS : va_S A s.heap s.heap [] := va_S.rf
  have hin_X0 : ∀ w ∈ u_ws RX0 TX0 17, w ∈ wsX0_hear := by decide +kernel
  have hl := lv_entry ([.ref a, .int v, .int w]) (n := 3) (Nat.le_of_ble_eq_true rfl)
  rw [lg_entry_eq]
  generalize (lg_sl ([.ref a, .int v, .int w]) ++ List.replicate (3 - (lg_sl ([.ref a, .int v, .int w])).length) Slot.unset).toArray = ls at hl ⊢
  have hl : lv_has ls 3 [(0, .ref a), (1, .int v), (2, .int w)] := hl
  refine lv_iload_n hx hb dX0_hear_0 rfl (lv_at hl 2 rfl) ?_
  refine bz_eq (zx := (w).toInt) (tgt := 19) hx hb dX0_hear_1 (by decide) rfl (fun c_1 => ?_) (fun c_1 => ?_)
  · refine lv_aload_n hx hb dX0_hear_19 rfl (lv_at hl 0 rfl) ?_
    refine lv_dup hx hb dX0_hear_20 rfl ?_
    obtain ⟨nu_2, ca_2, so_2, th_2, ma_2, wo_2, lf_2, ld_2, si_2, cp_2, he_2, re_2, sv_2, lt_2, lF_2, sn_2, ab_2, hf_2, hnu_2, hlf_2, hld_2, hsi_2, hcp_2, hsn_2, hab_2⟩ := hI.opA ha
    refine pl_get (D := D) (ci := 0) (v := .int lF_2) (C := RX0) (T := TX0) (N := 17) hx hb hts hin_X0 hown hK hP ha.1 hf_2 rfl 14 (by decide) (hts (.fieldLink RX0 69 "CryOrder$Alarm" "lookersForFalse" "I") (by decide +kernel)) (fun _ h9 => h9) rfl dX0_hear_21 ?_
    refine lv_iconst (v := 1) hx hb dX0_hear_24 (by decide) ?_
    refine lv_iload_n hx hb dX0_hear_25 rfl (lv_at hl 1 rfl) ?_
    refine lv_ishl hx hb dX0_hear_26 ?_
    refine lv_topi (fun z_3 ez_3 => ?_)
    refine lv_ior hx hb dX0_hear_27 ?_
    refine lv_topi (fun z_4 ez_4 => ?_)
    refine pl_put (D := D) (ci := 0) (v := .int z_4) (ty := .int) (C := RX0) (T := TX0) (N := 17) hx hb hts hin_X0 tyX0 tyX0_ok nmX0 hown hK hP hD hS ha.1 hf_2 rfl 14 (by decide) (hts (.fieldLink RX0 69 "CryOrder$Alarm" "lookersForFalse" "I") (by decide +kernel)) (fun _ h9 => h9) rfl (by decide +kernel) rfl rfl (Nat.le_of_ble_eq_true rfl) dX0_hear_28 (fun H_5 locs hP hD hS => ?_)
    obtain ⟨f_6, ef_6⟩ : ∃ g, g = va_up f a (.inr (0, [.int nu_2, .int ca_2, .int so_2, .int th_2, .int ma_2, .int wo_2, .ref lf_2, .ref ld_2, .int si_2, .int cp_2, .int he_2, .int re_2, .int sv_2, .int lt_2, .int z_4, va_rf sn_2, va_rf ab_2])) := ⟨_, rfl⟩
    have hP : va_P D vwCl (X0 ++ va_pl L f_6) H_5 := by rw [ef_6]; exact hP
    have hD : va_D A (X0 ++ va_pl L f_6) := by rw [ef_6]; exact hD
    have hI : cqI S L K f_6 := hI.ptA ha ef_6 ⟨_, _, _, _, _, _, _, _, _, _, _, _, _, _, _, sn_2, ab_2, rfl, hnu_2, hlf_2, hld_2, hsi_2, hcp_2, hsn_2, hab_2⟩
    have hf_2 : f_6 a = .inr (0, [.int nu_2, .int ca_2, .int so_2, .int th_2, .int ma_2, .int wo_2, .ref lf_2, .ref ld_2, .int si_2, .int cp_2, .int he_2, .int re_2, .int sv_2, .int lt_2, .int z_4, va_rf sn_2, va_rf ab_2]) := cq_same ef_6
    refine lv_aload_n hx hb dX0_hear_31 rfl (lv_at hl 0 rfl) ?_
    refine pl_get (D := D) (ci := 0) (v := .int lt_2) (C := RX0) (T := TX0) (N := 17) hx hb hts hin_X0 hown hK hP ha.1 hf_2 rfl 13 (by decide) (hts (.fieldLink RX0 66 "CryOrder$Alarm" "lookersForTrue" "I") (by decide +kernel)) (fun _ h9 => h9) rfl dX0_hear_32 ?_
    refine vp_callSi (zrS (As := [.int lt_2]) (rest := []) (wc := []) ⟨hx, hb, hml, hown, hts⟩ hN hK hP hD (c_J6_bitCount_0f7a4 l D lt_2 ) (va_cwS 1 hts gX0_hear_J6_bitCount_0f7a4 rfl rfl rfl (by decide +kernel) ⟨(Nat.le_of_ble_eq_true rfl), (Nat.le_of_ble_eq_true rfl)⟩) [] [] rfl rfl (by decide) rfl hl.1 rfl (Nat.le_of_ble_eq_true rfl) dX0_hear_35 ⟨(Nat.le_of_ble_eq_true rfl), (Nat.le_of_ble_eq_true rfl)⟩) (fun r_7 h_8 => ?_)
    refine lv_iconst (v := 2) hx hb dX0_hear_38 (by decide) ?_
    refine bi_lt (zx := (r_7).toInt) (zy := 2) (tgt := 50) hx hb dX0_hear_39 (by decide) rfl (by decide) (fun c_9 => ?_) (fun c_9 => ?_)
    · refine lv_aload_n hx hb dX0_hear_50 rfl (lv_at hl 0 rfl) ?_
      refine pl_get (D := D) (ci := 0) (v := .int z_4) (C := RX0) (T := TX0) (N := 17) hx hb hts hin_X0 hown hK hP ha.1 hf_2 rfl 14 (by decide) (hts (.fieldLink RX0 69 "CryOrder$Alarm" "lookersForFalse" "I") (by decide +kernel)) (fun _ h9 => h9) rfl dX0_hear_51 ?_
      refine vp_callSi (zrS (As := [.int z_4]) (rest := []) (wc := []) ⟨hx, hb, hml, hown, hts⟩ hN hK hP hD (c_J6_bitCount_0f7a4 l D z_4 ) (va_cwS 1 hts gX0_hear_J6_bitCount_0f7a4 rfl rfl rfl (by decide +kernel) ⟨(Nat.le_of_ble_eq_true rfl), (Nat.le_of_ble_eq_true rfl)⟩) [] [] rfl rfl (by decide) rfl hl.1 rfl (Nat.le_of_ble_eq_true rfl) dX0_hear_54 ⟨(Nat.le_of_ble_eq_true rfl), (Nat.le_of_ble_eq_true rfl)⟩) (fun r_10 h_11 => ?_)
      refine lv_iconst (v := 2) hx hb dX0_hear_57 (by decide) ?_
      refine bi_lt (zx := (r_10).toInt) (zy := 2) (tgt := 66) hx hb dX0_hear_58 (by decide) rfl (by decide) (fun c_12 => ?_) (fun c_12 => ?_)
      · refine W.widen (k := 0) (n := 0) (Nat.le_of_ble_eq_true rfl) (Nat.le_of_ble_eq_true rfl) ?_
        exact W.vret hx hb hr (fun t ht hW => ⟨⟨(), rfl, trivial, f_6, ⟨by rw [ht]; exact hP, va_K.moved hW.alike (hK.sub (tys' := []) [] rfl), hD⟩, hI⟩, hS.F ht⟩) hS.2.2 dX0_hear_66
      · refine lv_aload_n hx hb dX0_hear_61 rfl (lv_at hl 0 rfl) ?_
        refine lv_iconst (v := 2) hx hb dX0_hear_62 (by decide) ?_
        refine pl_put (D := D) (ci := 0) (v := .int 2) (ty := .int) (C := RX0) (T := TX0) (N := 17) hx hb hts hin_X0 tyX0 tyX0_ok nmX0 hown hK hP hD hS ha.1 hf_2 rfl 12 (by decide) (hts (.fieldLink RX0 9 "CryOrder$Alarm" "state" "I") (by decide +kernel)) (fun _ h9 => h9) rfl (by decide +kernel) rfl rfl (Nat.le_of_ble_eq_true rfl) dX0_hear_63 (fun H_13 locs hP hD hS => ?_)
        obtain ⟨f_14, ef_14⟩ : ∃ g, g = va_up f_6 a (.inr (0, [.int nu_2, .int ca_2, .int so_2, .int th_2, .int ma_2, .int wo_2, .ref lf_2, .ref ld_2, .int si_2, .int cp_2, .int he_2, .int re_2, .int 2, .int lt_2, .int z_4, va_rf sn_2, va_rf ab_2])) := ⟨_, rfl⟩
        have hP : va_P D vwCl (X0 ++ va_pl L f_14) H_13 := by rw [ef_14]; exact hP
        have hD : va_D A (X0 ++ va_pl L f_14) := by rw [ef_14]; exact hD
        have hI : cqI S L K f_14 := hI.ptA ha ef_14 ⟨_, _, _, _, _, _, _, _, _, _, _, _, _, _, _, sn_2, ab_2, rfl, hnu_2, hlf_2, hld_2, hsi_2, hcp_2, hsn_2, hab_2⟩
        have hf_2 : f_14 a = .inr (0, [.int nu_2, .int ca_2, .int so_2, .int th_2, .int ma_2, .int wo_2, .ref lf_2, .ref ld_2, .int si_2, .int cp_2, .int he_2, .int re_2, .int 2, .int lt_2, .int z_4, va_rf sn_2, va_rf ab_2]) := cq_same ef_14
        refine W.widen (k := 0) (n := 0) (Nat.le_of_ble_eq_true rfl) (Nat.le_of_ble_eq_true rfl) ?_
        exact W.vret hx hb hr (fun t ht hW => ⟨⟨(), rfl, trivial, f_14, ⟨by rw [ht]; exact hP, va_K.moved hW.alike (hK.sub (tys' := []) [] rfl), hD⟩, hI⟩, hS.F ht⟩) hS.2.2 dX0_hear_66
    · refine lv_aload_n hx hb dX0_hear_42 rfl (lv_at hl 0 rfl) ?_
      refine lv_iconst (v := 1) hx hb dX0_hear_43 (by decide) ?_
      refine pl_put (D := D) (ci := 0) (v := .int 1) (ty := .int) (C := RX0) (T := TX0) (N := 17) hx hb hts hin_X0 tyX0 tyX0_ok nmX0 hown hK hP hD hS ha.1 hf_2 rfl 12 (by decide) (hts (.fieldLink RX0 9 "CryOrder$Alarm" "state" "I") (by decide +kernel)) (fun _ h9 => h9) rfl (by decide +kernel) rfl rfl (Nat.le_of_ble_eq_true rfl) dX0_hear_44 (fun H_15 locs hP hD hS => ?_)
      obtain ⟨f_16, ef_16⟩ : ∃ g, g = va_up f_6 a (.inr (0, [.int nu_2, .int ca_2, .int so_2, .int th_2, .int ma_2, .int wo_2, .ref lf_2, .ref ld_2, .int si_2, .int cp_2, .int he_2, .int re_2, .int 1, .int lt_2, .int z_4, va_rf sn_2, va_rf ab_2])) := ⟨_, rfl⟩
      have hP : va_P D vwCl (X0 ++ va_pl L f_16) H_15 := by rw [ef_16]; exact hP
      have hD : va_D A (X0 ++ va_pl L f_16) := by rw [ef_16]; exact hD
      have hI : cqI S L K f_16 := hI.ptA ha ef_16 ⟨_, _, _, _, _, _, _, _, _, _, _, _, _, _, _, sn_2, ab_2, rfl, hnu_2, hlf_2, hld_2, hsi_2, hcp_2, hsn_2, hab_2⟩
      have hf_2 : f_16 a = .inr (0, [.int nu_2, .int ca_2, .int so_2, .int th_2, .int ma_2, .int wo_2, .ref lf_2, .ref ld_2, .int si_2, .int cp_2, .int he_2, .int re_2, .int 1, .int lt_2, .int z_4, va_rf sn_2, va_rf ab_2]) := cq_same ef_16
      refine lv_goto (tgt := 66) hx hb dX0_hear_47 (by decide) ?_
      refine W.widen (k := 0) (n := 0) (Nat.le_of_ble_eq_true rfl) (Nat.le_of_ble_eq_true rfl) ?_
      exact W.vret hx hb hr (fun t ht hW => ⟨⟨(), rfl, trivial, f_16, ⟨by rw [ht]; exact hP, va_K.moved hW.alike (hK.sub (tys' := []) [] rfl), hD⟩, hI⟩, hS.F ht⟩) hS.2.2 dX0_hear_66
  · refine lv_aload_n hx hb dX0_hear_4 rfl (lv_at hl 0 rfl) ?_
    refine lv_dup hx hb dX0_hear_5 rfl ?_
    obtain ⟨nu_17, ca_17, so_17, th_17, ma_17, wo_17, lf_17, ld_17, si_17, cp_17, he_17, re_17, sv_17, lt_17, lF_17, sn_17, ab_17, hf_17, hnu_17, hlf_17, hld_17, hsi_17, hcp_17, hsn_17, hab_17⟩ := hI.opA ha
    refine pl_get (D := D) (ci := 0) (v := .int lt_17) (C := RX0) (T := TX0) (N := 17) hx hb hts hin_X0 hown hK hP ha.1 hf_17 rfl 13 (by decide) (hts (.fieldLink RX0 66 "CryOrder$Alarm" "lookersForTrue" "I") (by decide +kernel)) (fun _ h9 => h9) rfl dX0_hear_6 ?_
    refine lv_iconst (v := 1) hx hb dX0_hear_9 (by decide) ?_
    refine lv_iload_n hx hb dX0_hear_10 rfl (lv_at hl 1 rfl) ?_
    refine lv_ishl hx hb dX0_hear_11 ?_
    refine lv_topi (fun z_18 ez_18 => ?_)
    refine lv_ior hx hb dX0_hear_12 ?_
    refine lv_topi (fun z_19 ez_19 => ?_)
    refine pl_put (D := D) (ci := 0) (v := .int z_19) (ty := .int) (C := RX0) (T := TX0) (N := 17) hx hb hts hin_X0 tyX0 tyX0_ok nmX0 hown hK hP hD hS ha.1 hf_17 rfl 13 (by decide) (hts (.fieldLink RX0 66 "CryOrder$Alarm" "lookersForTrue" "I") (by decide +kernel)) (fun _ h9 => h9) rfl (by decide +kernel) rfl rfl (Nat.le_of_ble_eq_true rfl) dX0_hear_13 (fun H_20 locs hP hD hS => ?_)
    obtain ⟨f_21, ef_21⟩ : ∃ g, g = va_up f a (.inr (0, [.int nu_17, .int ca_17, .int so_17, .int th_17, .int ma_17, .int wo_17, .ref lf_17, .ref ld_17, .int si_17, .int cp_17, .int he_17, .int re_17, .int sv_17, .int z_19, .int lF_17, va_rf sn_17, va_rf ab_17])) := ⟨_, rfl⟩
    have hP : va_P D vwCl (X0 ++ va_pl L f_21) H_20 := by rw [ef_21]; exact hP
    have hD : va_D A (X0 ++ va_pl L f_21) := by rw [ef_21]; exact hD
    have hI : cqI S L K f_21 := hI.ptA ha ef_21 ⟨_, _, _, _, _, _, _, _, _, _, _, _, _, _, _, sn_17, ab_17, rfl, hnu_17, hlf_17, hld_17, hsi_17, hcp_17, hsn_17, hab_17⟩
    have hf_17 : f_21 a = .inr (0, [.int nu_17, .int ca_17, .int so_17, .int th_17, .int ma_17, .int wo_17, .ref lf_17, .ref ld_17, .int si_17, .int cp_17, .int he_17, .int re_17, .int sv_17, .int z_19, .int lF_17, va_rf sn_17, va_rf ab_17]) := cq_same ef_21
    refine lv_goto (tgt := 31) hx hb dX0_hear_16 (by decide) ?_
    refine lv_aload_n hx hb dX0_hear_31 rfl (lv_at hl 0 rfl) ?_
    refine pl_get (D := D) (ci := 0) (v := .int z_19) (C := RX0) (T := TX0) (N := 17) hx hb hts hin_X0 hown hK hP ha.1 hf_17 rfl 13 (by decide) (hts (.fieldLink RX0 66 "CryOrder$Alarm" "lookersForTrue" "I") (by decide +kernel)) (fun _ h9 => h9) rfl dX0_hear_32 ?_
    refine vp_callSi (zrS (As := [.int z_19]) (rest := []) (wc := []) ⟨hx, hb, hml, hown, hts⟩ hN hK hP hD (c_J6_bitCount_0f7a4 l D z_19 ) (va_cwS 1 hts gX0_hear_J6_bitCount_0f7a4 rfl rfl rfl (by decide +kernel) ⟨(Nat.le_of_ble_eq_true rfl), (Nat.le_of_ble_eq_true rfl)⟩) [] [] rfl rfl (by decide) rfl hl.1 rfl (Nat.le_of_ble_eq_true rfl) dX0_hear_35 ⟨(Nat.le_of_ble_eq_true rfl), (Nat.le_of_ble_eq_true rfl)⟩) (fun r_22 h_23 => ?_)
    refine lv_iconst (v := 2) hx hb dX0_hear_38 (by decide) ?_
    refine bi_lt (zx := (r_22).toInt) (zy := 2) (tgt := 50) hx hb dX0_hear_39 (by decide) rfl (by decide) (fun c_24 => ?_) (fun c_24 => ?_)
    · refine lv_aload_n hx hb dX0_hear_50 rfl (lv_at hl 0 rfl) ?_
      refine pl_get (D := D) (ci := 0) (v := .int lF_17) (C := RX0) (T := TX0) (N := 17) hx hb hts hin_X0 hown hK hP ha.1 hf_17 rfl 14 (by decide) (hts (.fieldLink RX0 69 "CryOrder$Alarm" "lookersForFalse" "I") (by decide +kernel)) (fun _ h9 => h9) rfl dX0_hear_51 ?_
      refine vp_callSi (zrS (As := [.int lF_17]) (rest := []) (wc := []) ⟨hx, hb, hml, hown, hts⟩ hN hK hP hD (c_J6_bitCount_0f7a4 l D lF_17 ) (va_cwS 1 hts gX0_hear_J6_bitCount_0f7a4 rfl rfl rfl (by decide +kernel) ⟨(Nat.le_of_ble_eq_true rfl), (Nat.le_of_ble_eq_true rfl)⟩) [] [] rfl rfl (by decide) rfl hl.1 rfl (Nat.le_of_ble_eq_true rfl) dX0_hear_54 ⟨(Nat.le_of_ble_eq_true rfl), (Nat.le_of_ble_eq_true rfl)⟩) (fun r_25 h_26 => ?_)
      refine lv_iconst (v := 2) hx hb dX0_hear_57 (by decide) ?_
      refine bi_lt (zx := (r_25).toInt) (zy := 2) (tgt := 66) hx hb dX0_hear_58 (by decide) rfl (by decide) (fun c_27 => ?_) (fun c_27 => ?_)
      · refine W.widen (k := 0) (n := 0) (Nat.le_of_ble_eq_true rfl) (Nat.le_of_ble_eq_true rfl) ?_
        exact W.vret hx hb hr (fun t ht hW => ⟨⟨(), rfl, trivial, f_21, ⟨by rw [ht]; exact hP, va_K.moved hW.alike (hK.sub (tys' := []) [] rfl), hD⟩, hI⟩, hS.F ht⟩) hS.2.2 dX0_hear_66
      · refine lv_aload_n hx hb dX0_hear_61 rfl (lv_at hl 0 rfl) ?_
        refine lv_iconst (v := 2) hx hb dX0_hear_62 (by decide) ?_
        refine pl_put (D := D) (ci := 0) (v := .int 2) (ty := .int) (C := RX0) (T := TX0) (N := 17) hx hb hts hin_X0 tyX0 tyX0_ok nmX0 hown hK hP hD hS ha.1 hf_17 rfl 12 (by decide) (hts (.fieldLink RX0 9 "CryOrder$Alarm" "state" "I") (by decide +kernel)) (fun _ h9 => h9) rfl (by decide +kernel) rfl rfl (Nat.le_of_ble_eq_true rfl) dX0_hear_63 (fun H_28 locs hP hD hS => ?_)
        obtain ⟨f_29, ef_29⟩ : ∃ g, g = va_up f_21 a (.inr (0, [.int nu_17, .int ca_17, .int so_17, .int th_17, .int ma_17, .int wo_17, .ref lf_17, .ref ld_17, .int si_17, .int cp_17, .int he_17, .int re_17, .int 2, .int z_19, .int lF_17, va_rf sn_17, va_rf ab_17])) := ⟨_, rfl⟩
        have hP : va_P D vwCl (X0 ++ va_pl L f_29) H_28 := by rw [ef_29]; exact hP
        have hD : va_D A (X0 ++ va_pl L f_29) := by rw [ef_29]; exact hD
        have hI : cqI S L K f_29 := hI.ptA ha ef_29 ⟨_, _, _, _, _, _, _, _, _, _, _, _, _, _, _, sn_17, ab_17, rfl, hnu_17, hlf_17, hld_17, hsi_17, hcp_17, hsn_17, hab_17⟩
        have hf_17 : f_29 a = .inr (0, [.int nu_17, .int ca_17, .int so_17, .int th_17, .int ma_17, .int wo_17, .ref lf_17, .ref ld_17, .int si_17, .int cp_17, .int he_17, .int re_17, .int 2, .int z_19, .int lF_17, va_rf sn_17, va_rf ab_17]) := cq_same ef_29
        refine W.widen (k := 0) (n := 0) (Nat.le_of_ble_eq_true rfl) (Nat.le_of_ble_eq_true rfl) ?_
        exact W.vret hx hb hr (fun t ht hW => ⟨⟨(), rfl, trivial, f_29, ⟨by rw [ht]; exact hP, va_K.moved hW.alike (hK.sub (tys' := []) [] rfl), hD⟩, hI⟩, hS.F ht⟩) hS.2.2 dX0_hear_66
    · refine lv_aload_n hx hb dX0_hear_42 rfl (lv_at hl 0 rfl) ?_
      refine lv_iconst (v := 1) hx hb dX0_hear_43 (by decide) ?_
      refine pl_put (D := D) (ci := 0) (v := .int 1) (ty := .int) (C := RX0) (T := TX0) (N := 17) hx hb hts hin_X0 tyX0 tyX0_ok nmX0 hown hK hP hD hS ha.1 hf_17 rfl 12 (by decide) (hts (.fieldLink RX0 9 "CryOrder$Alarm" "state" "I") (by decide +kernel)) (fun _ h9 => h9) rfl (by decide +kernel) rfl rfl (Nat.le_of_ble_eq_true rfl) dX0_hear_44 (fun H_30 locs hP hD hS => ?_)
      obtain ⟨f_31, ef_31⟩ : ∃ g, g = va_up f_21 a (.inr (0, [.int nu_17, .int ca_17, .int so_17, .int th_17, .int ma_17, .int wo_17, .ref lf_17, .ref ld_17, .int si_17, .int cp_17, .int he_17, .int re_17, .int 1, .int z_19, .int lF_17, va_rf sn_17, va_rf ab_17])) := ⟨_, rfl⟩
      have hP : va_P D vwCl (X0 ++ va_pl L f_31) H_30 := by rw [ef_31]; exact hP
      have hD : va_D A (X0 ++ va_pl L f_31) := by rw [ef_31]; exact hD
      have hI : cqI S L K f_31 := hI.ptA ha ef_31 ⟨_, _, _, _, _, _, _, _, _, _, _, _, _, _, _, sn_17, ab_17, rfl, hnu_17, hlf_17, hld_17, hsi_17, hcp_17, hsn_17, hab_17⟩
      have hf_17 : f_31 a = .inr (0, [.int nu_17, .int ca_17, .int so_17, .int th_17, .int ma_17, .int wo_17, .ref lf_17, .ref ld_17, .int si_17, .int cp_17, .int he_17, .int re_17, .int 1, .int z_19, .int lF_17, va_rf sn_17, va_rf ab_17]) := cq_same ef_31
      refine lv_goto (tgt := 66) hx hb dX0_hear_47 (by decide) ?_
      refine W.widen (k := 0) (n := 0) (Nat.le_of_ble_eq_true rfl) (Nat.le_of_ble_eq_true rfl) ?_
      exact W.vret hx hb hr (fun t ht hW => ⟨⟨(), rfl, trivial, f_31, ⟨by rw [ht]; exact hP, va_K.moved hW.alike (hK.sub (tys' := []) [] rfl), hD⟩, hI⟩, hS.F ht⟩) hS.2.2 dX0_hear_66
