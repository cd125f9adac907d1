set_option maxHeartbeats 4000000 in
set_option maxRecDepth 100000 in
theorem c_X0_repeatF (l : Launch) (D : va_G) (sz : Nat) (X0 : va_W) (L : List Nat) (K : Nat → Nat × Nat) (f : Nat → va_E) (S : Int) (tys : List (ClassId × FieldType)) (a : Nat) (v : Int32) (hI : cqI S L K f) (ha : cqIs L K 0 a) : Met l yX0_repeat wsX0_repeat ({ frames := 0, cells := 0, slots := 0, locals := 0 }) (va_Pc [.ref a, .int v] (wz sz D tys (X0 ++ va_pl L f))) (va_Qv (fun (_ : Unit) => True) (fun _ t => ∃ (f9 : Nat → va_E), (wp D [] (va_A (X0 ++ va_pl L f) sz) (X0 ++ va_pl L f9) t ∧ (cqI S L K f9) ∧ (cqT [(0, 10), (0, 11)] L K f f9) ∧ (cqO a f f9) ∧ (cqF (f9 a) 10 = (v).toInt) ∧ (cqF (f9 a) 11 = incI (cqF (f a) 11)))) (va_A (X0 ++ va_pl L f) sz)) 0 0 (va_A (X0 ++ va_pl L f) sz) := by
  refine Met.ofW (cc := cX0_repeat) (maxL := 2) (ret := none) (by decide) rfl ?_
  intro p e s m args below meth c s₁ B hml hv
  obtain ⟨rfl, hsz, hP, hK, hD0, hN⟩ := hv
  have hx := B.exec
  have hb := B.bytes
  have hr := B.returns
  have hts := atoms_spec (ws := wsX0_repeat) B.pre
  have hown : s.vm.findClass RX0 = some m.cls := findClass_of_methodNamed B.named
  have hlocks := B.notSynchronized
  subst hsz
  have hD := hD0.self (sz := s.heap.size)
  generalize hAe : va_A (X0 ++ va_pl L f) s.heap.size = A at hD ⊢
  have hA : ∀ q : Nat, s.heap.size ≤ q → A q := fun q h => by rw [← hAe]; exact Or.inr h
  have hS : va_S A s.heap s.heap [] := va_S.rf
  have hin_X0 : ∀ w ∈ u_ws RX0 TX0 17, w ∈ wsX0_repeat := fun w h => List.mem_cons_of_mem _ (List.mem_append_right _ (h))
  have hl := lv_entry ([.ref a, .int v]) (n := 2) (Nat.le_of_ble_eq_true rfl)
  rw [lg_entry_eq]
  generalize (lg_sl ([.ref a, .int v]) ++ List.replicate (2 - (lg_sl ([.ref a, .int v])).length) Slot.unset).toArray = ls at hl ⊢
  have hl : lv_has ls 2 [(0, .ref a), (1, .int v)] := hl
  have hT0 : cqT [(0, 10), (0, 11)] L K f f := cqT.rf
  have hG0 : cqG L K L K := cqG.rf
  have hO0 : cqO a f f := cqO.rf
  refine lv_aload_n hx hb dX0_repeat_0 rfl (lv_at hl 0 rfl) ?_
  refine lv_dup hx hb dX0_repeat_1 rfl ?_
  obtain ⟨nu_1, ca_1, so_1, th_1, ma_1, wo_1, lf_1, ld_1, si_1, cp_1, he_1, re_1, sv_1, lt_1, lF_1, sn_1, ab_1, hf_1, hnu_1, hlf_1, hld_1, hsi_1, hcp_1, hsn_1, hab_1⟩ := hI.opA ha
  have hqhf_1 := hf_1
  refine pl_get (D := D) (ci := 0) (v := .int re_1) (C := RX0) (T := TX0) (N := 17) hx hb hts hin_X0 hown hK hP ha.1 hf_1 rfl 11 (by decide) (hts (.fieldLink RX0 63 "CryOrder$Alarm" "repeats" "I") (List.mem_cons_of_mem _ (List.mem_append_left _ (List.mem_of_getElem? (i := 0) rfl)))) (fun _ h9 => h9) rfl dX0_repeat_2 ?_
  refine lv_iconst (v := 1) hx hb dX0_repeat_5 (by decide) ?_
  refine lv_iadd hx hb dX0_repeat_6 ?_
  refine lv_topi (fun z_2 ez_2 => ?_)
  have tz_2 := ad_toInt (zx := (re_1).toInt) (zy := 1) ez_2 rfl (by decide)
  refine pl_put (D := D) (ci := 0) (v := .int z_2) (ty := .int) (C := RX0) (T := TX0) (N := 17) hx hb hts hin_X0 tyX0 tyX0_ok nmX0 hown hK hP hD hS ha.1 hf_1 rfl 11 (by decide) (hts (.fieldLink RX0 63 "CryOrder$Alarm" "repeats" "I") (List.mem_cons_of_mem _ (List.mem_append_left _ (List.mem_of_getElem? (i := 0) rfl)))) (fun _ h9 => h9) rfl (by decide +kernel) rfl rfl (Nat.le_of_ble_eq_true rfl) dX0_repeat_7 (fun H_3 locs hP hD hS => ?_)
  obtain ⟨f_4, ef_4⟩ : ∃ g, g = va_up f a (.inr (0, [.int nu_1, .int ca_1, .int so_1, .int th_1, .int ma_1, .int wo_1, .ref lf_1, .ref ld_1, .int si_1, .int cp_1, .int he_1, .int z_2, .int sv_1, .int lt_1, .int lF_1, va_rf sn_1, va_rf ab_1])) := ⟨_, rfl⟩
  have hP : va_P D vwCl (X0 ++ va_pl L f_4) H_3 := by rw [ef_4]; exact hP
  have hD : va_D A (X0 ++ va_pl L f_4) := by rw [ef_4]; exact hD
  have hI : cqI S L K f_4 := hI.ptA ha ef_4 ⟨_, _, _, _, _, _, _, _, _, _, _, _, _, _, _, sn_1, ab_1, rfl, hnu_1, hlf_1, hld_1, hsi_1, hcp_1, hsn_1, hab_1⟩
  have hT_5 := hT0.put (k := 11) hG0 ha ef_4 (.int z_2) hf_1 rfl (by decide)
  have hO_6 := hO0.put ef_4
  have hf_1 : f_4 a = .inr (0, [.int nu_1, .int ca_1, .int so_1, .int th_1, .int ma_1, .int wo_1, .ref lf_1, .ref ld_1, .int si_1, .int cp_1, .int he_1, .int z_2, .int sv_1, .int lt_1, .int lF_1, va_rf sn_1, va_rf ab_1]) := cq_same ef_4
  refine lv_aload_n hx hb dX0_repeat_10 rfl (lv_at hl 0 rfl) ?_
  refine lv_iload_n hx hb dX0_repeat_11 rfl (lv_at hl 1 rfl) ?_
  refine pl_put (D := D) (ci := 0) (v := .int v) (ty := .int) (C := RX0) (T := TX0) (N := 17) hx hb hts hin_X0 tyX0 tyX0_ok nmX0 hown hK hP hD hS ha.1 hf_1 rfl 10 (by decide) (hts (.fieldLink RX0 46 "CryOrder$Alarm" "heardLast" "I") (List.mem_cons_of_mem _ (List.mem_append_left _ (List.mem_of_getElem? (i := 1) rfl)))) (fun _ h9 => h9) rfl (by decide +kernel) rfl rfl (Nat.le_of_ble_eq_true rfl) dX0_repeat_12 (fun H_7 locs hP hD hS => ?_)
  obtain ⟨f_8, ef_8⟩ : ∃ g, g = va_up f_4 a (.inr (0, [.int nu_1, .int ca_1, .int so_1, .int th_1, .int ma_1, .int wo_1, .ref lf_1, .ref ld_1, .int si_1, .int cp_1, .int v, .int z_2, .int sv_1, .int lt_1, .int lF_1, va_rf sn_1, va_rf ab_1])) := ⟨_, rfl⟩
  have hP : va_P D vwCl (X0 ++ va_pl L f_8) H_7 := by rw [ef_8]; exact hP
  have hD : va_D A (X0 ++ va_pl L f_8) := by rw [ef_8]; exact hD
  have hI : cqI S L K f_8 := hI.ptA ha ef_8 ⟨_, _, _, _, _, _, _, _, _, _, _, _, _, _, _, sn_1, ab_1, rfl, hnu_1, hlf_1, hld_1, hsi_1, hcp_1, hsn_1, hab_1⟩
  have hT_9 := hT_5.put (k := 10) hG0 ha ef_8 (.int v) hf_1 rfl (by decide)
  have hO_10 := hO_6.put ef_8
  have hf_1 : f_8 a = .inr (0, [.int nu_1, .int ca_1, .int so_1, .int th_1, .int ma_1, .int wo_1, .ref lf_1, .ref ld_1, .int si_1, .int cp_1, .int v, .int z_2, .int sv_1, .int lt_1, .int lF_1, va_rf sn_1, va_rf ab_1]) := cq_same ef_8
  refine W.widen (k := 0) (n := 0) (Nat.le_of_ble_eq_true rfl) (Nat.le_of_ble_eq_true rfl) ?_
  exact W.vret hx hb hr (fun t ht hW => ⟨⟨(), rfl, trivial, f_8, ⟨by rw [ht]; exact hP, va_K.moved hW.alike (hK.sub (tys' := []) [] rfl), hD⟩, hI, hT_9, hO_10, (by rw [hf_1]; rfl), (by rw [hf_1, hqhf_1]; show (z_2).toInt = incI (re_1).toInt; rw [incI_of, ez_2])⟩, hS.F ht⟩) hS.2.2 dX0_repeat_15

set_option maxHeartbeats 4000000 in
set_option maxRecDepth 100000 in
theorem c_X0_hearF (l : Launch) (D : va_G) (sz : Nat) (X0 : va_W) (L : List Nat) (K : Nat → Nat × Nat) (f : Nat → va_E) (S : Int) (tys : List (ClassId × FieldType)) (a : Nat) (v : Int32) (w : Int32) (hI : cqI S L K f) (ha : cqIs L K 0 a) : Met l yX0_hear wsX0_hear ({ frames := 1, cells := 0, slots := 0, locals := 20 }) (va_Pc [.ref a, .int v, .int w] (wz sz D tys (X0 ++ va_pl L f))) (va_Qv (fun (_ : Unit) => True) (fun _ t => ∃ (f9 : Nat → va_E), (wp D [] (va_A (X0 ++ va_pl L f) sz) (X0 ++ va_pl L f9) t ∧ (cqI S L K f9) ∧ (cqT [(0, 12), (0, 13), (0, 14)] L K f f9) ∧ (cqO a f f9) ∧ (cqF (f9 a) 13 = heT (cqF (f a) 13) v w) ∧ (cqF (f9 a) 14 = heF (cqF (f a) 14) v w) ∧ (cqF (f9 a) 12 = heS (cqF (f9 a) 13) (cqF (f9 a) 14) (cqF (f a) 12)))) (va_A (X0 ++ va_pl L f) sz)) 0 0 (va_A (X0 ++ va_pl L f) sz) := by
  refine Met.ofW (cc := cX0_hear) (maxL := 3) (ret := none) (by decide) rfl ?_
  intro p e s m args below meth c s₁ B hml hv
  obtain ⟨rfl, hsz, hP, hK, hD0, hN⟩ := hv
  have hx := B.exec
  have hb := B.bytes
  have hr := B.returns
  have hts := atoms_spec (ws := wsX0_hear) B.pre
  have hown : s.vm.findClass RX0 = some m.cls := findClass_of_methodNamed B.named
  have hlocks := B.notSynchronized
  subst hsz
  have hD := hD0.self (sz := s.heap.size)
  generalize hAe : va_A (X0 ++ va_pl L f) s.heap.size = A at hD ⊢
  have hA : ∀ q : Nat, s.heap.size ≤ q → A q := fun q h => by rw [← hAe]; exact Or.inr h
  have hS : va_S A s.heap s.heap [] := va_S.rf
  have hin_X0 : ∀ w ∈ u_ws RX0 TX0 17, w ∈ wsX0_hear := fun w h => List.mem_cons_of_mem _ (List.mem_append_right _ (h))
  have hl := lv_entry ([.ref a, .int v, .int w]) (n := 3) (Nat.le_of_ble_eq_true rfl)
  rw [lg_entry_eq]
  generalize (lg_sl ([.ref a, .int v, .int w]) ++ List.replicate (3 - (lg_sl ([.ref a, .int v, .int w])).length) Slot.unset).toArray = ls at hl ⊢
  have hl : lv_has ls 3 [(0, .ref a), (1, .int v), (2, .int w)] := hl
  have hT0 : cqT [(0, 12), (0, 13), (0, 14)] L K f f := cqT.rf
  have hG0 : cqG L K L K := cqG.rf
  have hO0 : cqO a f f := cqO.rf
  refine lv_iload_n hx hb dX0_hear_0 rfl (lv_at hl 2 rfl) ?_
  refine bz_eq (zx := (w).toInt) (tgt := 19) hx hb dX0_hear_1 (by decide) rfl (fun c_1 => ?_) (fun c_1 => ?_)
  · refine lv_aload_n hx hb dX0_hear_19 rfl (lv_at hl 0 rfl) ?_
    refine lv_dup hx hb dX0_hear_20 rfl ?_
    obtain ⟨nu_2, ca_2, so_2, th_2, ma_2, wo_2, lf_2, ld_2, si_2, cp_2, he_2, re_2, sv_2, lt_2, lF_2, sn_2, ab_2, hf_2, hnu_2, hlf_2, hld_2, hsi_2, hcp_2, hsn_2, hab_2⟩ := hI.opA ha
    have hqhf_2 := hf_2
    refine pl_get (D := D) (ci := 0) (v := .int lF_2) (C := RX0) (T := TX0) (N := 17) hx hb hts hin_X0 hown hK hP ha.1 hf_2 rfl 14 (by decide) (hts (.fieldLink RX0 69 "CryOrder$Alarm" "lookersForFalse" "I") (List.mem_cons_of_mem _ (List.mem_append_left _ (List.mem_of_getElem? (i := 1) rfl)))) (fun _ h9 => h9) rfl dX0_hear_21 ?_
    refine lv_iconst (v := 1) hx hb dX0_hear_24 (by decide) ?_
    refine lv_iload_n hx hb dX0_hear_25 rfl (lv_at hl 1 rfl) ?_
    refine lv_ishl hx hb dX0_hear_26 ?_
    refine lv_topi (fun z_3 ez_3 => ?_)
    refine lv_ior hx hb dX0_hear_27 ?_
    refine lv_topi (fun z_4 ez_4 => ?_)
    refine pl_put (D := D) (ci := 0) (v := .int z_4) (ty := .int) (C := RX0) (T := TX0) (N := 17) hx hb hts hin_X0 tyX0 tyX0_ok nmX0 hown hK hP hD hS ha.1 hf_2 rfl 14 (by decide) (hts (.fieldLink RX0 69 "CryOrder$Alarm" "lookersForFalse" "I") (List.mem_cons_of_mem _ (List.mem_append_left _ (List.mem_of_getElem? (i := 1) rfl)))) (fun _ h9 => h9) rfl (by decide +kernel) rfl rfl (Nat.le_of_ble_eq_true rfl) dX0_hear_28 (fun H_5 locs hP hD hS => ?_)
    obtain ⟨f_6, ef_6⟩ : ∃ g, g = va_up f a (.inr (0, [.int nu_2, .int ca_2, .int so_2, .int th_2, .int ma_2, .int wo_2, .ref lf_2, .ref ld_2, .int si_2, .int cp_2, .int he_2, .int re_2, .int sv_2, .int lt_2, .int z_4, va_rf sn_2, va_rf ab_2])) := ⟨_, rfl⟩
    have hP : va_P D vwCl (X0 ++ va_pl L f_6) H_5 := by rw [ef_6]; exact hP
    have hD : va_D A (X0 ++ va_pl L f_6) := by rw [ef_6]; exact hD
    have hI : cqI S L K f_6 := hI.ptA ha ef_6 ⟨_, _, _, _, _, _, _, _, _, _, _, _, _, _, _, sn_2, ab_2, rfl, hnu_2, hlf_2, hld_2, hsi_2, hcp_2, hsn_2, hab_2⟩
    have hT_7 := hT0.put (k := 14) hG0 ha ef_6 (.int z_4) hf_2 rfl (by decide)
    have hO_8 := hO0.put ef_6
    have hf_2 : f_6 a = .inr (0, [.int nu_2, .int ca_2, .int so_2, .int th_2, .int ma_2, .int wo_2, .ref lf_2, .ref ld_2, .int si_2, .int cp_2, .int he_2, .int re_2, .int sv_2, .int lt_2, .int z_4, va_rf sn_2, va_rf ab_2]) := cq_same ef_6
    refine lv_aload_n hx hb dX0_hear_31 rfl (lv_at hl 0 rfl) ?_
    refine pl_get (D := D) (ci := 0) (v := .int lt_2) (C := RX0) (T := TX0) (N := 17) hx hb hts hin_X0 hown hK hP ha.1 hf_2 rfl 13 (by decide) (hts (.fieldLink RX0 66 "CryOrder$Alarm" "lookersForTrue" "I") (List.mem_cons_of_mem _ (List.mem_append_left _ (List.mem_of_getElem? (i := 0) rfl)))) (fun _ h9 => h9) rfl dX0_hear_32 ?_
    refine vp_callSi (zrS (As := [.int lt_2]) (rest := []) (wc := []) ⟨hx, hb, hml, hown, hts⟩ hN hK hP hD (c_bitCountR l D lt_2 ) (va_cwS 1 hts gX0_hear_J6_bitCount_0f7a4 rfl rfl rfl (by decide +kernel) ⟨(Nat.le_of_ble_eq_true rfl), (Nat.le_of_ble_eq_true rfl)⟩) [] [] rfl rfl (by decide) rfl hl.1 rfl (Nat.le_of_ble_eq_true rfl) dX0_hear_35 ⟨(Nat.le_of_ble_eq_true rfl), (Nat.le_of_ble_eq_true rfl)⟩) (fun r_9 h_10 => ?_)
    have h_10 : (r_9).toInt = bcI (lt_2).toInt := h_10
    refine lv_iconst (v := 2) hx hb dX0_hear_38 (by decide) ?_
    refine bi_lt (zx := (r_9).toInt) (zy := 2) (tgt := 50) hx hb dX0_hear_39 (by decide) rfl (by decide) (fun c_11 => ?_) (fun c_11 => ?_)
    · refine lv_aload_n hx hb dX0_hear_50 rfl (lv_at hl 0 rfl) ?_
      refine pl_get (D := D) (ci := 0) (v := .int z_4) (C := RX0) (T := TX0) (N := 17) hx hb hts hin_X0 hown hK hP ha.1 hf_2 rfl 14 (by decide) (hts (.fieldLink RX0 69 "CryOrder$Alarm" "lookersForFalse" "I") (List.mem_cons_of_mem _ (List.mem_append_left _ (List.mem_of_getElem? (i := 1) rfl)))) (fun _ h9 => h9) rfl dX0_hear_51 ?_
      refine vp_callSi (zrS (As := [.int z_4]) (rest := []) (wc := []) ⟨hx, hb, hml, hown, hts⟩ hN hK hP hD (c_bitCountR l D z_4 ) (va_cwS 1 hts gX0_hear_J6_bitCount_0f7a4 rfl rfl rfl (by decide +kernel) ⟨(Nat.le_of_ble_eq_true rfl), (Nat.le_of_ble_eq_true rfl)⟩) [] [] rfl rfl (by decide) rfl hl.1 rfl (Nat.le_of_ble_eq_true rfl) dX0_hear_54 ⟨(Nat.le_of_ble_eq_true rfl), (Nat.le_of_ble_eq_true rfl)⟩) (fun r_12 h_13 => ?_)
      have h_13 : (r_12).toInt = bcI (z_4).toInt := h_13
      refine lv_iconst (v := 2) hx hb dX0_hear_57 (by decide) ?_
      refine bi_lt (zx := (r_12).toInt) (zy := 2) (tgt := 66) hx hb dX0_hear_58 (by decide) rfl (by decide) (fun c_14 => ?_) (fun c_14 => ?_)
      · refine W.widen (k := 0) (n := 0) (Nat.le_of_ble_eq_true rfl) (Nat.le_of_ble_eq_true rfl) ?_
        exact W.vret hx hb hr (fun t ht hW => ⟨⟨(), rfl, trivial, f_6, ⟨by rw [ht]; exact hP, va_K.moved hW.alike (hK.sub (tys' := []) [] rfl), hD⟩, hI, hT_7, hO_8, (by rw [hf_2, hqhf_2]; show (lt_2).toInt = heT (lt_2).toInt v w; unfold heT; rw [if_pos (by omega)]), (by rw [hf_2, hqhf_2]; show (z_4).toInt = heF (lF_2).toInt v w; unfold heF; rw [if_pos (by omega), orI_of, ez_4, ez_3]), (by rw [hf_2, hqhf_2]; show (sv_2 : Int32).toInt = heS (lt_2).toInt (z_4).toInt (sv_2).toInt; unfold heS; rw [if_neg (by omega), if_neg (by omega)])⟩, hS.F ht⟩) hS.2.2 dX0_hear_66
      · refine lv_aload_n hx hb dX0_hear_61 rfl (lv_at hl 0 rfl) ?_
        refine lv_iconst (v := 2) hx hb dX0_hear_62 (by decide) ?_
        refine pl_put (D := D) (ci := 0) (v := .int 2) (ty := .int) (C := RX0) (T := TX0) (N := 17) hx hb hts hin_X0 tyX0 tyX0_ok nmX0 hown hK hP hD hS ha.1 hf_2 rfl 12 (by decide) (hts (.fieldLink RX0 9 "CryOrder$Alarm" "state" "I") (List.mem_cons_of_mem _ (List.mem_append_left _ (List.mem_of_getElem? (i := 2) rfl)))) (fun _ h9 => h9) rfl (by decide +kernel) rfl rfl (Nat.le_of_ble_eq_true rfl) dX0_hear_63 (fun H_15 locs hP hD hS => ?_)
        obtain ⟨f_16, ef_16⟩ : ∃ g, g = va_up f_6 a (.inr (0, [.int nu_2, .int ca_2, .int so_2, .int th_2, .int ma_2, .int wo_2, .ref lf_2, .ref ld_2, .int si_2, .int cp_2, .int he_2, .int re_2, .int 2, .int lt_2, .int z_4, va_rf sn_2, va_rf ab_2])) := ⟨_, rfl⟩
        have hP : va_P D vwCl (X0 ++ va_pl L f_16) H_15 := by rw [ef_16]; exact hP
        have hD : va_D A (X0 ++ va_pl L f_16) := by rw [ef_16]; exact hD
        have hI : cqI S L K f_16 := hI.ptA ha ef_16 ⟨_, _, _, _, _, _, _, _, _, _, _, _, _, _, _, sn_2, ab_2, rfl, hnu_2, hlf_2, hld_2, hsi_2, hcp_2, hsn_2, hab_2⟩
        have hT_17 := hT_7.put (k := 12) hG0 ha ef_16 (.int 2) hf_2 rfl (by decide)
        have hO_18 := hO_8.put ef_16
        have hf_2 : f_16 a = .inr (0, [.int nu_2, .int ca_2, .int so_2, .int th_2, .int ma_2, .int wo_2, .ref lf_2, .ref ld_2, .int si_2, .int cp_2, .int he_2, .int re_2, .int 2, .int lt_2, .int z_4, va_rf sn_2, va_rf ab_2]) := cq_same ef_16
        refine W.widen (k := 0) (n := 0) (Nat.le_of_ble_eq_true rfl) (Nat.le_of_ble_eq_true rfl) ?_
        exact W.vret hx hb hr (fun t ht hW => ⟨⟨(), rfl, trivial, f_16, ⟨by rw [ht]; exact hP, va_K.moved hW.alike (hK.sub (tys' := []) [] rfl), hD⟩, hI, hT_17, hO_18, (by rw [hf_2, hqhf_2]; show (lt_2).toInt = heT (lt_2).toInt v w; unfold heT; rw [if_pos (by omega)]), (by rw [hf_2, hqhf_2]; show (z_4).toInt = heF (lF_2).toInt v w; unfold heF; rw [if_pos (by omega), orI_of, ez_4, ez_3]), (by rw [hf_2, hqhf_2]; show (2 : Int32).toInt = heS (lt_2).toInt (z_4).toInt (sv_2).toInt; unfold heS; rw [if_neg (by omega), if_pos (by omega)]; decide)⟩, hS.F ht⟩) hS.2.2 dX0_hear_66
    · refine lv_aload_n hx hb dX0_hear_42 rfl (lv_at hl 0 rfl) ?_
      refine lv_iconst (v := 1) hx hb dX0_hear_43 (by decide) ?_
      refine pl_put (D := D) (ci := 0) (v := .int 1) (ty := .int) (C := RX0) (T := TX0) (N := 17) hx hb hts hin_X0 tyX0 tyX0_ok nmX0 hown hK hP hD hS ha.1 hf_2 rfl 12 (by decide) (hts (.fieldLink RX0 9 "CryOrder$Alarm" "state" "I") (List.mem_cons_of_mem _ (List.mem_append_left _ (List.mem_of_getElem? (i := 2) rfl)))) (fun _ h9 => h9) rfl (by decide +kernel) rfl rfl (Nat.le_of_ble_eq_true rfl) dX0_hear_44 (fun H_19 locs hP hD hS => ?_)
      obtain ⟨f_20, ef_20⟩ : ∃ g, g = va_up f_6 a (.inr (0, [.int nu_2, .int ca_2, .int so_2, .int th_2, .int ma_2, .int wo_2, .ref lf_2, .ref ld_2, .int si_2, .int cp_2, .int he_2, .int re_2, .int 1, .int lt_2, .int z_4, va_rf sn_2, va_rf ab_2])) := ⟨_, rfl⟩
      have hP : va_P D vwCl (X0 ++ va_pl L f_20) H_19 := by rw [ef_20]; exact hP
      have hD : va_D A (X0 ++ va_pl L f_20) := by rw [ef_20]; exact hD
      have hI : cqI S L K f_20 := hI.ptA ha ef_20 ⟨_, _, _, _, _, _, _, _, _, _, _, _, _, _, _, sn_2, ab_2, rfl, hnu_2, hlf_2, hld_2, hsi_2, hcp_2, hsn_2, hab_2⟩
      have hT_21 := hT_7.put (k := 12) hG0 ha ef_20 (.int 1) hf_2 rfl (by decide)
      have hO_22 := hO_8.put ef_20
      have hf_2 : f_20 a = .inr (0, [.int nu_2, .int ca_2, .int so_2, .int th_2, .int ma_2, .int wo_2, .ref lf_2, .ref ld_2, .int si_2, .int cp_2, .int he_2, .int re_2, .int 1, .int lt_2, .int z_4, va_rf sn_2, va_rf ab_2]) := cq_same ef_20
      refine lv_goto (tgt := 66) hx hb dX0_hear_47 (by decide) ?_
      refine W.widen (k := 0) (n := 0) (Nat.le_of_ble_eq_true rfl) (Nat.le_of_ble_eq_true rfl) ?_
      exact W.vret hx hb hr (fun t ht hW => ⟨⟨(), rfl, trivial, f_20, ⟨by rw [ht]; exact hP, va_K.moved hW.alike (hK.sub (tys' := []) [] rfl), hD⟩, hI, hT_21, hO_22, (by rw [hf_2, hqhf_2]; show (lt_2).toInt = heT (lt_2).toInt v w; unfold heT; rw [if_pos (by omega)]), (by rw [hf_2, hqhf_2]; show (z_4).toInt = heF (lF_2).toInt v w; unfold heF; rw [if_pos (by omega), orI_of, ez_4, ez_3]), (by rw [hf_2, hqhf_2]; show (1 : Int32).toInt = heS (lt_2).toInt (z_4).toInt (sv_2).toInt; unfold heS; rw [if_pos (by omega)]; decide)⟩, hS.F ht⟩) hS.2.2 dX0_hear_66
  · refine lv_aload_n hx hb dX0_hear_4 rfl (lv_at hl 0 rfl) ?_
    refine lv_dup hx hb dX0_hear_5 rfl ?_
    obtain ⟨nu_23, ca_23, so_23, th_23, ma_23, wo_23, lf_23, ld_23, si_23, cp_23, he_23, re_23, sv_23, lt_23, lF_23, sn_23, ab_23, hf_23, hnu_23, hlf_23, hld_23, hsi_23, hcp_23, hsn_23, hab_23⟩ := hI.opA ha
    have hqhf_23 := hf_23
    refine pl_get (D := D) (ci := 0) (v := .int lt_23) (C := RX0) (T := TX0) (N := 17) hx hb hts hin_X0 hown hK hP ha.1 hf_23 rfl 13 (by decide) (hts (.fieldLink RX0 66 "CryOrder$Alarm" "lookersForTrue" "I") (List.mem_cons_of_mem _ (List.mem_append_left _ (List.mem_of_getElem? (i := 0) rfl)))) (fun _ h9 => h9) rfl dX0_hear_6 ?_
    refine lv_iconst (v := 1) hx hb dX0_hear_9 (by decide) ?_
    refine lv_iload_n hx hb dX0_hear_10 rfl (lv_at hl 1 rfl) ?_
    refine lv_ishl hx hb dX0_hear_11 ?_
    refine lv_topi (fun z_24 ez_24 => ?_)
    refine lv_ior hx hb dX0_hear_12 ?_
    refine lv_topi (fun z_25 ez_25 => ?_)
    refine pl_put (D := D) (ci := 0) (v := .int z_25) (ty := .int) (C := RX0) (T := TX0) (N := 17) hx hb hts hin_X0 tyX0 tyX0_ok nmX0 hown hK hP hD hS ha.1 hf_23 rfl 13 (by decide) (hts (.fieldLink RX0 66 "CryOrder$Alarm" "lookersForTrue" "I") (List.mem_cons_of_mem _ (List.mem_append_left _ (List.mem_of_getElem? (i := 0) rfl)))) (fun _ h9 => h9) rfl (by decide +kernel) rfl rfl (Nat.le_of_ble_eq_true rfl) dX0_hear_13 (fun H_26 locs hP hD hS => ?_)
    obtain ⟨f_27, ef_27⟩ : ∃ g, g = va_up f a (.inr (0, [.int nu_23, .int ca_23, .int so_23, .int th_23, .int ma_23, .int wo_23, .ref lf_23, .ref ld_23, .int si_23, .int cp_23, .int he_23, .int re_23, .int sv_23, .int z_25, .int lF_23, va_rf sn_23, va_rf ab_23])) := ⟨_, rfl⟩
    have hP : va_P D vwCl (X0 ++ va_pl L f_27) H_26 := by rw [ef_27]; exact hP
    have hD : va_D A (X0 ++ va_pl L f_27) := by rw [ef_27]; exact hD
    have hI : cqI S L K f_27 := hI.ptA ha ef_27 ⟨_, _, _, _, _, _, _, _, _, _, _, _, _, _, _, sn_23, ab_23, rfl, hnu_23, hlf_23, hld_23, hsi_23, hcp_23, hsn_23, hab_23⟩
    have hT_28 := hT0.put (k := 13) hG0 ha ef_27 (.int z_25) hf_23 rfl (by decide)
    have hO_29 := hO0.put ef_27
    have hf_23 : f_27 a = .inr (0, [.int nu_23, .int ca_23, .int so_23, .int th_23, .int ma_23, .int wo_23, .ref lf_23, .ref ld_23, .int si_23, .int cp_23, .int he_23, .int re_23, .int sv_23, .int z_25, .int lF_23, va_rf sn_23, va_rf ab_23]) := cq_same ef_27
    refine lv_goto (tgt := 31) hx hb dX0_hear_16 (by decide) ?_
    refine lv_aload_n hx hb dX0_hear_31 rfl (lv_at hl 0 rfl) ?_
    refine pl_get (D := D) (ci := 0) (v := .int z_25) (C := RX0) (T := TX0) (N := 17) hx hb hts hin_X0 hown hK hP ha.1 hf_23 rfl 13 (by decide) (hts (.fieldLink RX0 66 "CryOrder$Alarm" "lookersForTrue" "I") (List.mem_cons_of_mem _ (List.mem_append_left _ (List.mem_of_getElem? (i := 0) rfl)))) (fun _ h9 => h9) rfl dX0_hear_32 ?_
    refine vp_callSi (zrS (As := [.int z_25]) (rest := []) (wc := []) ⟨hx, hb, hml, hown, hts⟩ hN hK hP hD (c_bitCountR l D z_25 ) (va_cwS 1 hts gX0_hear_J6_bitCount_0f7a4 rfl rfl rfl (by decide +kernel) ⟨(Nat.le_of_ble_eq_true rfl), (Nat.le_of_ble_eq_true rfl)⟩) [] [] rfl rfl (by decide) rfl hl.1 rfl (Nat.le_of_ble_eq_true rfl) dX0_hear_35 ⟨(Nat.le_of_ble_eq_true rfl), (Nat.le_of_ble_eq_true rfl)⟩) (fun r_30 h_31 => ?_)
    have h_31 : (r_30).toInt = bcI (z_25).toInt := h_31
    refine lv_iconst (v := 2) hx hb dX0_hear_38 (by decide) ?_
    refine bi_lt (zx := (r_30).toInt) (zy := 2) (tgt := 50) hx hb dX0_hear_39 (by decide) rfl (by decide) (fun c_32 => ?_) (fun c_32 => ?_)
    · refine lv_aload_n hx hb dX0_hear_50 rfl (lv_at hl 0 rfl) ?_
      refine pl_get (D := D) (ci := 0) (v := .int lF_23) (C := RX0) (T := TX0) (N := 17) hx hb hts hin_X0 hown hK hP ha.1 hf_23 rfl 14 (by decide) (hts (.fieldLink RX0 69 "CryOrder$Alarm" "lookersForFalse" "I") (List.mem_cons_of_mem _ (List.mem_append_left _ (List.mem_of_getElem? (i := 1) rfl)))) (fun _ h9 => h9) rfl dX0_hear_51 ?_
      refine vp_callSi (zrS (As := [.int lF_23]) (rest := []) (wc := []) ⟨hx, hb, hml, hown, hts⟩ hN hK hP hD (c_bitCountR l D lF_23 ) (va_cwS 1 hts gX0_hear_J6_bitCount_0f7a4 rfl rfl rfl (by decide +kernel) ⟨(Nat.le_of_ble_eq_true rfl), (Nat.le_of_ble_eq_true rfl)⟩) [] [] rfl rfl (by decide) rfl hl.1 rfl (Nat.le_of_ble_eq_true rfl) dX0_hear_54 ⟨(Nat.le_of_ble_eq_true rfl), (Nat.le_of_ble_eq_true rfl)⟩) (fun r_33 h_34 => ?_)
      have h_34 : (r_33).toInt = bcI (lF_23).toInt := h_34
      refine lv_iconst (v := 2) hx hb dX0_hear_57 (by decide) ?_
      refine bi_lt (zx := (r_33).toInt) (zy := 2) (tgt := 66) hx hb dX0_hear_58 (by decide) rfl (by decide) (fun c_35 => ?_) (fun c_35 => ?_)
      · refine W.widen (k := 0) (n := 0) (Nat.le_of_ble_eq_true rfl) (Nat.le_of_ble_eq_true rfl) ?_
        exact W.vret hx hb hr (fun t ht hW => ⟨⟨(), rfl, trivial, f_27, ⟨by rw [ht]; exact hP, va_K.moved hW.alike (hK.sub (tys' := []) [] rfl), hD⟩, hI, hT_28, hO_29, (by rw [hf_23, hqhf_23]; show (z_25).toInt = heT (lt_23).toInt v w; unfold heT; rw [if_neg (by omega), orI_of, ez_25, ez_24]), (by rw [hf_23, hqhf_23]; show (lF_23).toInt = heF (lF_23).toInt v w; unfold heF; rw [if_neg (by omega)]), (by rw [hf_23, hqhf_23]; show (sv_23 : Int32).toInt = heS (z_25).toInt (lF_23).toInt (sv_23).toInt; unfold heS; rw [if_neg (by omega), if_neg (by omega)])⟩, hS.F ht⟩) hS.2.2 dX0_hear_66
      · refine lv_aload_n hx hb dX0_hear_61 rfl (lv_at hl 0 rfl) ?_
        refine lv_iconst (v := 2) hx hb dX0_hear_62 (by decide) ?_
        refine pl_put (D := D) (ci := 0) (v := .int 2) (ty := .int) (C := RX0) (T := TX0) (N := 17) hx hb hts hin_X0 tyX0 tyX0_ok nmX0 hown hK hP hD hS ha.1 hf_23 rfl 12 (by decide) (hts (.fieldLink RX0 9 "CryOrder$Alarm" "state" "I") (List.mem_cons_of_mem _ (List.mem_append_left _ (List.mem_of_getElem? (i := 2) rfl)))) (fun _ h9 => h9) rfl (by decide +kernel) rfl rfl (Nat.le_of_ble_eq_true rfl) dX0_hear_63 (fun H_36 locs hP hD hS => ?_)
        obtain ⟨f_37, ef_37⟩ : ∃ g, g = va_up f_27 a (.inr (0, [.int nu_23, .int ca_23, .int so_23, .int th_23, .int ma_23, .int wo_23, .ref lf_23, .ref ld_23, .int si_23, .int cp_23, .int he_23, .int re_23, .int 2, .int z_25, .int lF_23, va_rf sn_23, va_rf ab_23])) := ⟨_, rfl⟩
        have hP : va_P D vwCl (X0 ++ va_pl L f_37) H_36 := by rw [ef_37]; exact hP
        have hD : va_D A (X0 ++ va_pl L f_37) := by rw [ef_37]; exact hD
        have hI : cqI S L K f_37 := hI.ptA ha ef_37 ⟨_, _, _, _, _, _, _, _, _, _, _, _, _, _, _, sn_23, ab_23, rfl, hnu_23, hlf_23, hld_23, hsi_23, hcp_23, hsn_23, hab_23⟩
        have hT_38 := hT_28.put (k := 12) hG0 ha ef_37 (.int 2) hf_23 rfl (by decide)
        have hO_39 := hO_29.put ef_37
        have hf_23 : f_37 a = .inr (0, [.int nu_23, .int ca_23, .int so_23, .int th_23, .int ma_23, .int wo_23, .ref lf_23, .ref ld_23, .int si_23, .int cp_23, .int he_23, .int re_23, .int 2, .int z_25, .int lF_23, va_rf sn_23, va_rf ab_23]) := cq_same ef_37
        refine W.widen (k := 0) (n := 0) (Nat.le_of_ble_eq_true rfl) (Nat.le_of_ble_eq_true rfl) ?_
        exact W.vret hx hb hr (fun t ht hW => ⟨⟨(), rfl, trivial, f_37, ⟨by rw [ht]; exact hP, va_K.moved hW.alike (hK.sub (tys' := []) [] rfl), hD⟩, hI, hT_38, hO_39, (by rw [hf_23, hqhf_23]; show (z_25).toInt = heT (lt_23).toInt v w; unfold heT; rw [if_neg (by omega), orI_of, ez_25, ez_24]), (by rw [hf_23, hqhf_23]; show (lF_23).toInt = heF (lF_23).toInt v w; unfold heF; rw [if_neg (by omega)]), (by rw [hf_23, hqhf_23]; show (2 : Int32).toInt = heS (z_25).toInt (lF_23).toInt (sv_23).toInt; unfold heS; rw [if_neg (by omega), if_pos (by omega)]; decide)⟩, hS.F ht⟩) hS.2.2 dX0_hear_66
    · refine lv_aload_n hx hb dX0_hear_42 rfl (lv_at hl 0 rfl) ?_
      refine lv_iconst (v := 1) hx hb dX0_hear_43 (by decide) ?_
      refine pl_put (D := D) (ci := 0) (v := .int 1) (ty := .int) (C := RX0) (T := TX0) (N := 17) hx hb hts hin_X0 tyX0 tyX0_ok nmX0 hown hK hP hD hS ha.1 hf_23 rfl 12 (by decide) (hts (.fieldLink RX0 9 "CryOrder$Alarm" "state" "I") (List.mem_cons_of_mem _ (List.mem_append_left _ (List.mem_of_getElem? (i := 2) rfl)))) (fun _ h9 => h9) rfl (by decide +kernel) rfl rfl (Nat.le_of_ble_eq_true rfl) dX0_hear_44 (fun H_40 locs hP hD hS => ?_)
      obtain ⟨f_41, ef_41⟩ : ∃ g, g = va_up f_27 a (.inr (0, [.int nu_23, .int ca_23, .int so_23, .int th_23, .int ma_23, .int wo_23, .ref lf_23, .ref ld_23, .int si_23, .int cp_23, .int he_23, .int re_23, .int 1, .int z_25, .int lF_23, va_rf sn_23, va_rf ab_23])) := ⟨_, rfl⟩
      have hP : va_P D vwCl (X0 ++ va_pl L f_41) H_40 := by rw [ef_41]; exact hP
      have hD : va_D A (X0 ++ va_pl L f_41) := by rw [ef_41]; exact hD
      have hI : cqI S L K f_41 := hI.ptA ha ef_41 ⟨_, _, _, _, _, _, _, _, _, _, _, _, _, _, _, sn_23, ab_23, rfl, hnu_23, hlf_23, hld_23, hsi_23, hcp_23, hsn_23, hab_23⟩
      have hT_42 := hT_28.put (k := 12) hG0 ha ef_41 (.int 1) hf_23 rfl (by decide)
      have hO_43 := hO_29.put ef_41
      have hf_23 : f_41 a = .inr (0, [.int nu_23, .int ca_23, .int so_23, .int th_23, .int ma_23, .int wo_23, .ref lf_23, .ref ld_23, .int si_23, .int cp_23, .int he_23, .int re_23, .int 1, .int z_25, .int lF_23, va_rf sn_23, va_rf ab_23]) := cq_same ef_41
      refine lv_goto (tgt := 66) hx hb dX0_hear_47 (by decide) ?_
      refine W.widen (k := 0) (n := 0) (Nat.le_of_ble_eq_true rfl) (Nat.le_of_ble_eq_true rfl) ?_
      exact W.vret hx hb hr (fun t ht hW => ⟨⟨(), rfl, trivial, f_41, ⟨by rw [ht]; exact hP, va_K.moved hW.alike (hK.sub (tys' := []) [] rfl), hD⟩, hI, hT_42, hO_43, (by rw [hf_23, hqhf_23]; show (z_25).toInt = heT (lt_23).toInt v w; unfold heT; rw [if_neg (by omega), orI_of, ez_25, ez_24]), (by rw [hf_23, hqhf_23]; show (lF_23).toInt = heF (lF_23).toInt v w; unfold heF; rw [if_neg (by omega)]), (by rw [hf_23, hqhf_23]; show (1 : Int32).toInt = heS (z_25).toInt (lF_23).toInt (sv_23).toInt; unfold heS; rw [if_pos (by omega)]; decide)⟩, hS.F ht⟩) hS.2.2 dX0_hear_66
