set_option maxHeartbeats 4000000 in
set_option maxRecDepth 100000 in
theorem c_X0_isOpenR (l : Launch) (D : va_G) (X0 : va_W) (L : List Nat) (K : Nat → Nat × Nat) (f : Nat → va_E) (S : Int) (tys : List (ClassId × FieldType)) (a : Nat) (hI : cqI S L K f) (ha : cqIs L K 0 a) : Met l yX0_isOpen wsX0_isOpen ({ frames := 0, cells := 0, slots := 0, locals := 0 }) (va_Pc [.ref a] (wo D tys (X0 ++ va_pl L f))) (vp_Si (fun r => ((cqF (f a) 12 = 0) ∧ r = 1) ∨ ((¬ cqF (f a) 12 = 0) ∧ r = 0))) 0 0 (fun _ => False) := by
  refine Met.ofW (cc := cX0_isOpen) (maxL := 1) (ret := (some .boolean)) (by decide) rfl ?_
  intro p e s m args below meth c s₁ B hml hv
  obtain ⟨rfl, hP, hK, hD, hN⟩ := hv
  have hx := B.exec
  have hb := B.bytes
  have hr := B.returns
  have hts := atoms_spec (ws := wsX0_isOpen) B.pre
  have hown : s.vm.findClass RX0 = some m.cls := findClass_of_methodNamed B.named
  have hlocks := B.notSynchronized
  have hin_X0 : ∀ w ∈ u_ws RX0 TX0 17, w ∈ wsX0_isOpen := fun w h => List.mem_cons_of_mem _ (List.mem_append_right _ (h))
  have hl := lv_entry ([.ref a]) (n := 1) (Nat.le_of_ble_eq_true rfl)
  rw [lg_entry_eq]
  generalize (lg_sl ([.ref a]) ++ List.replicate (1 - (lg_sl ([.ref a])).length) Slot.unset).toArray = ls at hl ⊢
  have hl : lv_has ls 1 [(0, .ref a)] := hl
  refine lv_aload_n hx hb dX0_isOpen_0 rfl (lv_at hl 0 rfl) ?_
  obtain ⟨nu_1, ca_1, so_1, th_1, ma_1, wo_1, lf_1, ld_1, si_1, cp_1, he_1, re_1, sv_1, lt_1, lF_1, sn_1, ab_1, hf_1, hnu_1, hlf_1, hld_1, hsi_1, hcp_1, hsn_1, hab_1⟩ := hI.opA ha
  have F2hf_1 : cqF (f a) 2 = (so_1).toInt := by rw [hf_1]; rfl
  have F3hf_1 : cqF (f a) 3 = (th_1).toInt := by rw [hf_1]; rfl
  have F4hf_1 : cqF (f a) 4 = (ma_1).toInt := by rw [hf_1]; rfl
  have F8hf_1 : cqF (f a) 8 = (si_1).toInt := by rw [hf_1]; rfl
  have F9hf_1 : cqF (f a) 9 = (cp_1).toInt := by rw [hf_1]; rfl
  have F10hf_1 : cqF (f a) 10 = (he_1).toInt := by rw [hf_1]; rfl
  have F12hf_1 : cqF (f a) 12 = (sv_1).toInt := by rw [hf_1]; rfl
  have F13hf_1 : cqF (f a) 13 = (lt_1).toInt := by rw [hf_1]; rfl
  have F14hf_1 : cqF (f a) 14 = (lF_1).toInt := by rw [hf_1]; rfl
  refine pl_get (D := D) (ci := 0) (v := .int sv_1) (C := RX0) (T := TX0) (N := 17) hx hb hts hin_X0 hown hK hP ha.1 hf_1 rfl 12 (by decide) (hts (.fieldLink RX0 9 "CryOrder$Alarm" "state" "I") (List.mem_cons_of_mem _ (List.mem_append_left _ (List.mem_of_getElem? (i := 0) rfl)))) (fun _ h9 => h9) rfl dX0_isOpen_1 ?_
  refine bz_ne (zx := (sv_1).toInt) (tgt := 11) hx hb dX0_isOpen_4 (by decide) rfl (fun c_2 => ?_) (fun c_2 => ?_)
  · refine lv_iconst (v := 0) hx hb dX0_isOpen_11 (by decide) ?_
    exact W.zret (v := 0) hx hb hr rfl (fun t ht hW => ⟨0, rfl, Or.inr ⟨by omega, rfl⟩, ht⟩) (fun q h => by cases h) dX0_isOpen_12
  · refine lv_iconst (v := 1) hx hb dX0_isOpen_7 (by decide) ?_
    refine lv_goto (tgt := 12) hx hb dX0_isOpen_8 (by decide) ?_
    exact W.zret (v := 1) hx hb hr rfl (fun t ht hW => ⟨1, rfl, Or.inl ⟨by omega, rfl⟩, ht⟩) (fun q h => by cases h) dX0_isOpen_12

set_option maxHeartbeats 4000000 in
set_option maxRecDepth 100000 in
theorem c_X0_isHushedR (l : Launch) (D : va_G) (X0 : va_W) (L : List Nat) (K : Nat → Nat × Nat) (f : Nat → va_E) (S : Int) (tys : List (ClassId × FieldType)) (a : Nat) (hI : cqI S L K f) (ha : cqIs L K 0 a) : Met l yX0_isHushed wsX0_isHushed ({ frames := 0, cells := 0, slots := 0, locals := 0 }) (va_Pc [.ref a] (wo D tys (X0 ++ va_pl L f))) (vp_Si (fun r => ((¬ (cqF (f a) 8 = 0 ∧ cqF (f a) 9 = 0)) ∧ r = 1) ∨ ((cqF (f a) 8 = 0 ∧ cqF (f a) 9 = 0) ∧ r = 0))) 0 0 (fun _ => False) := by
  refine Met.ofW (cc := cX0_isHushed) (maxL := 1) (ret := (some .boolean)) (by decide) rfl ?_
  intro p e s m args below meth c s₁ B hml hv
  obtain ⟨rfl, hP, hK, hD, hN⟩ := hv
  have hx := B.exec
  have hb := B.bytes
  have hr := B.returns
  have hts := atoms_spec (ws := wsX0_isHushed) B.pre
  have hown : s.vm.findClass RX0 = some m.cls := findClass_of_methodNamed B.named
  have hlocks := B.notSynchronized
  have hin_X0 : ∀ w ∈ u_ws RX0 TX0 17, w ∈ wsX0_isHushed := fun w h => List.mem_cons_of_mem _ (List.mem_append_right _ (h))
  have hl := lv_entry ([.ref a]) (n := 1) (Nat.le_of_ble_eq_true rfl)
  rw [lg_entry_eq]
  generalize (lg_sl ([.ref a]) ++ List.replicate (1 - (lg_sl ([.ref a])).length) Slot.unset).toArray = ls at hl ⊢
  have hl : lv_has ls 1 [(0, .ref a)] := hl
  refine lv_aload_n hx hb dX0_isHushed_0 rfl (lv_at hl 0 rfl) ?_
  obtain ⟨nu_1, ca_1, so_1, th_1, ma_1, wo_1, lf_1, ld_1, si_1, cp_1, he_1, re_1, sv_1, lt_1, lF_1, sn_1, ab_1, hf_1, hnu_1, hlf_1, hld_1, hsi_1, hcp_1, hsn_1, hab_1⟩ := hI.opA ha
  have F2hf_1 : cqF (f a) 2 = (so_1).toInt := by rw [hf_1]; rfl
  have F3hf_1 : cqF (f a) 3 = (th_1).toInt := by rw [hf_1]; rfl
  have F4hf_1 : cqF (f a) 4 = (ma_1).toInt := by rw [hf_1]; rfl
  have F8hf_1 : cqF (f a) 8 = (si_1).toInt := by rw [hf_1]; rfl
  have F9hf_1 : cqF (f a) 9 = (cp_1).toInt := by rw [hf_1]; rfl
  have F10hf_1 : cqF (f a) 10 = (he_1).toInt := by rw [hf_1]; rfl
  have F12hf_1 : cqF (f a) 12 = (sv_1).toInt := by rw [hf_1]; rfl
  have F13hf_1 : cqF (f a) 13 = (lt_1).toInt := by rw [hf_1]; rfl
  have F14hf_1 : cqF (f a) 14 = (lF_1).toInt := by rw [hf_1]; rfl
  refine pl_get (D := D) (ci := 0) (v := .int si_1) (C := RX0) (T := TX0) (N := 17) hx hb hts hin_X0 hown hK hP ha.1 hf_1 rfl 8 (by decide) (hts (.fieldLink RX0 49 "CryOrder$Alarm" "silenced" "Z") (List.mem_cons_of_mem _ (List.mem_append_left _ (List.mem_of_getElem? (i := 0) rfl)))) (fun _ h9 => h9) rfl dX0_isHushed_1 ?_
  refine bz_ne (zx := (si_1).toInt) (tgt := 14) hx hb dX0_isHushed_4 (by decide) rfl (fun c_2 => ?_) (fun c_2 => ?_)
  · refine lv_iconst (v := 1) hx hb dX0_isHushed_14 (by decide) ?_
    refine lv_goto (tgt := 19) hx hb dX0_isHushed_15 (by decide) ?_
    exact W.zret (v := 1) hx hb hr rfl (fun t ht hW => ⟨1, rfl, Or.inl ⟨by omega, rfl⟩, ht⟩) (fun q h => by cases h) dX0_isHushed_19
  · refine lv_aload_n hx hb dX0_isHushed_7 rfl (lv_at hl 0 rfl) ?_
    refine pl_get (D := D) (ci := 0) (v := .int cp_1) (C := RX0) (T := TX0) (N := 17) hx hb hts hin_X0 hown hK hP ha.1 hf_1 rfl 9 (by decide) (hts (.fieldLink RX0 53 "CryOrder$Alarm" "capped" "Z") (List.mem_cons_of_mem _ (List.mem_append_left _ (List.mem_of_getElem? (i := 1) rfl)))) (fun _ h9 => h9) rfl dX0_isHushed_8 ?_
    refine bz_eq (zx := (cp_1).toInt) (tgt := 18) hx hb dX0_isHushed_11 (by decide) rfl (fun c_3 => ?_) (fun c_3 => ?_)
    · refine lv_iconst (v := 0) hx hb dX0_isHushed_18 (by decide) ?_
      exact W.zret (v := 0) hx hb hr rfl (fun t ht hW => ⟨0, rfl, Or.inr ⟨by omega, rfl⟩, ht⟩) (fun q h => by cases h) dX0_isHushed_19
    · refine lv_iconst (v := 1) hx hb dX0_isHushed_14 (by decide) ?_
      refine lv_goto (tgt := 19) hx hb dX0_isHushed_15 (by decide) ?_
      exact W.zret (v := 1) hx hb hr rfl (fun t ht hW => ⟨1, rfl, Or.inl ⟨by omega, rfl⟩, ht⟩) (fun q h => by cases h) dX0_isHushed_19

set_option maxHeartbeats 4000000 in
set_option maxRecDepth 100000 in
theorem c_X0_isLiveR (l : Launch) (D : va_G) (X0 : va_W) (L : List Nat) (K : Nat → Nat × Nat) (f : Nat → va_E) (S : Int) (tys : List (ClassId × FieldType)) (a : Nat) (hI : cqI S L K f) (ha : cqIs L K 0 a) : Met l yX0_isLive wsX0_isLive ({ frames := 1, cells := 0, slots := 0, locals := 20 }) (va_Pc [.ref a] (wo D tys (X0 ++ va_pl L f))) (vp_Si (fun r => ((cqF (f a) 12 = 0 ∧ cqF (f a) 8 = 0 ∧ cqF (f a) 9 = 0) ∧ r = 1) ∨ ((¬ (cqF (f a) 12 = 0 ∧ cqF (f a) 8 = 0 ∧ cqF (f a) 9 = 0)) ∧ r = 0))) 0 0 (fun _ => False) := by
  refine Met.ofW (cc := cX0_isLive) (maxL := 1) (ret := (some .boolean)) (by decide) rfl ?_
  intro p e s m args below meth c s₁ B hml hv
  obtain ⟨rfl, hP, hK, hD, hN⟩ := hv
  have hx := B.exec
  have hb := B.bytes
  have hr := B.returns
  have hts := atoms_spec (ws := wsX0_isLive) B.pre
  have hown : s.vm.findClass RX0 = some m.cls := findClass_of_methodNamed B.named
  have hlocks := B.notSynchronized
  have hl := lv_entry ([.ref a]) (n := 1) (Nat.le_of_ble_eq_true rfl)
  rw [lg_entry_eq]
  generalize (lg_sl ([.ref a]) ++ List.replicate (1 - (lg_sl ([.ref a])).length) Slot.unset).toArray = ls at hl ⊢
  have hl : lv_has ls 1 [(0, .ref a)] := hl
  refine lv_aload_n hx hb dX0_isLive_0 rfl (lv_at hl 0 rfl) ?_
  refine vp_callSi (wrV (As := []) (rest := []) ⟨hx, hb, hml, hown, hts⟩ hN hK hP hD (c_X0_isOpenR l D X0 L K f S tys a hI ha) (cwV 0 hts gX0_isLive_X0_isOpen rfl rfl rfl (by decide +kernel) ⟨(Nat.le_of_ble_eq_true rfl), (Nat.le_of_ble_eq_true rfl)⟩) 0 rfl (cq_rcA (X := X0) hI ha) rfl hl.1 rfl (Nat.le_of_ble_eq_true rfl) dX0_isLive_1 ⟨(Nat.le_of_ble_eq_true rfl), (Nat.le_of_ble_eq_true rfl)⟩) (fun r_1 h_2 => ?_)
  rcases h_2 with ⟨h_2, rfl⟩ | ⟨h_2, rfl⟩
  · have h_2 : cqF (f a) 12 = 0 := h_2
    refine lv_if_eq (tgt := 18) hx hb dX0_isLive_4 (by decide) (fun c_ => absurd c_ (by decide)) (fun _ => ?_)
    refine lv_aload_n hx hb dX0_isLive_7 rfl (lv_at hl 0 rfl) ?_
    refine vp_callSi (wrV (As := []) (rest := []) ⟨hx, hb, hml, hown, hts⟩ hN hK hP hD (c_X0_isHushedR l D X0 L K f S tys a hI ha) (cwV 0 hts gX0_isLive_X0_isHushed rfl rfl rfl (by decide +kernel) ⟨(Nat.le_of_ble_eq_true rfl), (Nat.le_of_ble_eq_true rfl)⟩) 0 rfl (cq_rcA (X := X0) hI ha) rfl hl.1 rfl (Nat.le_of_ble_eq_true rfl) dX0_isLive_8 ⟨(Nat.le_of_ble_eq_true rfl), (Nat.le_of_ble_eq_true rfl)⟩) (fun r_3 h_4 => ?_)
    rcases h_4 with ⟨h_4, rfl⟩ | ⟨h_4, rfl⟩
    · have h_4 : ¬ (cqF (f a) 8 = 0 ∧ cqF (f a) 9 = 0) := h_4
      refine lv_if_ne (tgt := 18) hx hb dX0_isLive_11 (by decide) (fun _ => ?_) (fun c_ => absurd c_ (by decide))
      refine lv_iconst (v := 0) hx hb dX0_isLive_18 (by decide) ?_
      exact W.zret (v := 0) hx hb hr rfl (fun t ht hW => ⟨0, rfl, Or.inr ⟨by omega, rfl⟩, ht⟩) (fun q h => by cases h) dX0_isLive_19
    · have h_4 : cqF (f a) 8 = 0 ∧ cqF (f a) 9 = 0 := h_4
      refine lv_if_ne (tgt := 18) hx hb dX0_isLive_11 (by decide) (fun c_ => absurd c_ (by decide)) (fun _ => ?_)
      refine lv_iconst (v := 1) hx hb dX0_isLive_14 (by decide) ?_
      refine lv_goto (tgt := 19) hx hb dX0_isLive_15 (by decide) ?_
      exact W.zret (v := 1) hx hb hr rfl (fun t ht hW => ⟨1, rfl, Or.inl ⟨by omega, rfl⟩, ht⟩) (fun q h => by cases h) dX0_isLive_19
  · have h_2 : ¬ cqF (f a) 12 = 0 := h_2
    refine lv_if_eq (tgt := 18) hx hb dX0_isLive_4 (by decide) (fun _ => ?_) (fun c_ => absurd c_ (by decide))
    refine lv_iconst (v := 0) hx hb dX0_isLive_18 (by decide) ?_
    exact W.zret (v := 0) hx hb hr rfl (fun t ht hW => ⟨0, rfl, Or.inr ⟨by omega, rfl⟩, ht⟩) (fun q h => by cases h) dX0_isLive_19

set_option maxHeartbeats 4000000 in
set_option maxRecDepth 100000 in
theorem c_X0_hasHeardR (l : Launch) (D : va_G) (X0 : va_W) (L : List Nat) (K : Nat → Nat × Nat) (f : Nat → va_E) (S : Int) (tys : List (ClassId × FieldType)) (a : Nat) (v : Int32) (hI : cqI S L K f) (ha : cqIs L K 0 a) : Met l yX0_hasHeard wsX0_hasHeard ({ frames := 0, cells := 0, slots := 0, locals := 0 }) (va_Pc [.ref a, .int v] (wo D tys (X0 ++ va_pl L f))) (vp_Si (fun r => ((hhC (cqF (f a) 13) (cqF (f a) 14) v) ∧ r = 1) ∨ ((¬ hhC (cqF (f a) 13) (cqF (f a) 14) v) ∧ r = 0))) 0 0 (fun _ => False) := by
  refine Met.ofW (cc := cX0_hasHeard) (maxL := 2) (ret := (some .boolean)) (by decide) rfl ?_
  intro p e s m args below meth c s₁ B hml hv
  obtain ⟨rfl, hP, hK, hD, hN⟩ := hv
  have hx := B.exec
  have hb := B.bytes
  have hr := B.returns
  have hts := atoms_spec (ws := wsX0_hasHeard) B.pre
  have hown : s.vm.findClass RX0 = some m.cls := findClass_of_methodNamed B.named
  have hlocks := B.notSynchronized
  have hin_X0 : ∀ w ∈ u_ws RX0 TX0 17, w ∈ wsX0_hasHeard := fun w h => List.mem_cons_of_mem _ (List.mem_append_right _ (h))
  have hl := lv_entry ([.ref a, .int v]) (n := 2) (Nat.le_of_ble_eq_true rfl)
  rw [lg_entry_eq]
  generalize (lg_sl ([.ref a, .int v]) ++ List.replicate (2 - (lg_sl ([.ref a, .int v])).length) Slot.unset).toArray = ls at hl ⊢
  have hl : lv_has ls 2 [(0, .ref a), (1, .int v)] := hl
  refine lv_aload_n hx hb dX0_hasHeard_0 rfl (lv_at hl 0 rfl) ?_
  obtain ⟨nu_1, ca_1, so_1, th_1, ma_1, wo_1, lf_1, ld_1, si_1, cp_1, he_1, re_1, sv_1, lt_1, lF_1, sn_1, ab_1, hf_1, hnu_1, hlf_1, hld_1, hsi_1, hcp_1, hsn_1, hab_1⟩ := hI.opA ha
  have F2hf_1 : cqF (f a) 2 = (so_1).toInt := by rw [hf_1]; rfl
  have F3hf_1 : cqF (f a) 3 = (th_1).toInt := by rw [hf_1]; rfl
  have F4hf_1 : cqF (f a) 4 = (ma_1).toInt := by rw [hf_1]; rfl
  have F8hf_1 : cqF (f a) 8 = (si_1).toInt := by rw [hf_1]; rfl
  have F9hf_1 : cqF (f a) 9 = (cp_1).toInt := by rw [hf_1]; rfl
  have F10hf_1 : cqF (f a) 10 = (he_1).toInt := by rw [hf_1]; rfl
  have F12hf_1 : cqF (f a) 12 = (sv_1).toInt := by rw [hf_1]; rfl
  have F13hf_1 : cqF (f a) 13 = (lt_1).toInt := by rw [hf_1]; rfl
  have F14hf_1 : cqF (f a) 14 = (lF_1).toInt := by rw [hf_1]; rfl
  refine pl_get (D := D) (ci := 0) (v := .int lt_1) (C := RX0) (T := TX0) (N := 17) hx hb hts hin_X0 hown hK hP ha.1 hf_1 rfl 13 (by decide) (hts (.fieldLink RX0 66 "CryOrder$Alarm" "lookersForTrue" "I") (List.mem_cons_of_mem _ (List.mem_append_left _ (List.mem_of_getElem? (i := 0) rfl)))) (fun _ h9 => h9) rfl dX0_hasHeard_1 ?_
  refine lv_aload_n hx hb dX0_hasHeard_4 rfl (lv_at hl 0 rfl) ?_
  refine pl_get (D := D) (ci := 0) (v := .int lF_1) (C := RX0) (T := TX0) (N := 17) hx hb hts hin_X0 hown hK hP ha.1 hf_1 rfl 14 (by decide) (hts (.fieldLink RX0 69 "CryOrder$Alarm" "lookersForFalse" "I") (List.mem_cons_of_mem _ (List.mem_append_left _ (List.mem_of_getElem? (i := 1) rfl)))) (fun _ h9 => h9) rfl dX0_hasHeard_5 ?_
  refine lv_ior hx hb dX0_hasHeard_8 ?_
  refine lv_topi (fun z_2 ez_2 => ?_)
  refine lv_iload_n hx hb dX0_hasHeard_9 rfl (lv_at hl 1 rfl) ?_
  refine lv_ishr hx hb dX0_hasHeard_10 ?_
  refine lv_topi (fun z_3 ez_3 => ?_)
  refine lv_iconst (v := 1) hx hb dX0_hasHeard_11 (by decide) ?_
  refine lv_iand hx hb dX0_hasHeard_12 ?_
  refine lv_topi (fun z_4 ez_4 => ?_)
  have tz_4 := an1_toInt ez_4
  refine lv_iconst (v := 1) hx hb dX0_hasHeard_13 (by decide) ?_
  have hhE : hhC (cqF (f a) 13) (cqF (f a) 14) v ↔ (z_4).toInt = 1 := by rw [F13hf_1, F14hf_1, hhC_of, ← ez_2, ← ez_3, ← ez_4]
  refine bi_ne (zx := (z_4).toInt) (zy := 1) (tgt := 21) hx hb dX0_hasHeard_14 (by decide) rfl (by decide) (fun c_5 => ?_) (fun c_5 => ?_)
  · refine lv_iconst (v := 0) hx hb dX0_hasHeard_21 (by decide) ?_
    exact W.zret (v := 0) hx hb hr rfl (fun t ht hW => ⟨0, rfl, Or.inr ⟨fun h9 => absurd (hhE.mp h9) (by omega), rfl⟩, ht⟩) (fun q h => by cases h) dX0_hasHeard_22
  · refine lv_iconst (v := 1) hx hb dX0_hasHeard_17 (by decide) ?_
    refine lv_goto (tgt := 22) hx hb dX0_hasHeard_18 (by decide) ?_
    exact W.zret (v := 1) hx hb hr rfl (fun t ht hW => ⟨1, rfl, Or.inl ⟨hhE.mpr (by omega), rfl⟩, ht⟩) (fun q h => by cases h) dX0_hasHeard_22

set_option maxHeartbeats 4000000 in
set_option maxRecDepth 100000 in
theorem c_bitCountR (l : Launch) (D : va_G) (v : Int32) : Met l yJ6_bitCount_0f7a4 wsJ6_bitCount_0f7a4 ({ frames := 0, cells := 0, slots := 0, locals := 0 }) (va_Pc [.int v] (wo D [] [])) (vp_Si (fun r => (r).toInt = bcI (v).toInt)) 0 0 (fun _ => False) := by
  refine Met.ofW (cc := cJ6_bitCount_0f7a4) (maxL := 1) (ret := (some .int)) (by decide) rfl ?_
  intro p e s m args below meth c s₁ B hml hv
  obtain ⟨rfl, hP, hK, hD, hN⟩ := hv
  have hx := B.exec
  have hb := B.bytes
  have hr := B.returns
  have hts := atoms_spec (ws := wsJ6_bitCount_0f7a4) B.pre
  have hown : s.vm.findClass RJ6 = some m.cls := findClass_of_methodNamed B.named
  have hlocks := B.notSynchronized
  have hl := lv_entry ([.int v]) (n := 1) (Nat.le_of_ble_eq_true rfl)
  rw [lg_entry_eq]
  generalize (lg_sl ([.int v]) ++ List.replicate (1 - (lg_sl ([.int v])).length) Slot.unset).toArray = ls at hl ⊢
  have hl : lv_has ls 1 [(0, .int v)] := hl
  refine lv_iload_n hx hb dJ6_bitCount_0f7a4_0 rfl (lv_at hl 0 rfl) ?_
  refine lv_iload_n hx hb dJ6_bitCount_0f7a4_1 rfl (lv_at hl 0 rfl) ?_
  refine lv_iconst (v := 1) hx hb dJ6_bitCount_0f7a4_2 (by decide) ?_
  refine lv_iushr hx hb dJ6_bitCount_0f7a4_3 rfl ?_
  refine lv_topi (fun z_1 ez_1 => ?_)
  refine lv_ldcw (v := (1431655765)) hx hb hown (hts (.constant RJ6 265 (1431655765)) (List.mem_cons_of_mem _ (List.mem_of_getElem? (i := 0) rfl))) dJ6_bitCount_0f7a4_4 ?_
  refine lv_iand hx hb dJ6_bitCount_0f7a4_7 ?_
  refine lv_topi (fun z_2 ez_2 => ?_)
  refine lv_isub hx hb dJ6_bitCount_0f7a4_8 ?_
  refine lv_topi (fun z_3 ez_3 => ?_)
  have tz_3 := sb_toInt (zx := (v).toInt) (zy := (z_2).toInt) ez_3 rfl rfl
  refine lv_istore_n (lv' := [(0, .int z_3)]) hx hb dJ6_bitCount_0f7a4_9 rfl hl (by decide) rfl (fun ls hl => ?_)
  refine lv_iload_n hx hb dJ6_bitCount_0f7a4_10 rfl (lv_at hl 0 rfl) ?_
  refine lv_ldcw (v := (858993459)) hx hb hown (hts (.constant RJ6 266 (858993459)) (List.mem_cons_of_mem _ (List.mem_of_getElem? (i := 1) rfl))) dJ6_bitCount_0f7a4_11 ?_
  refine lv_iand hx hb dJ6_bitCount_0f7a4_14 ?_
  refine lv_topi (fun z_4 ez_4 => ?_)
  refine lv_iload_n hx hb dJ6_bitCount_0f7a4_15 rfl (lv_at hl 0 rfl) ?_
  refine lv_iconst (v := 2) hx hb dJ6_bitCount_0f7a4_16 (by decide) ?_
  refine lv_iushr hx hb dJ6_bitCount_0f7a4_17 rfl ?_
  refine lv_topi (fun z_5 ez_5 => ?_)
  refine lv_ldcw (v := (858993459)) hx hb hown (hts (.constant RJ6 266 (858993459)) (List.mem_cons_of_mem _ (List.mem_of_getElem? (i := 1) rfl))) dJ6_bitCount_0f7a4_18 ?_
  refine lv_iand hx hb dJ6_bitCount_0f7a4_21 ?_
  refine lv_topi (fun z_6 ez_6 => ?_)
  refine lv_iadd hx hb dJ6_bitCount_0f7a4_22 ?_
  refine lv_topi (fun z_7 ez_7 => ?_)
  have tz_7 := ad_toInt (zx := (z_4).toInt) (zy := (z_6).toInt) ez_7 rfl rfl
  refine lv_istore_n (lv' := [(0, .int z_7)]) hx hb dJ6_bitCount_0f7a4_23 rfl hl (by decide) rfl (fun ls hl => ?_)
  refine lv_iload_n hx hb dJ6_bitCount_0f7a4_24 rfl (lv_at hl 0 rfl) ?_
  refine lv_iload_n hx hb dJ6_bitCount_0f7a4_25 rfl (lv_at hl 0 rfl) ?_
  refine lv_iconst (v := 4) hx hb dJ6_bitCount_0f7a4_26 (by decide) ?_
  refine lv_iushr hx hb dJ6_bitCount_0f7a4_27 rfl ?_
  refine lv_topi (fun z_8 ez_8 => ?_)
  refine lv_iadd hx hb dJ6_bitCount_0f7a4_28 ?_
  refine lv_topi (fun z_9 ez_9 => ?_)
  have tz_9 := ad_toInt (zx := (z_7).toInt) (zy := (z_8).toInt) ez_9 rfl rfl
  refine lv_ldcw (v := (252645135)) hx hb hown (hts (.constant RJ6 267 (252645135)) (List.mem_cons_of_mem _ (List.mem_of_getElem? (i := 2) rfl))) dJ6_bitCount_0f7a4_29 ?_
  refine lv_iand hx hb dJ6_bitCount_0f7a4_32 ?_
  refine lv_topi (fun z_10 ez_10 => ?_)
  refine lv_istore_n (lv' := [(0, .int z_10)]) hx hb dJ6_bitCount_0f7a4_33 rfl hl (by decide) rfl (fun ls hl => ?_)
  refine lv_iload_n hx hb dJ6_bitCount_0f7a4_34 rfl (lv_at hl 0 rfl) ?_
  refine lv_iload_n hx hb dJ6_bitCount_0f7a4_35 rfl (lv_at hl 0 rfl) ?_
  refine lv_bipush (v := 8) hx hb dJ6_bitCount_0f7a4_36 (by decide) ?_
  refine lv_iushr hx hb dJ6_bitCount_0f7a4_38 rfl ?_
  refine lv_topi (fun z_11 ez_11 => ?_)
  refine lv_iadd hx hb dJ6_bitCount_0f7a4_39 ?_
  refine lv_topi (fun z_12 ez_12 => ?_)
  have tz_12 := ad_toInt (zx := (z_10).toInt) (zy := (z_11).toInt) ez_12 rfl rfl
  refine lv_istore_n (lv' := [(0, .int z_12)]) hx hb dJ6_bitCount_0f7a4_40 rfl hl (by decide) rfl (fun ls hl => ?_)
  refine lv_iload_n hx hb dJ6_bitCount_0f7a4_41 rfl (lv_at hl 0 rfl) ?_
  refine lv_iload_n hx hb dJ6_bitCount_0f7a4_42 rfl (lv_at hl 0 rfl) ?_
  refine lv_bipush (v := 16) hx hb dJ6_bitCount_0f7a4_43 (by decide) ?_
  refine lv_iushr hx hb dJ6_bitCount_0f7a4_45 rfl ?_
  refine lv_topi (fun z_13 ez_13 => ?_)
  refine lv_iadd hx hb dJ6_bitCount_0f7a4_46 ?_
  refine lv_topi (fun z_14 ez_14 => ?_)
  have tz_14 := ad_toInt (zx := (z_12).toInt) (zy := (z_13).toInt) ez_14 rfl rfl
  refine lv_istore_n (lv' := [(0, .int z_14)]) hx hb dJ6_bitCount_0f7a4_47 rfl hl (by decide) rfl (fun ls hl => ?_)
  refine lv_iload_n hx hb dJ6_bitCount_0f7a4_48 rfl (lv_at hl 0 rfl) ?_
  refine lv_bipush (v := 63) hx hb dJ6_bitCount_0f7a4_49 (by decide) ?_
  refine lv_iand hx hb dJ6_bitCount_0f7a4_51 ?_
  refine lv_topi (fun z_15 ez_15 => ?_)
  exact W.iret (v := z_15) hx hb hr (fun t ht hW => ⟨z_15, rfl, (by rw [bcI_of, ez_15, ez_14, ez_13, ez_12, ez_11, ez_10, ez_9, ez_8, ez_7, ez_6, ez_5, ez_4, ez_3, ez_2, ez_1]; rfl), ht⟩) (fun q h => by cases h) dJ6_bitCount_0f7a4_52

set_option maxHeartbeats 4000000 in
set_option maxRecDepth 100000 in
theorem c_X8_alarmAtR (l : Launch) (D : va_G) (xo : Nat) (ro : Nat) (tI : Nat) (cS : Nat) (pN : Nat) (a1 : Nat) (a2 : Nat) (a3 : Nat) (a4 : Nat) (a5 : Nat) (a6 : Nat) (a7 : Nat) (a8 : Nat) (a9 : Nat) (e1 : ClassId) (e2 : ClassId) (e3 : ClassId) (e4 : ClassId) (e5 : ClassId) (e6 : ClassId) (e7 : ClassId) (e8 : ClassId) (e9 : ClassId) (na : Int32) (ns : Int32) (nw : Int32) (cp : Int32) (le : Int32) (tr : Int32) (sl : Int32) (tz : Int32) (cz : Int32) (q1 : Int32) (q2 : Int32) (q3 : Int32) (q4 : Int32) (g1 : Nat → Option Nat) (g2 : Nat → Option Nat) (g3 : Nat → Option Nat) (g4 : Nat → Option Nat) (g5 : Nat → Option Nat) (g6 : Nat → Option Nat) (g7 : Nat → Option Nat) (y8 : Nat → Int32) (y9 : Nat → Int32) (L : List Nat) (K : Nat → Nat × Nat) (f : Nat → va_E) (S : Int) (v : Int32) (hI : cqI S L K f) (hna : 0 ≤ (na).toInt ∧ (na).toInt ≤ 200) (j1 : cqJA L K (na).toInt g1) : Met l yX8_alarmAt wsX8_alarmAt ({ frames := 1, cells := 0, slots := 0, locals := 21 }) (va_Pc [.ref xo, .int v] (wo D [(e1, .object RX0), (e2, .object RX0), (e3, .object RX6), (e4, .object RX4), (e5, .object RX1), (e6, .object RX1), (e7, .object RX1), (e8, .int), (e9, .int)] ([oC xo 8 [.ref a1, .ref a2, .ref a3, .ref ro, .ref tI, .ref cS, .ref pN, .int na, .int ns, .int nw, .int cp, .int le, .int tr, .int sl], aR a1 e1 200 (g1), aR a2 e2 40 (g2), aR a3 e3 30 (g3), oC tI 7 [.ref a4, .int tz], aR a4 e4 60 (g4), oC cS 2 [.ref a5, .int cz], aR a5 e5 200 (g5), oC pN 5 [.ref a6, .ref a7, .ref a8, .ref a9, .int q1, .int q2, .int q3, .int q4], aR a6 e6 17 (g6), aR a7 e7 12 (g7), aI a8 e8 301 (y8), aI a9 e9 301 (y9)] ++ va_pl L f))) (va_Sq (fun r => cqOp L K 0 r ∧ atS (na).toInt (v).toInt (v).toInt.toNat g1 r)) 0 0 (fun _ => False) := by
  refine Met.ofW (cc := cX8_alarmAt) (maxL := 2) (ret := (some (.object "CryOrder$Alarm"))) (by decide) rfl ?_
  intro p e s m args below meth c s₁ B hml hv
  obtain ⟨rfl, hP, hK, hD, hN⟩ := hv
  have hx := B.exec
  have hb := B.bytes
  have hr := B.returns
  have hts := atoms_spec (ws := wsX8_alarmAt) B.pre
  have hown : s.vm.findClass RX8 = some m.cls := findClass_of_methodNamed B.named
  have hlocks := B.notSynchronized
  have hin_X8 : ∀ w ∈ u_ws RX8 TX8 14, w ∈ wsX8_alarmAt := fun w h => List.mem_cons_of_mem _ (List.mem_append_right _ (h))
  have hl := lv_entry ([.ref xo, .int v]) (n := 2) (Nat.le_of_ble_eq_true rfl)
  rw [lg_entry_eq]
  generalize (lg_sl ([.ref xo, .int v]) ++ List.replicate (2 - (lg_sl ([.ref xo, .int v])).length) Slot.unset).toArray = ls at hl ⊢
  have hl : lv_has ls 2 [(0, .ref xo), (1, .int v)] := hl
  refine lv_iload_n hx hb dX8_alarmAt_0 rfl (lv_at hl 1 rfl) ?_
  refine lv_aload_n hx hb dX8_alarmAt_1 rfl (lv_at hl 0 rfl) ?_
  refine va_get (D := D) (ci := 8) (v := .int na) (C := RX8) (T := TX8) (N := 14) hx hb hts hin_X8 hown hK hP 0 rfl rfl 7 (by decide) (hts (.fieldLink RX8 79 "CryOrder" "alarmCount" "I") (List.mem_cons_of_mem _ (List.mem_append_left _ (List.mem_of_getElem? (i := 0) rfl)))) (fun _ h9 => h9) rfl dX8_alarmAt_2 ?_
  refine vp_callSi (zrS (As := [.int v, .int na]) (rest := []) (wc := []) ⟨hx, hb, hml, hown, hts⟩ hN hK hP hD (c_X8_isBelow l D v na ) (va_cwS 2 hts gX8_alarmAt_X8_isBelow rfl rfl rfl (by decide +kernel) ⟨(Nat.le_of_ble_eq_true rfl), (Nat.le_of_ble_eq_true rfl)⟩) [] [] rfl rfl (by decide) rfl hl.1 rfl (Nat.le_of_ble_eq_true rfl) dX8_alarmAt_5 ⟨(Nat.le_of_ble_eq_true rfl), (Nat.le_of_ble_eq_true rfl)⟩) (fun r_1 h_2 => ?_)
  rcases h_2 with ⟨h_2, rfl⟩ | ⟨h_2, rfl⟩
  · have h_2 : 0 ≤ (v).toInt ∧ (v).toInt < (na).toInt := h_2
    refine lv_if_eq (tgt := 20) hx hb dX8_alarmAt_8 (by decide) (fun c_ => absurd c_ (by decide)) (fun _ => ?_)
    refine lv_aload_n hx hb dX8_alarmAt_11 rfl (lv_at hl 0 rfl) ?_
    refine va_get (D := D) (ci := 8) (v := .ref a1) (C := RX8) (T := TX8) (N := 14) hx hb hts hin_X8 hown hK hP 0 rfl rfl 0 (by decide) (hts (.fieldLink RX8 11 "CryOrder" "alarms" "[LCryOrder$Alarm;") (List.mem_cons_of_mem _ (List.mem_append_left _ (List.mem_of_getElem? (i := 1) rfl)))) (fun _ h9 => h9) rfl dX8_alarmAt_12 ?_
    refine lv_iload_n hx hb dX8_alarmAt_15 rfl (lv_at hl 1 rfl) ?_
    refine va_aldq hx hb hK hP 1 0 rfl rfl (vp_in_iff.mpr (by omega)) dX8_alarmAt_16 ?_
    obtain ⟨b_3, eb_3, ib_3, kb_3⟩ := cqJA.get (i := (v : Int32)) j1 (by first | omega | decide) (by first | omega | decide)
    refine lv_topv (z := .ref b_3) (congrArg va_rf eb_3) ?_
    refine lv_goto (tgt := 21) hx hb dX8_alarmAt_17 (by decide) ?_
    exact W.aret (v := .ref b_3) hx hb hr (Or.inl ⟨_, rfl⟩) (Or.inr ⟨_, rfl⟩) (fun t ht hW => ⟨(some b_3), rfl, ⟨cqOp.some ib_3, fun b9 h9 => (by cases h9; exact ⟨by omega, eb_3⟩), fun h9 => (by cases h9)⟩, ht⟩) (fun q h => by cases h) dX8_alarmAt_21
  · have h_2 : (v).toInt < 0 ∨ (na).toInt ≤ (v).toInt := h_2
    refine lv_if_eq (tgt := 20) hx hb dX8_alarmAt_8 (by decide) (fun _ => ?_) (fun c_ => absurd c_ (by decide))
    refine lv_null hx hb dX8_alarmAt_20 ?_
    exact W.aret (v := .null) hx hb hr (Or.inl ⟨_, rfl⟩) (Or.inl rfl) (fun t ht hW => ⟨none, rfl, ⟨cqOp.none, fun b9 h9 => (by cases h9), fun _ h9 => (by omega)⟩, ht⟩) (fun q h => by cases h) dX8_alarmAt_21
